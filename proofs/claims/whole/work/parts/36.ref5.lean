def k_product : Nat := 270
set_option maxRecDepth 20000 in
theorem pm_product : mj_mmof pg_ms k_product = some ((⟨"ArrayCalculatorModel", "product", "(JJI)J"⟩, prog_14_method_53_code, 9, (Option.some Jvm.ClassFile.FieldType.long)), 12, false, mj_dec prog_14_method_53_code) := rfl
theorem dm_product_0 : mj_dec prog_14_method_53_code 0 = some (.lload_n 1, 1) := by decide +kernel
theorem dm_product_1 : mj_dec prog_14_method_53_code 1 = some (.lload_n 3, 1) := by decide +kernel
theorem dm_product_2 : mj_dec prog_14_method_53_code 2 = some (.lmul, 1) := by decide +kernel
theorem dm_product_3 : mj_dec prog_14_method_53_code 3 = some (.lstore 6, 2) := by decide +kernel
theorem dm_product_5 : mj_dec prog_14_method_53_code 5 = some (.lload_n 1, 1) := by decide +kernel
theorem dm_product_6 : mj_dec prog_14_method_53_code 6 = some (.ldc2_w 253, 3) := by decide +kernel
theorem dm_product_9 : mj_dec prog_14_method_53_code 9 = some (.lcmp, 1) := by decide +kernel
theorem dm_product_10 : mj_dec prog_14_method_53_code 10 = some (.ifCond .ne 19, 3) := by decide +kernel
theorem dm_product_13 : mj_dec prog_14_method_53_code 13 = some (.lload_n 3, 1) := by decide +kernel
theorem dm_product_14 : mj_dec prog_14_method_53_code 14 = some (.ldc2_w 262, 3) := by decide +kernel
theorem dm_product_17 : mj_dec prog_14_method_53_code 17 = some (.lcmp, 1) := by decide +kernel
theorem dm_product_18 : mj_dec prog_14_method_53_code 18 = some (.ifCond .ne 7, 3) := by decide +kernel
theorem dm_product_21 : mj_dec prog_14_method_53_code 21 = some (.iconst 1, 1) := by decide +kernel
theorem dm_product_22 : mj_dec prog_14_method_53_code 22 = some (.goto 27, 3) := by decide +kernel
theorem dm_product_25 : mj_dec prog_14_method_53_code 25 = some (.iconst 0, 1) := by decide +kernel
theorem dm_product_26 : mj_dec prog_14_method_53_code 26 = some (.goto 23, 3) := by decide +kernel
theorem dm_product_29 : mj_dec prog_14_method_53_code 29 = some (.lload_n 1, 1) := by decide +kernel
theorem dm_product_30 : mj_dec prog_14_method_53_code 30 = some (.lconst 0, 1) := by decide +kernel
theorem dm_product_31 : mj_dec prog_14_method_53_code 31 = some (.lcmp, 1) := by decide +kernel
theorem dm_product_32 : mj_dec prog_14_method_53_code 32 = some (.ifCond .eq 16, 3) := by decide +kernel
theorem dm_product_35 : mj_dec prog_14_method_53_code 35 = some (.lload 6, 2) := by decide +kernel
theorem dm_product_37 : mj_dec prog_14_method_53_code 37 = some (.lload_n 1, 1) := by decide +kernel
theorem dm_product_38 : mj_dec prog_14_method_53_code 38 = some (.ldiv, 1) := by decide +kernel
theorem dm_product_39 : mj_dec prog_14_method_53_code 39 = some (.lload_n 3, 1) := by decide +kernel
theorem dm_product_40 : mj_dec prog_14_method_53_code 40 = some (.lcmp, 1) := by decide +kernel
theorem dm_product_41 : mj_dec prog_14_method_53_code 41 = some (.ifCond .eq 7, 3) := by decide +kernel
theorem dm_product_44 : mj_dec prog_14_method_53_code 44 = some (.iconst 1, 1) := by decide +kernel
theorem dm_product_45 : mj_dec prog_14_method_53_code 45 = some (.goto 4, 3) := by decide +kernel
theorem dm_product_48 : mj_dec prog_14_method_53_code 48 = some (.iconst 0, 1) := by decide +kernel
theorem dm_product_49 : mj_dec prog_14_method_53_code 49 = some (.istore 8, 2) := by decide +kernel
theorem dm_product_51 : mj_dec prog_14_method_53_code 51 = some (.iload 8, 2) := by decide +kernel
theorem dm_product_53 : mj_dec prog_14_method_53_code 53 = some (.ifCond .eq 15, 3) := by decide +kernel
theorem dm_product_56 : mj_dec prog_14_method_53_code 56 = some (.aload_n 0, 1) := by decide +kernel
theorem dm_product_57 : mj_dec prog_14_method_53_code 57 = some (.bipush 6, 2) := by decide +kernel
theorem dm_product_59 : mj_dec prog_14_method_53_code 59 = some (.iload 5, 2) := by decide +kernel
theorem dm_product_61 : mj_dec prog_14_method_53_code 61 = some (.invokevirtual 190, 3) := by decide +kernel
theorem dm_product_64 : mj_dec prog_14_method_53_code 64 = some (.i2l, 1) := by decide +kernel
theorem dm_product_65 : mj_dec prog_14_method_53_code 65 = some (.goto 5, 3) := by decide +kernel
theorem dm_product_68 : mj_dec prog_14_method_53_code 68 = some (.lload 6, 2) := by decide +kernel
theorem dm_product_70 : mj_dec prog_14_method_53_code 70 = some (.lreturn, 1) := by decide +kernel
def a_product (i : Nat → Int32) (l : Nat → Int64) (I : Nat → Nat → Int32) (J : Nat → Nat → Int64) (p0 : Int64) (p1 : Int64) (p2 : Int32) : Int64 := (if mj_cnd .ne (lg_cmp p0 (-1 : Int64)) (0 : Int32) = true then (if mj_cnd .eq (lg_cmp p0 (0 : Int64)) (0 : Int32) = true then (p0 * p1) else (if mj_cnd .eq (lg_cmp ((p0 * p1) / p0) p1) (0 : Int32) = true then (p0 * p1) else ((a_fail i l I J (6 : Int32) p2)).toInt64)) else (if mj_cnd .ne (lg_cmp p1 (-9223372036854775808 : Int64)) (0 : Int32) = true then (p0 * p1) else ((a_fail i l I J (6 : Int32) p2)).toInt64))
def si_product (i : Nat → Int32) (l : Nat → Int64) (I : Nat → Nat → Int32) (J : Nat → Nat → Int64) (p0 : Int64) (p1 : Int64) (p2 : Int32) : Nat → Int32 := (if mj_cnd .ne (lg_cmp p0 (-1 : Int64)) (0 : Int32) = true then (if mj_cnd .eq (lg_cmp p0 (0 : Int64)) (0 : Int32) = true then i else (if mj_cnd .eq (lg_cmp ((p0 * p1) / p0) p1) (0 : Int32) = true then i else (si_fail i l I J (6 : Int32) p2))) else (if mj_cnd .ne (lg_cmp p1 (-9223372036854775808 : Int64)) (0 : Int32) = true then i else (si_fail i l I J (6 : Int32) p2)))
def ok_product (i : Nat → Int32) (l : Nat → Int64) (I : Nat → Nat → Int32) (J : Nat → Nat → Int64) (p0 : Int64) (p1 : Int64) (p2 : Int32) : Prop := (if mj_cnd .ne (lg_cmp p0 (-1 : Int64)) (0 : Int32) = true then (if mj_cnd .eq (lg_cmp p0 (0 : Int64)) (0 : Int32) = true then True else (¬ (p0 = 0) ∧ (if mj_cnd .eq (lg_cmp ((p0 * p1) / p0) p1) (0 : Int32) = true then True else (ok_fail i l I J (6 : Int32) p2 ∧ True)))) else (if mj_cnd .ne (lg_cmp p1 (-9223372036854775808 : Int64)) (0 : Int32) = true then True else (ok_fail i l I J (6 : Int32) p2 ∧ True)))
set_option maxRecDepth 20000 in
theorem q_product {xt : mj_X} {pre post : mj_H} {m : Nat} {i : Nat → Int32} {l : Nat → Int64} {I : Nat → Nat → Int32} {J : Nat → Nat → Int64} {d : Nat} (hm : pre.length = m) (h2 : 2 ≤ m) {p0 : Int64} {p1 : Int64} {p2 : Int32} (hok : ok_product i l I J p0 p1 p2) : pgC xt (d + 2) k_product (.ref m :: [.long p0, .long p1, .int p2]) (rH pre post m i l I J) (some (.long (a_product i l I J p0 p1 p2))) (rH pre post m (si_product i l I J p0 p1 p2) l I J) := by
  unfold ok_product at hok
  refine ms_call pm_product (Nat.le_of_ble_eq_true rfl) ?_
  dsimp only
  refine ms1 dm_product_0 rfl rfl rfl rfl ?_
  refine ms1 dm_product_1 rfl rfl rfl rfl ?_
  refine ms0 dm_product_2 rfl rfl rfl rfl ?_
  refine ms1 dm_product_3 rfl rfl rfl rfl ?_
  refine ms1 dm_product_5 rfl rfl rfl rfl ?_
  refine ms3 (S' := .long (-1 : Int64) :: _) dm_product_6 rfl rfl rfl rfl ?_
  refine ms0 dm_product_9 rfl rfl rfl rfl ?_
  refine ms_1c dm_product_10 rfl rfl (fun hb1 => ?_) (fun hb1 => ?_)
  · have hb1 : mj_cnd .ne (lg_cmp p0 (-1 : Int64)) (0 : Int32) = true := hb1
    rw [if_pos hb1] at hok
    refine ms1 dm_product_29 rfl rfl rfl rfl ?_
    refine ms0 (S' := .long (0 : Int64) :: _) dm_product_30 rfl rfl rfl rfl ?_
    refine ms0 dm_product_31 rfl rfl rfl rfl ?_
    refine ms_1c dm_product_32 rfl rfl (fun hb2 => ?_) (fun hb2 => ?_)
    · have hb2 : mj_cnd .eq (lg_cmp p0 (0 : Int64)) (0 : Int32) = true := hb2
      rw [if_pos hb2] at hok
      refine ms0 (S' := .int (0 : Int32) :: _) dm_product_48 rfl rfl rfl rfl ?_
      refine ms1 dm_product_49 rfl rfl rfl rfl ?_
      refine ms1 dm_product_51 rfl rfl rfl rfl ?_
      refine ms_1t dm_product_53 rfl rfl ?_
      refine ms1 dm_product_68 rfl rfl rfl rfl ?_
      simp only [a_product, si_product, hb1, hb2, Bool.false_eq_true, if_true, if_false]
      exact ms5 dm_product_70 rfl rfl rfl
    · have hb2 : ¬ (mj_cnd .eq (lg_cmp p0 (0 : Int64)) (0 : Int32) = true) := hb2
      rw [if_neg hb2] at hok
      refine ms1 dm_product_35 rfl rfl rfl rfl ?_
      refine ms1 dm_product_37 rfl rfl rfl rfl ?_
      obtain ⟨ho, hok⟩ := hok
      refine ms_ldiv dm_product_38 ho rfl ?_
      refine ms1 dm_product_39 rfl rfl rfl rfl ?_
      refine ms0 dm_product_40 rfl rfl rfl rfl ?_
      refine ms_1c dm_product_41 rfl rfl (fun hb3 => ?_) (fun hb3 => ?_)
      · have hb3 : mj_cnd .eq (lg_cmp ((p0 * p1) / p0) p1) (0 : Int32) = true := hb3
        rw [if_pos hb3] at hok
        refine ms0 (S' := .int (0 : Int32) :: _) dm_product_48 rfl rfl rfl rfl ?_
        refine ms1 dm_product_49 rfl rfl rfl rfl ?_
        refine ms1 dm_product_51 rfl rfl rfl rfl ?_
        refine ms_1t dm_product_53 rfl rfl ?_
        refine ms1 dm_product_68 rfl rfl rfl rfl ?_
        simp only [a_product, si_product, hb1, hb2, hb3, Bool.false_eq_true, if_true, if_false]
        exact ms5 dm_product_70 rfl rfl rfl
      · have hb3 : ¬ (mj_cnd .eq (lg_cmp ((p0 * p1) / p0) p1) (0 : Int32) = true) := hb3
        rw [if_neg hb3] at hok
        refine ms0 (S' := .int (1 : Int32) :: _) dm_product_44 rfl rfl rfl rfl ?_
        refine ms2 dm_product_45 rfl rfl rfl ?_
        refine ms1 dm_product_49 rfl rfl rfl rfl ?_
        refine ms1 dm_product_51 rfl rfl rfl rfl ?_
        refine ms_1f dm_product_53 rfl (by decide) rfl ?_
        refine ms1 dm_product_56 rfl rfl rfl rfl ?_
        refine ms0 (S' := .int (6 : Int32) :: _) dm_product_57 rfl rfl rfl rfl ?_
        refine ms1 dm_product_59 rfl rfl rfl rfl ?_
        obtain ⟨ho, hok⟩ := hok
        refine ms4 dm_product_61 rfl (r_inv (As := [.int (6 : Int32), .int p2]) hm h2 rfl rfl rfl) (q_fail hm h2 ho) rfl rfl rfl ?_
        refine ms0 dm_product_64 rfl rfl rfl rfl ?_
        refine ms2 dm_product_65 rfl rfl rfl ?_
        simp only [a_product, si_product, hb1, hb2, hb3, Bool.false_eq_true, if_true, if_false]
        exact ms5 dm_product_70 rfl rfl rfl
  · have hb1 : ¬ (mj_cnd .ne (lg_cmp p0 (-1 : Int64)) (0 : Int32) = true) := hb1
    rw [if_neg hb1] at hok
    refine ms1 dm_product_13 rfl rfl rfl rfl ?_
    refine ms3 (S' := .long (-9223372036854775808 : Int64) :: _) dm_product_14 rfl rfl rfl rfl ?_
    refine ms0 dm_product_17 rfl rfl rfl rfl ?_
    refine ms_1c dm_product_18 rfl rfl (fun hb4 => ?_) (fun hb4 => ?_)
    · have hb4 : mj_cnd .ne (lg_cmp p1 (-9223372036854775808 : Int64)) (0 : Int32) = true := hb4
      rw [if_pos hb4] at hok
      refine ms0 (S' := .int (0 : Int32) :: _) dm_product_25 rfl rfl rfl rfl ?_
      refine ms2 dm_product_26 rfl rfl rfl ?_
      refine ms1 dm_product_49 rfl rfl rfl rfl ?_
      refine ms1 dm_product_51 rfl rfl rfl rfl ?_
      refine ms_1t dm_product_53 rfl rfl ?_
      refine ms1 dm_product_68 rfl rfl rfl rfl ?_
      simp only [a_product, si_product, hb1, hb4, Bool.false_eq_true, if_true, if_false]
      exact ms5 dm_product_70 rfl rfl rfl
    · have hb4 : ¬ (mj_cnd .ne (lg_cmp p1 (-9223372036854775808 : Int64)) (0 : Int32) = true) := hb4
      rw [if_neg hb4] at hok
      refine ms0 (S' := .int (1 : Int32) :: _) dm_product_21 rfl rfl rfl rfl ?_
      refine ms2 dm_product_22 rfl rfl rfl ?_
      refine ms1 dm_product_49 rfl rfl rfl rfl ?_
      refine ms1 dm_product_51 rfl rfl rfl rfl ?_
      refine ms_1f dm_product_53 rfl (by decide) rfl ?_
      refine ms1 dm_product_56 rfl rfl rfl rfl ?_
      refine ms0 (S' := .int (6 : Int32) :: _) dm_product_57 rfl rfl rfl rfl ?_
      refine ms1 dm_product_59 rfl rfl rfl rfl ?_
      obtain ⟨ho, hok⟩ := hok
      refine ms4 dm_product_61 rfl (r_inv (As := [.int (6 : Int32), .int p2]) hm h2 rfl rfl rfl) (q_fail hm h2 ho) rfl rfl rfl ?_
      refine ms0 dm_product_64 rfl rfl rfl rfl ?_
      refine ms2 dm_product_65 rfl rfl rfl ?_
      simp only [a_product, si_product, hb1, hb4, Bool.false_eq_true, if_true, if_false]
      exact ms5 dm_product_70 rfl rfl rfl
def k_sum : Nat := 271
set_option maxRecDepth 20000 in
theorem pm_sum : mj_mmof pg_ms k_sum = some ((⟨"ArrayCalculatorModel", "sum", "(JJI)J"⟩, prog_14_method_52_code, 6, (Option.some Jvm.ClassFile.FieldType.long)), 12, false, mj_dec prog_14_method_52_code) := rfl
theorem dm_sum_0 : mj_dec prog_14_method_52_code 0 = some (.lload_n 1, 1) := by decide +kernel
theorem dm_sum_1 : mj_dec prog_14_method_52_code 1 = some (.lload_n 1, 1) := by decide +kernel
theorem dm_sum_2 : mj_dec prog_14_method_52_code 2 = some (.lload_n 3, 1) := by decide +kernel
theorem dm_sum_3 : mj_dec prog_14_method_52_code 3 = some (.ladd, 1) := by decide +kernel
theorem dm_sum_4 : mj_dec prog_14_method_52_code 4 = some (.lxor, 1) := by decide +kernel
theorem dm_sum_5 : mj_dec prog_14_method_52_code 5 = some (.lload_n 3, 1) := by decide +kernel
theorem dm_sum_6 : mj_dec prog_14_method_52_code 6 = some (.lload_n 1, 1) := by decide +kernel
theorem dm_sum_7 : mj_dec prog_14_method_52_code 7 = some (.lload_n 3, 1) := by decide +kernel
theorem dm_sum_8 : mj_dec prog_14_method_52_code 8 = some (.ladd, 1) := by decide +kernel
theorem dm_sum_9 : mj_dec prog_14_method_52_code 9 = some (.lxor, 1) := by decide +kernel
theorem dm_sum_10 : mj_dec prog_14_method_52_code 10 = some (.land, 1) := by decide +kernel
theorem dm_sum_11 : mj_dec prog_14_method_52_code 11 = some (.lconst 0, 1) := by decide +kernel
theorem dm_sum_12 : mj_dec prog_14_method_52_code 12 = some (.lcmp, 1) := by decide +kernel
theorem dm_sum_13 : mj_dec prog_14_method_52_code 13 = some (.ifCond .ge 15, 3) := by decide +kernel
theorem dm_sum_16 : mj_dec prog_14_method_52_code 16 = some (.aload_n 0, 1) := by decide +kernel
theorem dm_sum_17 : mj_dec prog_14_method_52_code 17 = some (.bipush 6, 2) := by decide +kernel
theorem dm_sum_19 : mj_dec prog_14_method_52_code 19 = some (.iload 5, 2) := by decide +kernel
theorem dm_sum_21 : mj_dec prog_14_method_52_code 21 = some (.invokevirtual 190, 3) := by decide +kernel
theorem dm_sum_24 : mj_dec prog_14_method_52_code 24 = some (.i2l, 1) := by decide +kernel
theorem dm_sum_25 : mj_dec prog_14_method_52_code 25 = some (.goto 6, 3) := by decide +kernel
theorem dm_sum_28 : mj_dec prog_14_method_52_code 28 = some (.lload_n 1, 1) := by decide +kernel
theorem dm_sum_29 : mj_dec prog_14_method_52_code 29 = some (.lload_n 3, 1) := by decide +kernel
theorem dm_sum_30 : mj_dec prog_14_method_52_code 30 = some (.ladd, 1) := by decide +kernel
theorem dm_sum_31 : mj_dec prog_14_method_52_code 31 = some (.lreturn, 1) := by decide +kernel
def a_sum (i : Nat → Int32) (l : Nat → Int64) (I : Nat → Nat → Int32) (J : Nat → Nat → Int64) (p0 : Int64) (p1 : Int64) (p2 : Int32) : Int64 := (if mj_cnd .ge (lg_cmp ((p0 ^^^ (p0 + p1)) &&& (p1 ^^^ (p0 + p1))) (0 : Int64)) (0 : Int32) = true then (p0 + p1) else ((a_fail i l I J (6 : Int32) p2)).toInt64)
def si_sum (i : Nat → Int32) (l : Nat → Int64) (I : Nat → Nat → Int32) (J : Nat → Nat → Int64) (p0 : Int64) (p1 : Int64) (p2 : Int32) : Nat → Int32 := (if mj_cnd .ge (lg_cmp ((p0 ^^^ (p0 + p1)) &&& (p1 ^^^ (p0 + p1))) (0 : Int64)) (0 : Int32) = true then i else (si_fail i l I J (6 : Int32) p2))
def ok_sum (i : Nat → Int32) (l : Nat → Int64) (I : Nat → Nat → Int32) (J : Nat → Nat → Int64) (p0 : Int64) (p1 : Int64) (p2 : Int32) : Prop := (if mj_cnd .ge (lg_cmp ((p0 ^^^ (p0 + p1)) &&& (p1 ^^^ (p0 + p1))) (0 : Int64)) (0 : Int32) = true then True else (ok_fail i l I J (6 : Int32) p2 ∧ True))
set_option maxRecDepth 20000 in
theorem q_sum {xt : mj_X} {pre post : mj_H} {m : Nat} {i : Nat → Int32} {l : Nat → Int64} {I : Nat → Nat → Int32} {J : Nat → Nat → Int64} {d : Nat} (hm : pre.length = m) (h2 : 2 ≤ m) {p0 : Int64} {p1 : Int64} {p2 : Int32} (hok : ok_sum i l I J p0 p1 p2) : pgC xt (d + 2) k_sum (.ref m :: [.long p0, .long p1, .int p2]) (rH pre post m i l I J) (some (.long (a_sum i l I J p0 p1 p2))) (rH pre post m (si_sum i l I J p0 p1 p2) l I J) := by
  unfold ok_sum at hok
  refine ms_call pm_sum (Nat.le_of_ble_eq_true rfl) ?_
  dsimp only
  refine ms1 dm_sum_0 rfl rfl rfl rfl ?_
  refine ms1 dm_sum_1 rfl rfl rfl rfl ?_
  refine ms1 dm_sum_2 rfl rfl rfl rfl ?_
  refine ms0 dm_sum_3 rfl rfl rfl rfl ?_
  refine ms0 dm_sum_4 rfl rfl rfl rfl ?_
  refine ms1 dm_sum_5 rfl rfl rfl rfl ?_
  refine ms1 dm_sum_6 rfl rfl rfl rfl ?_
  refine ms1 dm_sum_7 rfl rfl rfl rfl ?_
  refine ms0 dm_sum_8 rfl rfl rfl rfl ?_
  refine ms0 dm_sum_9 rfl rfl rfl rfl ?_
  refine ms0 dm_sum_10 rfl rfl rfl rfl ?_
  refine ms0 (S' := .long (0 : Int64) :: _) dm_sum_11 rfl rfl rfl rfl ?_
  refine ms0 dm_sum_12 rfl rfl rfl rfl ?_
  refine ms_1c dm_sum_13 rfl rfl (fun hb1 => ?_) (fun hb1 => ?_)
  · have hb1 : mj_cnd .ge (lg_cmp ((p0 ^^^ (p0 + p1)) &&& (p1 ^^^ (p0 + p1))) (0 : Int64)) (0 : Int32) = true := hb1
    rw [if_pos hb1] at hok
    refine ms1 dm_sum_28 rfl rfl rfl rfl ?_
    refine ms1 dm_sum_29 rfl rfl rfl rfl ?_
    refine ms0 dm_sum_30 rfl rfl rfl rfl ?_
    simp only [a_sum, si_sum, hb1, Bool.false_eq_true, if_true, if_false]
    exact ms5 dm_sum_31 rfl rfl rfl
  · have hb1 : ¬ (mj_cnd .ge (lg_cmp ((p0 ^^^ (p0 + p1)) &&& (p1 ^^^ (p0 + p1))) (0 : Int64)) (0 : Int32) = true) := hb1
    rw [if_neg hb1] at hok
    refine ms1 dm_sum_16 rfl rfl rfl rfl ?_
    refine ms0 (S' := .int (6 : Int32) :: _) dm_sum_17 rfl rfl rfl rfl ?_
    refine ms1 dm_sum_19 rfl rfl rfl rfl ?_
    obtain ⟨ho, hok⟩ := hok
    refine ms4 dm_sum_21 rfl (r_inv (As := [.int (6 : Int32), .int p2]) hm h2 rfl rfl rfl) (q_fail hm h2 ho) rfl rfl rfl ?_
    refine ms0 dm_sum_24 rfl rfl rfl rfl ?_
    refine ms2 dm_sum_25 rfl rfl rfl ?_
    simp only [a_sum, si_sum, hb1, Bool.false_eq_true, if_true, if_false]
    exact ms5 dm_sum_31 rfl rfl rfl
def k_worked : Nat := 274
set_option maxRecDepth 20000 in
theorem pm_worked : mj_mmof pg_ms k_worked = some ((⟨"ArrayCalculatorModel", "worked", "(IZJZJI)J"⟩, prog_14_method_51_code, 9, (Option.some Jvm.ClassFile.FieldType.long)), 12, false, mj_dec prog_14_method_51_code) := rfl
theorem dm_worked_0 : mj_dec prog_14_method_51_code 0 = some (.iload_n 1, 1) := by decide +kernel
theorem dm_worked_1 : mj_dec prog_14_method_51_code 1 = some (.invokestatic 333, 3) := by decide +kernel
theorem dm_worked_4 : mj_dec prog_14_method_51_code 4 = some (.ifCond .eq 73, 3) := by decide +kernel
theorem dm_worked_7 : mj_dec prog_14_method_51_code 7 = some (.iload_n 2, 1) := by decide +kernel
theorem dm_worked_8 : mj_dec prog_14_method_51_code 8 = some (.iload 5, 2) := by decide +kernel
theorem dm_worked_10 : mj_dec prog_14_method_51_code 10 = some (.if_icmp .eq 22, 3) := by decide +kernel
theorem dm_worked_13 : mj_dec prog_14_method_51_code 13 = some (.iload_n 1, 1) := by decide +kernel
theorem dm_worked_14 : mj_dec prog_14_method_51_code 14 = some (.bipush 61, 2) := by decide +kernel
theorem dm_worked_16 : mj_dec prog_14_method_51_code 16 = some (.if_icmp .ne 7, 3) := by decide +kernel
theorem dm_worked_19 : mj_dec prog_14_method_51_code 19 = some (.lconst 0, 1) := by decide +kernel
theorem dm_worked_20 : mj_dec prog_14_method_51_code 20 = some (.goto 11, 3) := by decide +kernel
theorem dm_worked_23 : mj_dec prog_14_method_51_code 23 = some (.aload_n 0, 1) := by decide +kernel
theorem dm_worked_24 : mj_dec prog_14_method_51_code 24 = some (.iconst 5, 1) := by decide +kernel
theorem dm_worked_25 : mj_dec prog_14_method_51_code 25 = some (.iload 8, 2) := by decide +kernel
theorem dm_worked_27 : mj_dec prog_14_method_51_code 27 = some (.invokevirtual 190, 3) := by decide +kernel
theorem dm_worked_30 : mj_dec prog_14_method_51_code 30 = some (.i2l, 1) := by decide +kernel
theorem dm_worked_31 : mj_dec prog_14_method_51_code 31 = some (.lreturn, 1) := by decide +kernel
theorem dm_worked_32 : mj_dec prog_14_method_51_code 32 = some (.iload_n 1, 1) := by decide +kernel
theorem dm_worked_33 : mj_dec prog_14_method_51_code 33 = some (.bipush 60, 2) := by decide +kernel
theorem dm_worked_35 : mj_dec prog_14_method_51_code 35 = some (.if_icmp .ne 13, 3) := by decide +kernel
theorem dm_worked_38 : mj_dec prog_14_method_51_code 38 = some (.lload_n 3, 1) := by decide +kernel
theorem dm_worked_39 : mj_dec prog_14_method_51_code 39 = some (.lload 6, 2) := by decide +kernel
theorem dm_worked_41 : mj_dec prog_14_method_51_code 41 = some (.lcmp, 1) := by decide +kernel
theorem dm_worked_42 : mj_dec prog_14_method_51_code 42 = some (.ifCond .ge 33, 3) := by decide +kernel
theorem dm_worked_45 : mj_dec prog_14_method_51_code 45 = some (.goto 26, 3) := by decide +kernel
theorem dm_worked_48 : mj_dec prog_14_method_51_code 48 = some (.iload_n 1, 1) := by decide +kernel
theorem dm_worked_49 : mj_dec prog_14_method_51_code 49 = some (.bipush 62, 2) := by decide +kernel
theorem dm_worked_51 : mj_dec prog_14_method_51_code 51 = some (.if_icmp .ne 13, 3) := by decide +kernel
theorem dm_worked_54 : mj_dec prog_14_method_51_code 54 = some (.lload_n 3, 1) := by decide +kernel
theorem dm_worked_55 : mj_dec prog_14_method_51_code 55 = some (.lload 6, 2) := by decide +kernel
theorem dm_worked_57 : mj_dec prog_14_method_51_code 57 = some (.lcmp, 1) := by decide +kernel
theorem dm_worked_58 : mj_dec prog_14_method_51_code 58 = some (.ifCond .le 17, 3) := by decide +kernel
theorem dm_worked_61 : mj_dec prog_14_method_51_code 61 = some (.goto 10, 3) := by decide +kernel
theorem dm_worked_64 : mj_dec prog_14_method_51_code 64 = some (.lload_n 3, 1) := by decide +kernel
theorem dm_worked_65 : mj_dec prog_14_method_51_code 65 = some (.lload 6, 2) := by decide +kernel
theorem dm_worked_67 : mj_dec prog_14_method_51_code 67 = some (.lcmp, 1) := by decide +kernel
theorem dm_worked_68 : mj_dec prog_14_method_51_code 68 = some (.ifCond .ne 7, 3) := by decide +kernel
theorem dm_worked_71 : mj_dec prog_14_method_51_code 71 = some (.lconst 1, 1) := by decide +kernel
theorem dm_worked_72 : mj_dec prog_14_method_51_code 72 = some (.goto 4, 3) := by decide +kernel
theorem dm_worked_75 : mj_dec prog_14_method_51_code 75 = some (.lconst 0, 1) := by decide +kernel
theorem dm_worked_76 : mj_dec prog_14_method_51_code 76 = some (.lreturn, 1) := by decide +kernel
theorem dm_worked_77 : mj_dec prog_14_method_51_code 77 = some (.iload_n 2, 1) := by decide +kernel
theorem dm_worked_78 : mj_dec prog_14_method_51_code 78 = some (.ifCond .ne 8, 3) := by decide +kernel
theorem dm_worked_81 : mj_dec prog_14_method_51_code 81 = some (.iload 5, 2) := by decide +kernel
theorem dm_worked_83 : mj_dec prog_14_method_51_code 83 = some (.ifCond .eq 12, 3) := by decide +kernel
theorem dm_worked_86 : mj_dec prog_14_method_51_code 86 = some (.aload_n 0, 1) := by decide +kernel
theorem dm_worked_87 : mj_dec prog_14_method_51_code 87 = some (.iconst 5, 1) := by decide +kernel
theorem dm_worked_88 : mj_dec prog_14_method_51_code 88 = some (.iload 8, 2) := by decide +kernel
theorem dm_worked_90 : mj_dec prog_14_method_51_code 90 = some (.invokevirtual 190, 3) := by decide +kernel
theorem dm_worked_93 : mj_dec prog_14_method_51_code 93 = some (.i2l, 1) := by decide +kernel
theorem dm_worked_94 : mj_dec prog_14_method_51_code 94 = some (.lreturn, 1) := by decide +kernel
theorem dm_worked_95 : mj_dec prog_14_method_51_code 95 = some (.iload_n 1, 1) := by decide +kernel
theorem dm_worked_96 : mj_dec prog_14_method_51_code 96 = some (.tableswitch 291 33 45 #[213, 291, 291, 291, 121, 277, 291, 291, 291, 111, 68, 291, 78], 68) := by decide +kernel
theorem dm_worked_164 : mj_dec prog_14_method_51_code 164 = some (.aload_n 0, 1) := by decide +kernel
theorem dm_worked_165 : mj_dec prog_14_method_51_code 165 = some (.lload_n 3, 1) := by decide +kernel
theorem dm_worked_166 : mj_dec prog_14_method_51_code 166 = some (.lload 6, 2) := by decide +kernel
theorem dm_worked_168 : mj_dec prog_14_method_51_code 168 = some (.iload 8, 2) := by decide +kernel
theorem dm_worked_170 : mj_dec prog_14_method_51_code 170 = some (.invokevirtual 340, 3) := by decide +kernel
theorem dm_worked_173 : mj_dec prog_14_method_51_code 173 = some (.lreturn, 1) := by decide +kernel
theorem dm_worked_174 : mj_dec prog_14_method_51_code 174 = some (.lload_n 3, 1) := by decide +kernel
theorem dm_worked_175 : mj_dec prog_14_method_51_code 175 = some (.lload 6, 2) := by decide +kernel
theorem dm_worked_177 : mj_dec prog_14_method_51_code 177 = some (.lxor, 1) := by decide +kernel
theorem dm_worked_178 : mj_dec prog_14_method_51_code 178 = some (.lload_n 3, 1) := by decide +kernel
theorem dm_worked_179 : mj_dec prog_14_method_51_code 179 = some (.lload_n 3, 1) := by decide +kernel
theorem dm_worked_180 : mj_dec prog_14_method_51_code 180 = some (.lload 6, 2) := by decide +kernel
theorem dm_worked_182 : mj_dec prog_14_method_51_code 182 = some (.lsub, 1) := by decide +kernel
theorem dm_worked_183 : mj_dec prog_14_method_51_code 183 = some (.lxor, 1) := by decide +kernel
theorem dm_worked_184 : mj_dec prog_14_method_51_code 184 = some (.land, 1) := by decide +kernel
theorem dm_worked_185 : mj_dec prog_14_method_51_code 185 = some (.lconst 0, 1) := by decide +kernel
theorem dm_worked_186 : mj_dec prog_14_method_51_code 186 = some (.lcmp, 1) := by decide +kernel
theorem dm_worked_187 : mj_dec prog_14_method_51_code 187 = some (.ifCond .ge 15, 3) := by decide +kernel
theorem dm_worked_190 : mj_dec prog_14_method_51_code 190 = some (.aload_n 0, 1) := by decide +kernel
theorem dm_worked_191 : mj_dec prog_14_method_51_code 191 = some (.bipush 6, 2) := by decide +kernel
theorem dm_worked_193 : mj_dec prog_14_method_51_code 193 = some (.iload 8, 2) := by decide +kernel
theorem dm_worked_195 : mj_dec prog_14_method_51_code 195 = some (.invokevirtual 190, 3) := by decide +kernel
theorem dm_worked_198 : mj_dec prog_14_method_51_code 198 = some (.i2l, 1) := by decide +kernel
theorem dm_worked_199 : mj_dec prog_14_method_51_code 199 = some (.goto 7, 3) := by decide +kernel
theorem dm_worked_202 : mj_dec prog_14_method_51_code 202 = some (.lload_n 3, 1) := by decide +kernel
theorem dm_worked_203 : mj_dec prog_14_method_51_code 203 = some (.lload 6, 2) := by decide +kernel
theorem dm_worked_205 : mj_dec prog_14_method_51_code 205 = some (.lsub, 1) := by decide +kernel
theorem dm_worked_206 : mj_dec prog_14_method_51_code 206 = some (.lreturn, 1) := by decide +kernel
theorem dm_worked_207 : mj_dec prog_14_method_51_code 207 = some (.aload_n 0, 1) := by decide +kernel
theorem dm_worked_208 : mj_dec prog_14_method_51_code 208 = some (.lload_n 3, 1) := by decide +kernel
theorem dm_worked_209 : mj_dec prog_14_method_51_code 209 = some (.lload 6, 2) := by decide +kernel
theorem dm_worked_211 : mj_dec prog_14_method_51_code 211 = some (.iload 8, 2) := by decide +kernel
theorem dm_worked_213 : mj_dec prog_14_method_51_code 213 = some (.invokevirtual 344, 3) := by decide +kernel
theorem dm_worked_216 : mj_dec prog_14_method_51_code 216 = some (.lreturn, 1) := by decide +kernel
theorem dm_worked_217 : mj_dec prog_14_method_51_code 217 = some (.lload 6, 2) := by decide +kernel
theorem dm_worked_219 : mj_dec prog_14_method_51_code 219 = some (.lconst 0, 1) := by decide +kernel
theorem dm_worked_220 : mj_dec prog_14_method_51_code 220 = some (.lcmp, 1) := by decide +kernel
theorem dm_worked_221 : mj_dec prog_14_method_51_code 221 = some (.ifCond .ne 12, 3) := by decide +kernel
theorem dm_worked_224 : mj_dec prog_14_method_51_code 224 = some (.aload_n 0, 1) := by decide +kernel
theorem dm_worked_225 : mj_dec prog_14_method_51_code 225 = some (.iconst 5, 1) := by decide +kernel
theorem dm_worked_226 : mj_dec prog_14_method_51_code 226 = some (.iload 8, 2) := by decide +kernel
theorem dm_worked_228 : mj_dec prog_14_method_51_code 228 = some (.invokevirtual 190, 3) := by decide +kernel
theorem dm_worked_231 : mj_dec prog_14_method_51_code 231 = some (.i2l, 1) := by decide +kernel
theorem dm_worked_232 : mj_dec prog_14_method_51_code 232 = some (.lreturn, 1) := by decide +kernel
theorem dm_worked_233 : mj_dec prog_14_method_51_code 233 = some (.lload_n 3, 1) := by decide +kernel
theorem dm_worked_234 : mj_dec prog_14_method_51_code 234 = some (.ldc2_w 262, 3) := by decide +kernel
theorem dm_worked_237 : mj_dec prog_14_method_51_code 237 = some (.lcmp, 1) := by decide +kernel
theorem dm_worked_238 : mj_dec prog_14_method_51_code 238 = some (.ifCond .ne 22, 3) := by decide +kernel
theorem dm_worked_241 : mj_dec prog_14_method_51_code 241 = some (.lload 6, 2) := by decide +kernel
theorem dm_worked_243 : mj_dec prog_14_method_51_code 243 = some (.ldc2_w 253, 3) := by decide +kernel
theorem dm_worked_246 : mj_dec prog_14_method_51_code 246 = some (.lcmp, 1) := by decide +kernel
theorem dm_worked_247 : mj_dec prog_14_method_51_code 247 = some (.ifCond .ne 13, 3) := by decide +kernel
theorem dm_worked_250 : mj_dec prog_14_method_51_code 250 = some (.aload_n 0, 1) := by decide +kernel
theorem dm_worked_251 : mj_dec prog_14_method_51_code 251 = some (.bipush 6, 2) := by decide +kernel
theorem dm_worked_253 : mj_dec prog_14_method_51_code 253 = some (.iload 8, 2) := by decide +kernel
theorem dm_worked_255 : mj_dec prog_14_method_51_code 255 = some (.invokevirtual 190, 3) := by decide +kernel
theorem dm_worked_258 : mj_dec prog_14_method_51_code 258 = some (.i2l, 1) := by decide +kernel
theorem dm_worked_259 : mj_dec prog_14_method_51_code 259 = some (.lreturn, 1) := by decide +kernel
theorem dm_worked_260 : mj_dec prog_14_method_51_code 260 = some (.lload_n 3, 1) := by decide +kernel
theorem dm_worked_261 : mj_dec prog_14_method_51_code 261 = some (.lload 6, 2) := by decide +kernel
theorem dm_worked_263 : mj_dec prog_14_method_51_code 263 = some (.lrem, 1) := by decide +kernel
theorem dm_worked_264 : mj_dec prog_14_method_51_code 264 = some (.lconst 0, 1) := by decide +kernel
theorem dm_worked_265 : mj_dec prog_14_method_51_code 265 = some (.lcmp, 1) := by decide +kernel
theorem dm_worked_266 : mj_dec prog_14_method_51_code 266 = some (.ifCond .eq 38, 3) := by decide +kernel
theorem dm_worked_269 : mj_dec prog_14_method_51_code 269 = some (.lload_n 3, 1) := by decide +kernel
theorem dm_worked_270 : mj_dec prog_14_method_51_code 270 = some (.lconst 0, 1) := by decide +kernel
theorem dm_worked_271 : mj_dec prog_14_method_51_code 271 = some (.lcmp, 1) := by decide +kernel
theorem dm_worked_272 : mj_dec prog_14_method_51_code 272 = some (.ifCond .ge 7, 3) := by decide +kernel
theorem dm_worked_275 : mj_dec prog_14_method_51_code 275 = some (.iconst 1, 1) := by decide +kernel
theorem dm_worked_276 : mj_dec prog_14_method_51_code 276 = some (.goto 4, 3) := by decide +kernel
theorem dm_worked_279 : mj_dec prog_14_method_51_code 279 = some (.iconst 0, 1) := by decide +kernel
theorem dm_worked_280 : mj_dec prog_14_method_51_code 280 = some (.lload 6, 2) := by decide +kernel
theorem dm_worked_282 : mj_dec prog_14_method_51_code 282 = some (.lconst 0, 1) := by decide +kernel
theorem dm_worked_283 : mj_dec prog_14_method_51_code 283 = some (.lcmp, 1) := by decide +kernel
theorem dm_worked_284 : mj_dec prog_14_method_51_code 284 = some (.ifCond .ge 7, 3) := by decide +kernel
theorem dm_worked_287 : mj_dec prog_14_method_51_code 287 = some (.iconst 1, 1) := by decide +kernel
theorem dm_worked_288 : mj_dec prog_14_method_51_code 288 = some (.goto 4, 3) := by decide +kernel
theorem dm_worked_291 : mj_dec prog_14_method_51_code 291 = some (.iconst 0, 1) := by decide +kernel
theorem dm_worked_292 : mj_dec prog_14_method_51_code 292 = some (.if_icmp .eq 12, 3) := by decide +kernel
theorem dm_worked_295 : mj_dec prog_14_method_51_code 295 = some (.lload_n 3, 1) := by decide +kernel
theorem dm_worked_296 : mj_dec prog_14_method_51_code 296 = some (.lload 6, 2) := by decide +kernel
theorem dm_worked_298 : mj_dec prog_14_method_51_code 298 = some (.ldiv, 1) := by decide +kernel
theorem dm_worked_299 : mj_dec prog_14_method_51_code 299 = some (.lconst 1, 1) := by decide +kernel
theorem dm_worked_300 : mj_dec prog_14_method_51_code 300 = some (.lsub, 1) := by decide +kernel
theorem dm_worked_301 : mj_dec prog_14_method_51_code 301 = some (.goto 7, 3) := by decide +kernel
theorem dm_worked_304 : mj_dec prog_14_method_51_code 304 = some (.lload_n 3, 1) := by decide +kernel
theorem dm_worked_305 : mj_dec prog_14_method_51_code 305 = some (.lload 6, 2) := by decide +kernel
theorem dm_worked_307 : mj_dec prog_14_method_51_code 307 = some (.ldiv, 1) := by decide +kernel
theorem dm_worked_308 : mj_dec prog_14_method_51_code 308 = some (.lreturn, 1) := by decide +kernel
theorem dm_worked_309 : mj_dec prog_14_method_51_code 309 = some (.lload_n 3, 1) := by decide +kernel
theorem dm_worked_310 : mj_dec prog_14_method_51_code 310 = some (.lconst 0, 1) := by decide +kernel
theorem dm_worked_311 : mj_dec prog_14_method_51_code 311 = some (.lcmp, 1) := by decide +kernel
theorem dm_worked_312 : mj_dec prog_14_method_51_code 312 = some (.ifCond .ne 12, 3) := by decide +kernel
theorem dm_worked_315 : mj_dec prog_14_method_51_code 315 = some (.aload_n 0, 1) := by decide +kernel
theorem dm_worked_316 : mj_dec prog_14_method_51_code 316 = some (.iconst 5, 1) := by decide +kernel
theorem dm_worked_317 : mj_dec prog_14_method_51_code 317 = some (.iload 8, 2) := by decide +kernel
theorem dm_worked_319 : mj_dec prog_14_method_51_code 319 = some (.invokevirtual 190, 3) := by decide +kernel
theorem dm_worked_322 : mj_dec prog_14_method_51_code 322 = some (.i2l, 1) := by decide +kernel
theorem dm_worked_323 : mj_dec prog_14_method_51_code 323 = some (.lreturn, 1) := by decide +kernel
theorem dm_worked_324 : mj_dec prog_14_method_51_code 324 = some (.lload 6, 2) := by decide +kernel
theorem dm_worked_326 : mj_dec prog_14_method_51_code 326 = some (.lload_n 3, 1) := by decide +kernel
theorem dm_worked_327 : mj_dec prog_14_method_51_code 327 = some (.lrem, 1) := by decide +kernel
theorem dm_worked_328 : mj_dec prog_14_method_51_code 328 = some (.lconst 0, 1) := by decide +kernel
theorem dm_worked_329 : mj_dec prog_14_method_51_code 329 = some (.lcmp, 1) := by decide +kernel
theorem dm_worked_330 : mj_dec prog_14_method_51_code 330 = some (.ifCond .eq 38, 3) := by decide +kernel
theorem dm_worked_333 : mj_dec prog_14_method_51_code 333 = some (.lload 6, 2) := by decide +kernel
theorem dm_worked_335 : mj_dec prog_14_method_51_code 335 = some (.lconst 0, 1) := by decide +kernel
theorem dm_worked_336 : mj_dec prog_14_method_51_code 336 = some (.lcmp, 1) := by decide +kernel
theorem dm_worked_337 : mj_dec prog_14_method_51_code 337 = some (.ifCond .ge 7, 3) := by decide +kernel
theorem dm_worked_340 : mj_dec prog_14_method_51_code 340 = some (.iconst 1, 1) := by decide +kernel
theorem dm_worked_341 : mj_dec prog_14_method_51_code 341 = some (.goto 4, 3) := by decide +kernel
theorem dm_worked_344 : mj_dec prog_14_method_51_code 344 = some (.iconst 0, 1) := by decide +kernel
theorem dm_worked_345 : mj_dec prog_14_method_51_code 345 = some (.lload_n 3, 1) := by decide +kernel
theorem dm_worked_346 : mj_dec prog_14_method_51_code 346 = some (.lconst 0, 1) := by decide +kernel
theorem dm_worked_347 : mj_dec prog_14_method_51_code 347 = some (.lcmp, 1) := by decide +kernel
theorem dm_worked_348 : mj_dec prog_14_method_51_code 348 = some (.ifCond .ge 7, 3) := by decide +kernel
theorem dm_worked_351 : mj_dec prog_14_method_51_code 351 = some (.iconst 1, 1) := by decide +kernel
theorem dm_worked_352 : mj_dec prog_14_method_51_code 352 = some (.goto 4, 3) := by decide +kernel
theorem dm_worked_355 : mj_dec prog_14_method_51_code 355 = some (.iconst 0, 1) := by decide +kernel
theorem dm_worked_356 : mj_dec prog_14_method_51_code 356 = some (.if_icmp .eq 12, 3) := by decide +kernel
theorem dm_worked_359 : mj_dec prog_14_method_51_code 359 = some (.lload 6, 2) := by decide +kernel
theorem dm_worked_361 : mj_dec prog_14_method_51_code 361 = some (.lload_n 3, 1) := by decide +kernel
theorem dm_worked_362 : mj_dec prog_14_method_51_code 362 = some (.lrem, 1) := by decide +kernel
theorem dm_worked_363 : mj_dec prog_14_method_51_code 363 = some (.lload_n 3, 1) := by decide +kernel
theorem dm_worked_364 : mj_dec prog_14_method_51_code 364 = some (.ladd, 1) := by decide +kernel
theorem dm_worked_365 : mj_dec prog_14_method_51_code 365 = some (.goto 7, 3) := by decide +kernel
theorem dm_worked_368 : mj_dec prog_14_method_51_code 368 = some (.lload 6, 2) := by decide +kernel
theorem dm_worked_370 : mj_dec prog_14_method_51_code 370 = some (.lload_n 3, 1) := by decide +kernel
theorem dm_worked_371 : mj_dec prog_14_method_51_code 371 = some (.lrem, 1) := by decide +kernel
theorem dm_worked_372 : mj_dec prog_14_method_51_code 372 = some (.lreturn, 1) := by decide +kernel
theorem dm_worked_373 : mj_dec prog_14_method_51_code 373 = some (.lload_n 3, 1) := by decide +kernel
theorem dm_worked_374 : mj_dec prog_14_method_51_code 374 = some (.lload 6, 2) := by decide +kernel
theorem dm_worked_376 : mj_dec prog_14_method_51_code 376 = some (.lcmp, 1) := by decide +kernel
theorem dm_worked_377 : mj_dec prog_14_method_51_code 377 = some (.ifCond .ge 7, 3) := by decide +kernel
theorem dm_worked_380 : mj_dec prog_14_method_51_code 380 = some (.lload_n 3, 1) := by decide +kernel
theorem dm_worked_381 : mj_dec prog_14_method_51_code 381 = some (.goto 5, 3) := by decide +kernel
theorem dm_worked_384 : mj_dec prog_14_method_51_code 384 = some (.lload 6, 2) := by decide +kernel
theorem dm_worked_386 : mj_dec prog_14_method_51_code 386 = some (.lreturn, 1) := by decide +kernel
theorem dm_worked_387 : mj_dec prog_14_method_51_code 387 = some (.lload_n 3, 1) := by decide +kernel
theorem dm_worked_388 : mj_dec prog_14_method_51_code 388 = some (.lload 6, 2) := by decide +kernel
theorem dm_worked_390 : mj_dec prog_14_method_51_code 390 = some (.lcmp, 1) := by decide +kernel
theorem dm_worked_391 : mj_dec prog_14_method_51_code 391 = some (.ifCond .le 7, 3) := by decide +kernel
theorem dm_worked_394 : mj_dec prog_14_method_51_code 394 = some (.lload_n 3, 1) := by decide +kernel
theorem dm_worked_395 : mj_dec prog_14_method_51_code 395 = some (.goto 5, 3) := by decide +kernel
theorem dm_worked_398 : mj_dec prog_14_method_51_code 398 = some (.lload 6, 2) := by decide +kernel
theorem dm_worked_400 : mj_dec prog_14_method_51_code 400 = some (.lreturn, 1) := by decide +kernel
def lp_worked : Nat → Nat → (Nat → Int32) → (Nat → Int64) → (Nat → Nat → Int32) → (Nat → Nat → Int64) → (Nat → Int32) → (Nat → Int64) → Int64 × (Nat → Int32) × (Nat → Int64) × (Nat → Nat → Int32) × (Nat → Nat → Int64)
  | 0, _, i, l, I, J, _, _ => (0, i, l, I, J)
  | n + 1, hd, i, l, I, J, v, w => match hd with
    | 71 => ((1 : Int64), i, l, I, J)
    | 304 => (((w 3) / (w 6)), i, l, I, J)
    | 368 => (((w 6) - (w 6) / (w 3) * (w 3)), i, l, I, J)
    | _ => (0, i, l, I, J)
theorem lb_worked_71 (n : Nat) (i : Nat → Int32) (l : Nat → Int64) (I : Nat → Nat → Int32) (J : Nat → Nat → Int64) (v : Nat → Int32) (w : Nat → Int64) : lp_worked (n + 1) 71 i l I J v w = ((1 : Int64), i, l, I, J) := rfl
theorem lb_worked_304 (n : Nat) (i : Nat → Int32) (l : Nat → Int64) (I : Nat → Nat → Int32) (J : Nat → Nat → Int64) (v : Nat → Int32) (w : Nat → Int64) : lp_worked (n + 1) 304 i l I J v w = (((w 3) / (w 6)), i, l, I, J) := rfl
theorem lb_worked_368 (n : Nat) (i : Nat → Int32) (l : Nat → Int64) (I : Nat → Nat → Int32) (J : Nat → Nat → Int64) (v : Nat → Int32) (w : Nat → Int64) : lp_worked (n + 1) 368 i l I J v w = (((w 6) - (w 6) / (w 3) * (w 3)), i, l, I, J) := rfl
def okl_worked : Nat → Nat → (Nat → Int32) → (Nat → Int64) → (Nat → Nat → Int32) → (Nat → Nat → Int64) → (Nat → Int32) → (Nat → Int64) → Prop
  | 0, _, _, _, _, _, _, _ => False
  | n + 1, hd, i, l, I, J, v, w => match hd with
    | 71 => True
    | 304 => (¬ ((w 6) = 0) ∧ True)
    | 368 => (¬ ((w 3) = 0) ∧ True)
    | _ => False
def s_worked (n : Nat) (i : Nat → Int32) (l : Nat → Int64) (I : Nat → Nat → Int32) (J : Nat → Nat → Int64) (p0 : Int32) (p1 : Int32) (p2 : Int64) (p3 : Int32) (p4 : Int64) (p5 : Int32) : Int64 × (Nat → Int32) × (Nat → Int64) × (Nat → Nat → Int32) × (Nat → Nat → Int64) := (if mj_cnd .eq (a_compares i l I J p0) (0 : Int32) = true then (if mj_cnd .ne p1 (0 : Int32) = true then (((a_fail i l I J (5 : Int32) p5)).toInt64, (si_fail i l I J (5 : Int32) p5), l, I, J) else (if mj_cnd .eq p3 (0 : Int32) = true then (if mj_cnd .eq p0 (33 : Int32) = true then (if mj_cnd .ne (lg_cmp p2 (0 : Int64)) (0 : Int32) = true then (if mj_cnd .eq (lg_cmp (p4 - p4 / p2 * p2) (0 : Int64)) (0 : Int32) = true then lp_worked n 368 i l I J (fun _ => 0) (vp_updL (vp_updL (fun _ => 0) 3 p2) 6 p4) else (if mj_cnd .ge (lg_cmp p4 (0 : Int64)) (0 : Int32) = true then (if mj_cnd .ge (lg_cmp p2 (0 : Int64)) (0 : Int32) = true then lp_worked n 368 i l I J (fun _ => 0) (vp_updL (vp_updL (fun _ => 0) 3 p2) 6 p4) else (((p4 - p4 / p2 * p2) + p2), i, l, I, J)) else (if mj_cnd .ge (lg_cmp p2 (0 : Int64)) (0 : Int32) = true then (((p4 - p4 / p2 * p2) + p2), i, l, I, J) else lp_worked n 368 i l I J (fun _ => 0) (vp_updL (vp_updL (fun _ => 0) 3 p2) 6 p4)))) else (((a_fail i l I J (5 : Int32) p5)).toInt64, (si_fail i l I J (5 : Int32) p5), l, I, J)) else (if mj_cnd .eq p0 (37 : Int32) = true then (if mj_cnd .ne (lg_cmp p4 (0 : Int64)) (0 : Int32) = true then (if mj_cnd .ne (lg_cmp p2 (-9223372036854775808 : Int64)) (0 : Int32) = true then (if mj_cnd .eq (lg_cmp (p2 - p2 / p4 * p4) (0 : Int64)) (0 : Int32) = true then lp_worked n 304 i l I J (fun _ => 0) (vp_updL (vp_updL (fun _ => 0) 3 p2) 6 p4) else (if mj_cnd .ge (lg_cmp p2 (0 : Int64)) (0 : Int32) = true then (if mj_cnd .ge (lg_cmp p4 (0 : Int64)) (0 : Int32) = true then lp_worked n 304 i l I J (fun _ => 0) (vp_updL (vp_updL (fun _ => 0) 3 p2) 6 p4) else (((p2 / p4) - (1 : Int64)), i, l, I, J)) else (if mj_cnd .ge (lg_cmp p4 (0 : Int64)) (0 : Int32) = true then (((p2 / p4) - (1 : Int64)), i, l, I, J) else lp_worked n 304 i l I J (fun _ => 0) (vp_updL (vp_updL (fun _ => 0) 3 p2) 6 p4)))) else (if mj_cnd .ne (lg_cmp p4 (-1 : Int64)) (0 : Int32) = true then (if mj_cnd .eq (lg_cmp (p2 - p2 / p4 * p4) (0 : Int64)) (0 : Int32) = true then lp_worked n 304 i l I J (fun _ => 0) (vp_updL (vp_updL (fun _ => 0) 3 p2) 6 p4) else (if mj_cnd .ge (lg_cmp p2 (0 : Int64)) (0 : Int32) = true then (if mj_cnd .ge (lg_cmp p4 (0 : Int64)) (0 : Int32) = true then lp_worked n 304 i l I J (fun _ => 0) (vp_updL (vp_updL (fun _ => 0) 3 p2) 6 p4) else (((p2 / p4) - (1 : Int64)), i, l, I, J)) else (if mj_cnd .ge (lg_cmp p4 (0 : Int64)) (0 : Int32) = true then (((p2 / p4) - (1 : Int64)), i, l, I, J) else lp_worked n 304 i l I J (fun _ => 0) (vp_updL (vp_updL (fun _ => 0) 3 p2) 6 p4)))) else (((a_fail i l I J (6 : Int32) p5)).toInt64, (si_fail i l I J (6 : Int32) p5), l, I, J))) else (((a_fail i l I J (5 : Int32) p5)).toInt64, (si_fail i l I J (5 : Int32) p5), l, I, J)) else (if mj_cnd .eq p0 (38 : Int32) = true then (if mj_cnd .ge (lg_cmp p2 p4) (0 : Int32) = true then (p4, i, l, I, J) else (p2, i, l, I, J)) else (if mj_cnd .eq p0 (42 : Int32) = true then ((a_product i l I J p2 p4 p5), (si_product i l I J p2 p4 p5), l, I, J) else (if mj_cnd .eq p0 (43 : Int32) = true then ((a_sum i l I J p2 p4 p5), (si_sum i l I J p2 p4 p5), l, I, J) else (if mj_cnd .eq p0 (45 : Int32) = true then (if mj_cnd .ge (lg_cmp ((p2 ^^^ p4) &&& (p2 ^^^ (p2 - p4))) (0 : Int64)) (0 : Int32) = true then ((p2 - p4), i, l, I, J) else (((a_fail i l I J (6 : Int32) p5)).toInt64, (si_fail i l I J (6 : Int32) p5), l, I, J)) else (if mj_cnd .le (lg_cmp p2 p4) (0 : Int32) = true then (p4, i, l, I, J) else (p2, i, l, I, J)))))))) else (((a_fail i l I J (5 : Int32) p5)).toInt64, (si_fail i l I J (5 : Int32) p5), l, I, J))) else (if mj_cnd .eq p1 p3 = true then (if mj_cnd .ne p0 (60 : Int32) = true then (if mj_cnd .ne p0 (62 : Int32) = true then (if mj_cnd .ne (lg_cmp p2 p4) (0 : Int32) = true then ((0 : Int64), i, l, I, J) else lp_worked n 71 i l I J (fun _ => 0) (fun _ => 0)) else (if mj_cnd .le (lg_cmp p2 p4) (0 : Int32) = true then ((0 : Int64), i, l, I, J) else lp_worked n 71 i l I J (fun _ => 0) (fun _ => 0))) else (if mj_cnd .ge (lg_cmp p2 p4) (0 : Int32) = true then ((0 : Int64), i, l, I, J) else lp_worked n 71 i l I J (fun _ => 0) (fun _ => 0))) else (if mj_cnd .ne p0 (61 : Int32) = true then (((a_fail i l I J (5 : Int32) p5)).toInt64, (si_fail i l I J (5 : Int32) p5), l, I, J) else ((0 : Int64), i, l, I, J))))
def ok_worked (n : Nat) (i : Nat → Int32) (l : Nat → Int64) (I : Nat → Nat → Int32) (J : Nat → Nat → Int64) (p0 : Int32) (p1 : Int32) (p2 : Int64) (p3 : Int32) (p4 : Int64) (p5 : Int32) : Prop := (ok_compares i l I J p0 ∧ (if mj_cnd .eq (a_compares i l I J p0) (0 : Int32) = true then (if mj_cnd .ne p1 (0 : Int32) = true then (ok_fail i l I J (5 : Int32) p5 ∧ True) else (if mj_cnd .eq p3 (0 : Int32) = true then (if mj_cnd .eq p0 (33 : Int32) = true then (if mj_cnd .ne (lg_cmp p2 (0 : Int64)) (0 : Int32) = true then (¬ (p2 = 0) ∧ (if mj_cnd .eq (lg_cmp (p4 - p4 / p2 * p2) (0 : Int64)) (0 : Int32) = true then okl_worked n 368 i l I J (fun _ => 0) (vp_updL (vp_updL (fun _ => 0) 3 p2) 6 p4) else (if mj_cnd .ge (lg_cmp p4 (0 : Int64)) (0 : Int32) = true then (if mj_cnd .ge (lg_cmp p2 (0 : Int64)) (0 : Int32) = true then okl_worked n 368 i l I J (fun _ => 0) (vp_updL (vp_updL (fun _ => 0) 3 p2) 6 p4) else (¬ (p2 = 0) ∧ True)) else (if mj_cnd .ge (lg_cmp p2 (0 : Int64)) (0 : Int32) = true then (¬ (p2 = 0) ∧ True) else okl_worked n 368 i l I J (fun _ => 0) (vp_updL (vp_updL (fun _ => 0) 3 p2) 6 p4))))) else (ok_fail i l I J (5 : Int32) p5 ∧ True)) else (if mj_cnd .eq p0 (37 : Int32) = true then (if mj_cnd .ne (lg_cmp p4 (0 : Int64)) (0 : Int32) = true then (if mj_cnd .ne (lg_cmp p2 (-9223372036854775808 : Int64)) (0 : Int32) = true then (¬ (p4 = 0) ∧ (if mj_cnd .eq (lg_cmp (p2 - p2 / p4 * p4) (0 : Int64)) (0 : Int32) = true then okl_worked n 304 i l I J (fun _ => 0) (vp_updL (vp_updL (fun _ => 0) 3 p2) 6 p4) else (if mj_cnd .ge (lg_cmp p2 (0 : Int64)) (0 : Int32) = true then (if mj_cnd .ge (lg_cmp p4 (0 : Int64)) (0 : Int32) = true then okl_worked n 304 i l I J (fun _ => 0) (vp_updL (vp_updL (fun _ => 0) 3 p2) 6 p4) else (¬ (p4 = 0) ∧ True)) else (if mj_cnd .ge (lg_cmp p4 (0 : Int64)) (0 : Int32) = true then (¬ (p4 = 0) ∧ True) else okl_worked n 304 i l I J (fun _ => 0) (vp_updL (vp_updL (fun _ => 0) 3 p2) 6 p4))))) else (if mj_cnd .ne (lg_cmp p4 (-1 : Int64)) (0 : Int32) = true then (¬ (p4 = 0) ∧ (if mj_cnd .eq (lg_cmp (p2 - p2 / p4 * p4) (0 : Int64)) (0 : Int32) = true then okl_worked n 304 i l I J (fun _ => 0) (vp_updL (vp_updL (fun _ => 0) 3 p2) 6 p4) else (if mj_cnd .ge (lg_cmp p2 (0 : Int64)) (0 : Int32) = true then (if mj_cnd .ge (lg_cmp p4 (0 : Int64)) (0 : Int32) = true then okl_worked n 304 i l I J (fun _ => 0) (vp_updL (vp_updL (fun _ => 0) 3 p2) 6 p4) else (¬ (p4 = 0) ∧ True)) else (if mj_cnd .ge (lg_cmp p4 (0 : Int64)) (0 : Int32) = true then (¬ (p4 = 0) ∧ True) else okl_worked n 304 i l I J (fun _ => 0) (vp_updL (vp_updL (fun _ => 0) 3 p2) 6 p4))))) else (ok_fail i l I J (6 : Int32) p5 ∧ True))) else (ok_fail i l I J (5 : Int32) p5 ∧ True)) else (if mj_cnd .eq p0 (38 : Int32) = true then True else (if mj_cnd .eq p0 (42 : Int32) = true then (ok_product i l I J p2 p4 p5 ∧ True) else (if mj_cnd .eq p0 (43 : Int32) = true then (ok_sum i l I J p2 p4 p5 ∧ True) else (if mj_cnd .eq p0 (45 : Int32) = true then (if mj_cnd .ge (lg_cmp ((p2 ^^^ p4) &&& (p2 ^^^ (p2 - p4))) (0 : Int64)) (0 : Int32) = true then True else (ok_fail i l I J (6 : Int32) p5 ∧ True)) else True)))))) else (ok_fail i l I J (5 : Int32) p5 ∧ True))) else (if mj_cnd .eq p1 p3 = true then (if mj_cnd .ne p0 (60 : Int32) = true then (if mj_cnd .ne p0 (62 : Int32) = true then (if mj_cnd .ne (lg_cmp p2 p4) (0 : Int32) = true then True else okl_worked n 71 i l I J (fun _ => 0) (fun _ => 0)) else (if mj_cnd .le (lg_cmp p2 p4) (0 : Int32) = true then True else okl_worked n 71 i l I J (fun _ => 0) (fun _ => 0))) else (if mj_cnd .ge (lg_cmp p2 p4) (0 : Int32) = true then True else okl_worked n 71 i l I J (fun _ => 0) (fun _ => 0))) else (if mj_cnd .ne p0 (61 : Int32) = true then (ok_fail i l I J (5 : Int32) p5 ∧ True) else True))))
set_option maxRecDepth 20000 in
theorem ql_worked {xt : mj_X} {pre post : mj_H} {m : Nat} {d : Nat} (hm : pre.length = m) (h2 : 2 ≤ m) : ∀ n : Nat, (∀ i l I J v w, okl_worked n 71 i l I J v w → mjR (fun N => mj_call (mj_mmof pg_ms) (mj_TTof pg_TL) xt pg_tl 2 (d + 2) N) (mj_TTof pg_TL 12).1 (mj_TTof pg_TL 12).2 xt pg_tl 2 9 (d + 2) false (Option.some Jvm.ClassFile.FieldType.long) (mj_dec prog_14_method_51_code) 71 [(0, .ref m)] [] (rH pre post m i l I J) (some (.long (lp_worked n 71 i l I J v w).1)) (rH pre post m (lp_worked n 71 i l I J v w).2.1 (lp_worked n 71 i l I J v w).2.2.1 (lp_worked n 71 i l I J v w).2.2.2.1 (lp_worked n 71 i l I J v w).2.2.2.2)) ∧ (∀ i l I J v w, okl_worked n 304 i l I J v w → mjR (fun N => mj_call (mj_mmof pg_ms) (mj_TTof pg_TL) xt pg_tl 2 (d + 2) N) (mj_TTof pg_TL 12).1 (mj_TTof pg_TL 12).2 xt pg_tl 2 9 (d + 2) false (Option.some Jvm.ClassFile.FieldType.long) (mj_dec prog_14_method_51_code) 304 [(0, .ref m), (3, .long (w 3)), (6, .long (w 6))] [] (rH pre post m i l I J) (some (.long (lp_worked n 304 i l I J v w).1)) (rH pre post m (lp_worked n 304 i l I J v w).2.1 (lp_worked n 304 i l I J v w).2.2.1 (lp_worked n 304 i l I J v w).2.2.2.1 (lp_worked n 304 i l I J v w).2.2.2.2)) ∧ (∀ i l I J v w, okl_worked n 368 i l I J v w → mjR (fun N => mj_call (mj_mmof pg_ms) (mj_TTof pg_TL) xt pg_tl 2 (d + 2) N) (mj_TTof pg_TL 12).1 (mj_TTof pg_TL 12).2 xt pg_tl 2 9 (d + 2) false (Option.some Jvm.ClassFile.FieldType.long) (mj_dec prog_14_method_51_code) 368 [(0, .ref m), (3, .long (w 3)), (6, .long (w 6))] [] (rH pre post m i l I J) (some (.long (lp_worked n 368 i l I J v w).1)) (rH pre post m (lp_worked n 368 i l I J v w).2.1 (lp_worked n 368 i l I J v w).2.2.1 (lp_worked n 368 i l I J v w).2.2.2.1 (lp_worked n 368 i l I J v w).2.2.2.2)) := by
  intro n
  induction n with
  | zero => exact ⟨fun i l I J v w h => absurd h id, fun i l I J v w h => absurd h id, fun i l I J v w h => absurd h id⟩
  | succ n ih =>
    refine ⟨?_, ?_, ?_⟩
    · intro i l I J v w hok
      have hok : True := hok
      refine ms0 (S' := .long (1 : Int64) :: _) dm_worked_71 rfl rfl rfl rfl ?_
      refine ms2 dm_worked_72 rfl rfl rfl ?_
      have he : lp_worked (n + 1) 71 i l I J v w = ((1 : Int64), i, l, I, J) := by
        rw [lb_worked_71]
      rw [he]
      exact ms5 dm_worked_76 rfl rfl rfl
    · intro i l I J v w hok
      have hok : (¬ ((w 6) = 0) ∧ True) := hok
      refine ms1 dm_worked_304 rfl rfl rfl rfl ?_
      refine ms1 dm_worked_305 rfl rfl rfl rfl ?_
      obtain ⟨ho, hok⟩ := hok
      refine ms_ldiv dm_worked_307 ho rfl ?_
      have he : lp_worked (n + 1) 304 i l I J v w = (((w 3) / (w 6)), i, l, I, J) := by
        rw [lb_worked_304]
      rw [he]
      exact ms5 dm_worked_308 rfl rfl rfl
    · intro i l I J v w hok
      have hok : (¬ ((w 3) = 0) ∧ True) := hok
      refine ms1 dm_worked_368 rfl rfl rfl rfl ?_
      refine ms1 dm_worked_370 rfl rfl rfl rfl ?_
      obtain ⟨ho, hok⟩ := hok
      refine ms_lrem dm_worked_371 ho rfl ?_
      have he : lp_worked (n + 1) 368 i l I J v w = (((w 6) - (w 6) / (w 3) * (w 3)), i, l, I, J) := by
        rw [lb_worked_368]
      rw [he]
      exact ms5 dm_worked_372 rfl rfl rfl
set_option maxRecDepth 20000 in
theorem q_worked {xt : mj_X} {pre post : mj_H} {m : Nat} {i : Nat → Int32} {l : Nat → Int64} {I : Nat → Nat → Int32} {J : Nat → Nat → Int64} {d : Nat} (hm : pre.length = m) (h2 : 2 ≤ m) {p0 : Int32} {p1 : Int32} {p2 : Int64} {p3 : Int32} {p4 : Int64} {p5 : Int32} {n : Nat} (hok : ok_worked n i l I J p0 p1 p2 p3 p4 p5) : pgC xt (d + 3) k_worked (.ref m :: [.int p0, .int p1, .long p2, .int p3, .long p4, .int p5]) (rH pre post m i l I J) (some (.long (s_worked n i l I J p0 p1 p2 p3 p4 p5).1)) (rH pre post m (s_worked n i l I J p0 p1 p2 p3 p4 p5).2.1 (s_worked n i l I J p0 p1 p2 p3 p4 p5).2.2.1 (s_worked n i l I J p0 p1 p2 p3 p4 p5).2.2.2.1 (s_worked n i l I J p0 p1 p2 p3 p4 p5).2.2.2.2) := by
  unfold ok_worked at hok
  refine ms_call pm_worked (Nat.le_of_ble_eq_true rfl) ?_
  dsimp only
  refine ms1 dm_worked_0 rfl rfl rfl rfl ?_
  obtain ⟨ho, hok⟩ := hok
  refine ms4 dm_worked_1 rfl (r_invs (As := [.int p0]) rfl rfl rfl) (q_compares hm h2 ho) rfl rfl rfl ?_
  refine ms_1c dm_worked_4 rfl rfl (fun hb1 => ?_) (fun hb1 => ?_)
  · have hb1 : mj_cnd .eq (a_compares i l I J p0) (0 : Int32) = true := hb1
    rw [if_pos hb1] at hok
    refine ms1 dm_worked_77 rfl rfl rfl rfl ?_
    refine ms_1c dm_worked_78 rfl rfl (fun hb2 => ?_) (fun hb2 => ?_)
    · have hb2 : mj_cnd .ne p1 (0 : Int32) = true := hb2
      rw [if_pos hb2] at hok
      refine ms1 dm_worked_86 rfl rfl rfl rfl ?_
      refine ms0 (S' := .int (5 : Int32) :: _) dm_worked_87 rfl rfl rfl rfl ?_
      refine ms1 dm_worked_88 rfl rfl rfl rfl ?_
      obtain ⟨ho, hok⟩ := hok
      refine ms4 dm_worked_90 rfl (r_inv (As := [.int (5 : Int32), .int p5]) hm h2 rfl rfl rfl) (q_fail hm h2 ho) rfl rfl rfl ?_
      refine ms0 dm_worked_93 rfl rfl rfl rfl ?_
      have he : s_worked n i l I J p0 p1 p2 p3 p4 p5 = (((a_fail i l I J (5 : Int32) p5)).toInt64, (si_fail i l I J (5 : Int32) p5), l, I, J) := by
        unfold s_worked
        simp only [hb1, hb2, Bool.false_eq_true, if_true, if_false]
      rw [he]
      exact ms5 dm_worked_94 rfl rfl rfl
    · have hb2 : ¬ (mj_cnd .ne p1 (0 : Int32) = true) := hb2
      rw [if_neg hb2] at hok
      refine ms1 dm_worked_81 rfl rfl rfl rfl ?_
      refine ms_1c dm_worked_83 rfl rfl (fun hb3 => ?_) (fun hb3 => ?_)
      · have hb3 : mj_cnd .eq p3 (0 : Int32) = true := hb3
        rw [if_pos hb3] at hok
        refine ms1 dm_worked_95 rfl rfl rfl rfl ?_
        refine ms_sw (33 : Int32) dm_worked_96 rfl rfl rfl (fun hb4 => ?_) (fun hb4 => ?_)
        · have hb4 : mj_cnd .eq p0 (33 : Int32) = true := hb4
          rw [if_pos hb4] at hok
          refine ms1 dm_worked_309 rfl rfl rfl rfl ?_
          refine ms0 (S' := .long (0 : Int64) :: _) dm_worked_310 rfl rfl rfl rfl ?_
          refine ms0 dm_worked_311 rfl rfl rfl rfl ?_
          refine ms_1c dm_worked_312 rfl rfl (fun hb5 => ?_) (fun hb5 => ?_)
          · have hb5 : mj_cnd .ne (lg_cmp p2 (0 : Int64)) (0 : Int32) = true := hb5
            rw [if_pos hb5] at hok
            refine ms1 dm_worked_324 rfl rfl rfl rfl ?_
            refine ms1 dm_worked_326 rfl rfl rfl rfl ?_
            obtain ⟨ho, hok⟩ := hok
            refine ms_lrem dm_worked_327 ho rfl ?_
            refine ms0 (S' := .long (0 : Int64) :: _) dm_worked_328 rfl rfl rfl rfl ?_
            refine ms0 dm_worked_329 rfl rfl rfl rfl ?_
            refine ms_1c dm_worked_330 rfl rfl (fun hb6 => ?_) (fun hb6 => ?_)
            · have hb6 : mj_cnd .eq (lg_cmp (p4 - p4 / p2 * p2) (0 : Int64)) (0 : Int32) = true := hb6
              rw [if_pos hb6] at hok
              have he : s_worked n i l I J p0 p1 p2 p3 p4 p5 = lp_worked n 368 i l I J (fun _ => 0) (vp_updL (vp_updL (fun _ => 0) 3 p2) 6 p4) := by
                unfold s_worked
                simp only [hb1, hb2, hb3, hb4, hb5, hb6, Bool.false_eq_true, if_true, if_false]
              rw [he]
              exact mjR_sub rfl rfl rfl ((ql_worked hm h2 n).2.2 _ _ _ _ _ _ hok)
            · have hb6 : ¬ (mj_cnd .eq (lg_cmp (p4 - p4 / p2 * p2) (0 : Int64)) (0 : Int32) = true) := hb6
              rw [if_neg hb6] at hok
              refine ms1 dm_worked_333 rfl rfl rfl rfl ?_
              refine ms0 (S' := .long (0 : Int64) :: _) dm_worked_335 rfl rfl rfl rfl ?_
              refine ms0 dm_worked_336 rfl rfl rfl rfl ?_
              refine ms_1c dm_worked_337 rfl rfl (fun hb7 => ?_) (fun hb7 => ?_)
              · have hb7 : mj_cnd .ge (lg_cmp p4 (0 : Int64)) (0 : Int32) = true := hb7
                rw [if_pos hb7] at hok
                refine ms0 (S' := .int (0 : Int32) :: _) dm_worked_344 rfl rfl rfl rfl ?_
                refine ms1 dm_worked_345 rfl rfl rfl rfl ?_
                refine ms0 (S' := .long (0 : Int64) :: _) dm_worked_346 rfl rfl rfl rfl ?_
                refine ms0 dm_worked_347 rfl rfl rfl rfl ?_
                refine ms_1c dm_worked_348 rfl rfl (fun hb8 => ?_) (fun hb8 => ?_)
                · have hb8 : mj_cnd .ge (lg_cmp p2 (0 : Int64)) (0 : Int32) = true := hb8
                  rw [if_pos hb8] at hok
                  refine ms0 (S' := .int (0 : Int32) :: _) dm_worked_355 rfl rfl rfl rfl ?_
                  refine ms_2t dm_worked_356 rfl rfl ?_
                  have he : s_worked n i l I J p0 p1 p2 p3 p4 p5 = lp_worked n 368 i l I J (fun _ => 0) (vp_updL (vp_updL (fun _ => 0) 3 p2) 6 p4) := by
                    unfold s_worked
                    simp only [hb1, hb2, hb3, hb4, hb5, hb6, hb7, hb8, Bool.false_eq_true, if_true, if_false]
                  rw [he]
                  exact mjR_sub rfl rfl rfl ((ql_worked hm h2 n).2.2 _ _ _ _ _ _ hok)
                · have hb8 : ¬ (mj_cnd .ge (lg_cmp p2 (0 : Int64)) (0 : Int32) = true) := hb8
                  rw [if_neg hb8] at hok
                  refine ms0 (S' := .int (1 : Int32) :: _) dm_worked_351 rfl rfl rfl rfl ?_
                  refine ms2 dm_worked_352 rfl rfl rfl ?_
                  refine ms_2f dm_worked_356 rfl (by decide) rfl ?_
                  refine ms1 dm_worked_359 rfl rfl rfl rfl ?_
                  refine ms1 dm_worked_361 rfl rfl rfl rfl ?_
                  obtain ⟨ho, hok⟩ := hok
                  refine ms_lrem dm_worked_362 ho rfl ?_
                  refine ms1 dm_worked_363 rfl rfl rfl rfl ?_
                  refine ms0 dm_worked_364 rfl rfl rfl rfl ?_
                  refine ms2 dm_worked_365 rfl rfl rfl ?_
                  have he : s_worked n i l I J p0 p1 p2 p3 p4 p5 = (((p4 - p4 / p2 * p2) + p2), i, l, I, J) := by
                    unfold s_worked
                    simp only [hb1, hb2, hb3, hb4, hb5, hb6, hb7, hb8, Bool.false_eq_true, if_true, if_false]
                  rw [he]
                  exact ms5 dm_worked_372 rfl rfl rfl
              · have hb7 : ¬ (mj_cnd .ge (lg_cmp p4 (0 : Int64)) (0 : Int32) = true) := hb7
                rw [if_neg hb7] at hok
                refine ms0 (S' := .int (1 : Int32) :: _) dm_worked_340 rfl rfl rfl rfl ?_
                refine ms2 dm_worked_341 rfl rfl rfl ?_
                refine ms1 dm_worked_345 rfl rfl rfl rfl ?_
                refine ms0 (S' := .long (0 : Int64) :: _) dm_worked_346 rfl rfl rfl rfl ?_
                refine ms0 dm_worked_347 rfl rfl rfl rfl ?_
                refine ms_1c dm_worked_348 rfl rfl (fun hb9 => ?_) (fun hb9 => ?_)
                · have hb9 : mj_cnd .ge (lg_cmp p2 (0 : Int64)) (0 : Int32) = true := hb9
                  rw [if_pos hb9] at hok
                  refine ms0 (S' := .int (0 : Int32) :: _) dm_worked_355 rfl rfl rfl rfl ?_
                  refine ms_2f dm_worked_356 rfl (by decide) rfl ?_
                  refine ms1 dm_worked_359 rfl rfl rfl rfl ?_
                  refine ms1 dm_worked_361 rfl rfl rfl rfl ?_
                  obtain ⟨ho, hok⟩ := hok
                  refine ms_lrem dm_worked_362 ho rfl ?_
                  refine ms1 dm_worked_363 rfl rfl rfl rfl ?_
                  refine ms0 dm_worked_364 rfl rfl rfl rfl ?_
                  refine ms2 dm_worked_365 rfl rfl rfl ?_
                  have he : s_worked n i l I J p0 p1 p2 p3 p4 p5 = (((p4 - p4 / p2 * p2) + p2), i, l, I, J) := by
                    unfold s_worked
                    simp only [hb1, hb2, hb3, hb4, hb5, hb6, hb7, hb9, Bool.false_eq_true, if_true, if_false]
                  rw [he]
                  exact ms5 dm_worked_372 rfl rfl rfl
                · have hb9 : ¬ (mj_cnd .ge (lg_cmp p2 (0 : Int64)) (0 : Int32) = true) := hb9
                  rw [if_neg hb9] at hok
                  refine ms0 (S' := .int (1 : Int32) :: _) dm_worked_351 rfl rfl rfl rfl ?_
                  refine ms2 dm_worked_352 rfl rfl rfl ?_
                  refine ms_2t dm_worked_356 rfl rfl ?_
                  have he : s_worked n i l I J p0 p1 p2 p3 p4 p5 = lp_worked n 368 i l I J (fun _ => 0) (vp_updL (vp_updL (fun _ => 0) 3 p2) 6 p4) := by
                    unfold s_worked
                    simp only [hb1, hb2, hb3, hb4, hb5, hb6, hb7, hb9, Bool.false_eq_true, if_true, if_false]
                  rw [he]
                  exact mjR_sub rfl rfl rfl ((ql_worked hm h2 n).2.2 _ _ _ _ _ _ hok)
          · have hb5 : ¬ (mj_cnd .ne (lg_cmp p2 (0 : Int64)) (0 : Int32) = true) := hb5
            rw [if_neg hb5] at hok
            refine ms1 dm_worked_315 rfl rfl rfl rfl ?_
            refine ms0 (S' := .int (5 : Int32) :: _) dm_worked_316 rfl rfl rfl rfl ?_
            refine ms1 dm_worked_317 rfl rfl rfl rfl ?_
            obtain ⟨ho, hok⟩ := hok
            refine ms4 dm_worked_319 rfl (r_inv (As := [.int (5 : Int32), .int p5]) hm h2 rfl rfl rfl) (q_fail hm h2 ho) rfl rfl rfl ?_
            refine ms0 dm_worked_322 rfl rfl rfl rfl ?_
            have he : s_worked n i l I J p0 p1 p2 p3 p4 p5 = (((a_fail i l I J (5 : Int32) p5)).toInt64, (si_fail i l I J (5 : Int32) p5), l, I, J) := by
              unfold s_worked
              simp only [hb1, hb2, hb3, hb4, hb5, Bool.false_eq_true, if_true, if_false]
            rw [he]
            exact ms5 dm_worked_323 rfl rfl rfl
        · have hb4 : ¬ (mj_cnd .eq p0 (33 : Int32) = true) := hb4
          rw [if_neg hb4] at hok
          refine ms_sw (37 : Int32) dm_worked_96 rfl rfl rfl (fun hb10 => ?_) (fun hb10 => ?_)
          · have hb10 : mj_cnd .eq p0 (37 : Int32) = true := hb10
            rw [if_pos hb10] at hok
            refine ms1 dm_worked_217 rfl rfl rfl rfl ?_
            refine ms0 (S' := .long (0 : Int64) :: _) dm_worked_219 rfl rfl rfl rfl ?_
            refine ms0 dm_worked_220 rfl rfl rfl rfl ?_
            refine ms_1c dm_worked_221 rfl rfl (fun hb11 => ?_) (fun hb11 => ?_)
            · have hb11 : mj_cnd .ne (lg_cmp p4 (0 : Int64)) (0 : Int32) = true := hb11
              rw [if_pos hb11] at hok
              refine ms1 dm_worked_233 rfl rfl rfl rfl ?_
              refine ms3 (S' := .long (-9223372036854775808 : Int64) :: _) dm_worked_234 rfl rfl rfl rfl ?_
              refine ms0 dm_worked_237 rfl rfl rfl rfl ?_
              refine ms_1c dm_worked_238 rfl rfl (fun hb12 => ?_) (fun hb12 => ?_)
              · have hb12 : mj_cnd .ne (lg_cmp p2 (-9223372036854775808 : Int64)) (0 : Int32) = true := hb12
                rw [if_pos hb12] at hok
                refine ms1 dm_worked_260 rfl rfl rfl rfl ?_
                refine ms1 dm_worked_261 rfl rfl rfl rfl ?_
                obtain ⟨ho, hok⟩ := hok
                refine ms_lrem dm_worked_263 ho rfl ?_
                refine ms0 (S' := .long (0 : Int64) :: _) dm_worked_264 rfl rfl rfl rfl ?_
                refine ms0 dm_worked_265 rfl rfl rfl rfl ?_
                refine ms_1c dm_worked_266 rfl rfl (fun hb13 => ?_) (fun hb13 => ?_)
                · have hb13 : mj_cnd .eq (lg_cmp (p2 - p2 / p4 * p4) (0 : Int64)) (0 : Int32) = true := hb13
                  rw [if_pos hb13] at hok
                  have he : s_worked n i l I J p0 p1 p2 p3 p4 p5 = lp_worked n 304 i l I J (fun _ => 0) (vp_updL (vp_updL (fun _ => 0) 3 p2) 6 p4) := by
                    unfold s_worked
                    simp only [hb1, hb2, hb3, hb4, hb10, hb11, hb12, hb13, Bool.false_eq_true, if_true, if_false]
                  rw [he]
                  exact mjR_sub rfl rfl rfl ((ql_worked hm h2 n).2.1 _ _ _ _ _ _ hok)
                · have hb13 : ¬ (mj_cnd .eq (lg_cmp (p2 - p2 / p4 * p4) (0 : Int64)) (0 : Int32) = true) := hb13
                  rw [if_neg hb13] at hok
                  refine ms1 dm_worked_269 rfl rfl rfl rfl ?_
                  refine ms0 (S' := .long (0 : Int64) :: _) dm_worked_270 rfl rfl rfl rfl ?_
                  refine ms0 dm_worked_271 rfl rfl rfl rfl ?_
                  refine ms_1c dm_worked_272 rfl rfl (fun hb14 => ?_) (fun hb14 => ?_)
                  · have hb14 : mj_cnd .ge (lg_cmp p2 (0 : Int64)) (0 : Int32) = true := hb14
                    rw [if_pos hb14] at hok
                    refine ms0 (S' := .int (0 : Int32) :: _) dm_worked_279 rfl rfl rfl rfl ?_
                    refine ms1 dm_worked_280 rfl rfl rfl rfl ?_
                    refine ms0 (S' := .long (0 : Int64) :: _) dm_worked_282 rfl rfl rfl rfl ?_
                    refine ms0 dm_worked_283 rfl rfl rfl rfl ?_
                    refine ms_1c dm_worked_284 rfl rfl (fun hb15 => ?_) (fun hb15 => ?_)
                    · have hb15 : mj_cnd .ge (lg_cmp p4 (0 : Int64)) (0 : Int32) = true := hb15
                      rw [if_pos hb15] at hok
                      refine ms0 (S' := .int (0 : Int32) :: _) dm_worked_291 rfl rfl rfl rfl ?_
                      refine ms_2t dm_worked_292 rfl rfl ?_
                      have he : s_worked n i l I J p0 p1 p2 p3 p4 p5 = lp_worked n 304 i l I J (fun _ => 0) (vp_updL (vp_updL (fun _ => 0) 3 p2) 6 p4) := by
                        unfold s_worked
                        simp only [hb1, hb2, hb3, hb4, hb10, hb11, hb12, hb13, hb14, hb15, Bool.false_eq_true, if_true, if_false]
                      rw [he]
                      exact mjR_sub rfl rfl rfl ((ql_worked hm h2 n).2.1 _ _ _ _ _ _ hok)
                    · have hb15 : ¬ (mj_cnd .ge (lg_cmp p4 (0 : Int64)) (0 : Int32) = true) := hb15
                      rw [if_neg hb15] at hok
                      refine ms0 (S' := .int (1 : Int32) :: _) dm_worked_287 rfl rfl rfl rfl ?_
                      refine ms2 dm_worked_288 rfl rfl rfl ?_
                      refine ms_2f dm_worked_292 rfl (by decide) rfl ?_
                      refine ms1 dm_worked_295 rfl rfl rfl rfl ?_
                      refine ms1 dm_worked_296 rfl rfl rfl rfl ?_
                      obtain ⟨ho, hok⟩ := hok
                      refine ms_ldiv dm_worked_298 ho rfl ?_
                      refine ms0 (S' := .long (1 : Int64) :: _) dm_worked_299 rfl rfl rfl rfl ?_
                      refine ms0 dm_worked_300 rfl rfl rfl rfl ?_
                      refine ms2 dm_worked_301 rfl rfl rfl ?_
                      have he : s_worked n i l I J p0 p1 p2 p3 p4 p5 = (((p2 / p4) - (1 : Int64)), i, l, I, J) := by
                        unfold s_worked
                        simp only [hb1, hb2, hb3, hb4, hb10, hb11, hb12, hb13, hb14, hb15, Bool.false_eq_true, if_true, if_false]
                      rw [he]
                      exact ms5 dm_worked_308 rfl rfl rfl
                  · have hb14 : ¬ (mj_cnd .ge (lg_cmp p2 (0 : Int64)) (0 : Int32) = true) := hb14
                    rw [if_neg hb14] at hok
                    refine ms0 (S' := .int (1 : Int32) :: _) dm_worked_275 rfl rfl rfl rfl ?_
                    refine ms2 dm_worked_276 rfl rfl rfl ?_
                    refine ms1 dm_worked_280 rfl rfl rfl rfl ?_
                    refine ms0 (S' := .long (0 : Int64) :: _) dm_worked_282 rfl rfl rfl rfl ?_
                    refine ms0 dm_worked_283 rfl rfl rfl rfl ?_
                    refine ms_1c dm_worked_284 rfl rfl (fun hb16 => ?_) (fun hb16 => ?_)
                    · have hb16 : mj_cnd .ge (lg_cmp p4 (0 : Int64)) (0 : Int32) = true := hb16
                      rw [if_pos hb16] at hok
                      refine ms0 (S' := .int (0 : Int32) :: _) dm_worked_291 rfl rfl rfl rfl ?_
                      refine ms_2f dm_worked_292 rfl (by decide) rfl ?_
                      refine ms1 dm_worked_295 rfl rfl rfl rfl ?_
                      refine ms1 dm_worked_296 rfl rfl rfl rfl ?_
                      obtain ⟨ho, hok⟩ := hok
                      refine ms_ldiv dm_worked_298 ho rfl ?_
                      refine ms0 (S' := .long (1 : Int64) :: _) dm_worked_299 rfl rfl rfl rfl ?_
                      refine ms0 dm_worked_300 rfl rfl rfl rfl ?_
                      refine ms2 dm_worked_301 rfl rfl rfl ?_
                      have he : s_worked n i l I J p0 p1 p2 p3 p4 p5 = (((p2 / p4) - (1 : Int64)), i, l, I, J) := by
                        unfold s_worked
                        simp only [hb1, hb2, hb3, hb4, hb10, hb11, hb12, hb13, hb14, hb16, Bool.false_eq_true, if_true, if_false]
                      rw [he]
                      exact ms5 dm_worked_308 rfl rfl rfl
                    · have hb16 : ¬ (mj_cnd .ge (lg_cmp p4 (0 : Int64)) (0 : Int32) = true) := hb16
                      rw [if_neg hb16] at hok
                      refine ms0 (S' := .int (1 : Int32) :: _) dm_worked_287 rfl rfl rfl rfl ?_
                      refine ms2 dm_worked_288 rfl rfl rfl ?_
                      refine ms_2t dm_worked_292 rfl rfl ?_
                      have he : s_worked n i l I J p0 p1 p2 p3 p4 p5 = lp_worked n 304 i l I J (fun _ => 0) (vp_updL (vp_updL (fun _ => 0) 3 p2) 6 p4) := by
                        unfold s_worked
                        simp only [hb1, hb2, hb3, hb4, hb10, hb11, hb12, hb13, hb14, hb16, Bool.false_eq_true, if_true, if_false]
                      rw [he]
                      exact mjR_sub rfl rfl rfl ((ql_worked hm h2 n).2.1 _ _ _ _ _ _ hok)
              · have hb12 : ¬ (mj_cnd .ne (lg_cmp p2 (-9223372036854775808 : Int64)) (0 : Int32) = true) := hb12
                rw [if_neg hb12] at hok
                refine ms1 dm_worked_241 rfl rfl rfl rfl ?_
                refine ms3 (S' := .long (-1 : Int64) :: _) dm_worked_243 rfl rfl rfl rfl ?_
                refine ms0 dm_worked_246 rfl rfl rfl rfl ?_
                refine ms_1c dm_worked_247 rfl rfl (fun hb17 => ?_) (fun hb17 => ?_)
                · have hb17 : mj_cnd .ne (lg_cmp p4 (-1 : Int64)) (0 : Int32) = true := hb17
                  rw [if_pos hb17] at hok
                  refine ms1 dm_worked_260 rfl rfl rfl rfl ?_
                  refine ms1 dm_worked_261 rfl rfl rfl rfl ?_
                  obtain ⟨ho, hok⟩ := hok
                  refine ms_lrem dm_worked_263 ho rfl ?_
                  refine ms0 (S' := .long (0 : Int64) :: _) dm_worked_264 rfl rfl rfl rfl ?_
                  refine ms0 dm_worked_265 rfl rfl rfl rfl ?_
                  refine ms_1c dm_worked_266 rfl rfl (fun hb18 => ?_) (fun hb18 => ?_)
                  · have hb18 : mj_cnd .eq (lg_cmp (p2 - p2 / p4 * p4) (0 : Int64)) (0 : Int32) = true := hb18
                    rw [if_pos hb18] at hok
                    have he : s_worked n i l I J p0 p1 p2 p3 p4 p5 = lp_worked n 304 i l I J (fun _ => 0) (vp_updL (vp_updL (fun _ => 0) 3 p2) 6 p4) := by
                      unfold s_worked
                      simp only [hb1, hb2, hb3, hb4, hb10, hb11, hb12, hb17, hb18, Bool.false_eq_true, if_true, if_false]
                    rw [he]
                    exact mjR_sub rfl rfl rfl ((ql_worked hm h2 n).2.1 _ _ _ _ _ _ hok)
                  · have hb18 : ¬ (mj_cnd .eq (lg_cmp (p2 - p2 / p4 * p4) (0 : Int64)) (0 : Int32) = true) := hb18
                    rw [if_neg hb18] at hok
                    refine ms1 dm_worked_269 rfl rfl rfl rfl ?_
                    refine ms0 (S' := .long (0 : Int64) :: _) dm_worked_270 rfl rfl rfl rfl ?_
                    refine ms0 dm_worked_271 rfl rfl rfl rfl ?_
                    refine ms_1c dm_worked_272 rfl rfl (fun hb19 => ?_) (fun hb19 => ?_)
                    · have hb19 : mj_cnd .ge (lg_cmp p2 (0 : Int64)) (0 : Int32) = true := hb19
                      rw [if_pos hb19] at hok
                      refine ms0 (S' := .int (0 : Int32) :: _) dm_worked_279 rfl rfl rfl rfl ?_
                      refine ms1 dm_worked_280 rfl rfl rfl rfl ?_
                      refine ms0 (S' := .long (0 : Int64) :: _) dm_worked_282 rfl rfl rfl rfl ?_
                      refine ms0 dm_worked_283 rfl rfl rfl rfl ?_
                      refine ms_1c dm_worked_284 rfl rfl (fun hb20 => ?_) (fun hb20 => ?_)
                      · have hb20 : mj_cnd .ge (lg_cmp p4 (0 : Int64)) (0 : Int32) = true := hb20
                        rw [if_pos hb20] at hok
                        refine ms0 (S' := .int (0 : Int32) :: _) dm_worked_291 rfl rfl rfl rfl ?_
                        refine ms_2t dm_worked_292 rfl rfl ?_
                        have he : s_worked n i l I J p0 p1 p2 p3 p4 p5 = lp_worked n 304 i l I J (fun _ => 0) (vp_updL (vp_updL (fun _ => 0) 3 p2) 6 p4) := by
                          unfold s_worked
                          simp only [hb1, hb2, hb3, hb4, hb10, hb11, hb12, hb17, hb18, hb19, hb20, Bool.false_eq_true, if_true, if_false]
                        rw [he]
                        exact mjR_sub rfl rfl rfl ((ql_worked hm h2 n).2.1 _ _ _ _ _ _ hok)
                      · have hb20 : ¬ (mj_cnd .ge (lg_cmp p4 (0 : Int64)) (0 : Int32) = true) := hb20
                        rw [if_neg hb20] at hok
                        refine ms0 (S' := .int (1 : Int32) :: _) dm_worked_287 rfl rfl rfl rfl ?_
                        refine ms2 dm_worked_288 rfl rfl rfl ?_
                        refine ms_2f dm_worked_292 rfl (by decide) rfl ?_
                        refine ms1 dm_worked_295 rfl rfl rfl rfl ?_
                        refine ms1 dm_worked_296 rfl rfl rfl rfl ?_
                        obtain ⟨ho, hok⟩ := hok
                        refine ms_ldiv dm_worked_298 ho rfl ?_
                        refine ms0 (S' := .long (1 : Int64) :: _) dm_worked_299 rfl rfl rfl rfl ?_
                        refine ms0 dm_worked_300 rfl rfl rfl rfl ?_
                        refine ms2 dm_worked_301 rfl rfl rfl ?_
                        have he : s_worked n i l I J p0 p1 p2 p3 p4 p5 = (((p2 / p4) - (1 : Int64)), i, l, I, J) := by
                          unfold s_worked
                          simp only [hb1, hb2, hb3, hb4, hb10, hb11, hb12, hb17, hb18, hb19, hb20, Bool.false_eq_true, if_true, if_false]
                        rw [he]
                        exact ms5 dm_worked_308 rfl rfl rfl
                    · have hb19 : ¬ (mj_cnd .ge (lg_cmp p2 (0 : Int64)) (0 : Int32) = true) := hb19
                      rw [if_neg hb19] at hok
                      refine ms0 (S' := .int (1 : Int32) :: _) dm_worked_275 rfl rfl rfl rfl ?_
                      refine ms2 dm_worked_276 rfl rfl rfl ?_
                      refine ms1 dm_worked_280 rfl rfl rfl rfl ?_
                      refine ms0 (S' := .long (0 : Int64) :: _) dm_worked_282 rfl rfl rfl rfl ?_
                      refine ms0 dm_worked_283 rfl rfl rfl rfl ?_
                      refine ms_1c dm_worked_284 rfl rfl (fun hb21 => ?_) (fun hb21 => ?_)
                      · have hb21 : mj_cnd .ge (lg_cmp p4 (0 : Int64)) (0 : Int32) = true := hb21
                        rw [if_pos hb21] at hok
                        refine ms0 (S' := .int (0 : Int32) :: _) dm_worked_291 rfl rfl rfl rfl ?_
                        refine ms_2f dm_worked_292 rfl (by decide) rfl ?_
                        refine ms1 dm_worked_295 rfl rfl rfl rfl ?_
                        refine ms1 dm_worked_296 rfl rfl rfl rfl ?_
                        obtain ⟨ho, hok⟩ := hok
                        refine ms_ldiv dm_worked_298 ho rfl ?_
                        refine ms0 (S' := .long (1 : Int64) :: _) dm_worked_299 rfl rfl rfl rfl ?_
                        refine ms0 dm_worked_300 rfl rfl rfl rfl ?_
                        refine ms2 dm_worked_301 rfl rfl rfl ?_
                        have he : s_worked n i l I J p0 p1 p2 p3 p4 p5 = (((p2 / p4) - (1 : Int64)), i, l, I, J) := by
                          unfold s_worked
                          simp only [hb1, hb2, hb3, hb4, hb10, hb11, hb12, hb17, hb18, hb19, hb21, Bool.false_eq_true, if_true, if_false]
                        rw [he]
                        exact ms5 dm_worked_308 rfl rfl rfl
                      · have hb21 : ¬ (mj_cnd .ge (lg_cmp p4 (0 : Int64)) (0 : Int32) = true) := hb21
                        rw [if_neg hb21] at hok
                        refine ms0 (S' := .int (1 : Int32) :: _) dm_worked_287 rfl rfl rfl rfl ?_
                        refine ms2 dm_worked_288 rfl rfl rfl ?_
                        refine ms_2t dm_worked_292 rfl rfl ?_
                        have he : s_worked n i l I J p0 p1 p2 p3 p4 p5 = lp_worked n 304 i l I J (fun _ => 0) (vp_updL (vp_updL (fun _ => 0) 3 p2) 6 p4) := by
                          unfold s_worked
                          simp only [hb1, hb2, hb3, hb4, hb10, hb11, hb12, hb17, hb18, hb19, hb21, Bool.false_eq_true, if_true, if_false]
                        rw [he]
                        exact mjR_sub rfl rfl rfl ((ql_worked hm h2 n).2.1 _ _ _ _ _ _ hok)
                · have hb17 : ¬ (mj_cnd .ne (lg_cmp p4 (-1 : Int64)) (0 : Int32) = true) := hb17
                  rw [if_neg hb17] at hok
                  refine ms1 dm_worked_250 rfl rfl rfl rfl ?_
                  refine ms0 (S' := .int (6 : Int32) :: _) dm_worked_251 rfl rfl rfl rfl ?_
                  refine ms1 dm_worked_253 rfl rfl rfl rfl ?_
                  obtain ⟨ho, hok⟩ := hok
                  refine ms4 dm_worked_255 rfl (r_inv (As := [.int (6 : Int32), .int p5]) hm h2 rfl rfl rfl) (q_fail hm h2 ho) rfl rfl rfl ?_
                  refine ms0 dm_worked_258 rfl rfl rfl rfl ?_
                  have he : s_worked n i l I J p0 p1 p2 p3 p4 p5 = (((a_fail i l I J (6 : Int32) p5)).toInt64, (si_fail i l I J (6 : Int32) p5), l, I, J) := by
                    unfold s_worked
                    simp only [hb1, hb2, hb3, hb4, hb10, hb11, hb12, hb17, Bool.false_eq_true, if_true, if_false]
                  rw [he]
                  exact ms5 dm_worked_259 rfl rfl rfl
            · have hb11 : ¬ (mj_cnd .ne (lg_cmp p4 (0 : Int64)) (0 : Int32) = true) := hb11
              rw [if_neg hb11] at hok
              refine ms1 dm_worked_224 rfl rfl rfl rfl ?_
              refine ms0 (S' := .int (5 : Int32) :: _) dm_worked_225 rfl rfl rfl rfl ?_
              refine ms1 dm_worked_226 rfl rfl rfl rfl ?_
              obtain ⟨ho, hok⟩ := hok
              refine ms4 dm_worked_228 rfl (r_inv (As := [.int (5 : Int32), .int p5]) hm h2 rfl rfl rfl) (q_fail hm h2 ho) rfl rfl rfl ?_
              refine ms0 dm_worked_231 rfl rfl rfl rfl ?_
              have he : s_worked n i l I J p0 p1 p2 p3 p4 p5 = (((a_fail i l I J (5 : Int32) p5)).toInt64, (si_fail i l I J (5 : Int32) p5), l, I, J) := by
                unfold s_worked
                simp only [hb1, hb2, hb3, hb4, hb10, hb11, Bool.false_eq_true, if_true, if_false]
              rw [he]
              exact ms5 dm_worked_232 rfl rfl rfl
          · have hb10 : ¬ (mj_cnd .eq p0 (37 : Int32) = true) := hb10
            rw [if_neg hb10] at hok
            refine ms_sw (38 : Int32) dm_worked_96 rfl rfl rfl (fun hb22 => ?_) (fun hb22 => ?_)
            · have hb22 : mj_cnd .eq p0 (38 : Int32) = true := hb22
              rw [if_pos hb22] at hok
              refine ms1 dm_worked_373 rfl rfl rfl rfl ?_
              refine ms1 dm_worked_374 rfl rfl rfl rfl ?_
              refine ms0 dm_worked_376 rfl rfl rfl rfl ?_
              refine ms_1c dm_worked_377 rfl rfl (fun hb23 => ?_) (fun hb23 => ?_)
              · have hb23 : mj_cnd .ge (lg_cmp p2 p4) (0 : Int32) = true := hb23
                refine ms1 dm_worked_384 rfl rfl rfl rfl ?_
                have he : s_worked n i l I J p0 p1 p2 p3 p4 p5 = (p4, i, l, I, J) := by
                  unfold s_worked
                  simp only [hb1, hb2, hb3, hb4, hb10, hb22, hb23, Bool.false_eq_true, if_true, if_false]
                rw [he]
                exact ms5 dm_worked_386 rfl rfl rfl
              · have hb23 : ¬ (mj_cnd .ge (lg_cmp p2 p4) (0 : Int32) = true) := hb23
                refine ms1 dm_worked_380 rfl rfl rfl rfl ?_
                refine ms2 dm_worked_381 rfl rfl rfl ?_
                have he : s_worked n i l I J p0 p1 p2 p3 p4 p5 = (p2, i, l, I, J) := by
                  unfold s_worked
                  simp only [hb1, hb2, hb3, hb4, hb10, hb22, hb23, Bool.false_eq_true, if_true, if_false]
                rw [he]
                exact ms5 dm_worked_386 rfl rfl rfl
            · have hb22 : ¬ (mj_cnd .eq p0 (38 : Int32) = true) := hb22
              rw [if_neg hb22] at hok
              refine ms_sw (42 : Int32) dm_worked_96 rfl rfl rfl (fun hb24 => ?_) (fun hb24 => ?_)
              · have hb24 : mj_cnd .eq p0 (42 : Int32) = true := hb24
                rw [if_pos hb24] at hok
                refine ms1 dm_worked_207 rfl rfl rfl rfl ?_
                refine ms1 dm_worked_208 rfl rfl rfl rfl ?_
                refine ms1 dm_worked_209 rfl rfl rfl rfl ?_
                refine ms1 dm_worked_211 rfl rfl rfl rfl ?_
                obtain ⟨ho, hok⟩ := hok
                refine ms4 dm_worked_213 rfl (r_inv (As := [.long p2, .long p4, .int p5]) hm h2 rfl rfl rfl) (q_product hm h2 ho) rfl rfl rfl ?_
                have he : s_worked n i l I J p0 p1 p2 p3 p4 p5 = ((a_product i l I J p2 p4 p5), (si_product i l I J p2 p4 p5), l, I, J) := by
                  unfold s_worked
                  simp only [hb1, hb2, hb3, hb4, hb10, hb22, hb24, Bool.false_eq_true, if_true, if_false]
                rw [he]
                exact ms5 dm_worked_216 rfl rfl rfl
              · have hb24 : ¬ (mj_cnd .eq p0 (42 : Int32) = true) := hb24
                rw [if_neg hb24] at hok
                refine ms_sw (43 : Int32) dm_worked_96 rfl rfl rfl (fun hb25 => ?_) (fun hb25 => ?_)
                · have hb25 : mj_cnd .eq p0 (43 : Int32) = true := hb25
                  rw [if_pos hb25] at hok
                  refine ms1 dm_worked_164 rfl rfl rfl rfl ?_
                  refine ms1 dm_worked_165 rfl rfl rfl rfl ?_
                  refine ms1 dm_worked_166 rfl rfl rfl rfl ?_
                  refine ms1 dm_worked_168 rfl rfl rfl rfl ?_
                  obtain ⟨ho, hok⟩ := hok
                  refine ms4 dm_worked_170 rfl (r_inv (As := [.long p2, .long p4, .int p5]) hm h2 rfl rfl rfl) (q_sum hm h2 ho) rfl rfl rfl ?_
                  have he : s_worked n i l I J p0 p1 p2 p3 p4 p5 = ((a_sum i l I J p2 p4 p5), (si_sum i l I J p2 p4 p5), l, I, J) := by
                    unfold s_worked
                    simp only [hb1, hb2, hb3, hb4, hb10, hb22, hb24, hb25, Bool.false_eq_true, if_true, if_false]
                  rw [he]
                  exact ms5 dm_worked_173 rfl rfl rfl
                · have hb25 : ¬ (mj_cnd .eq p0 (43 : Int32) = true) := hb25
                  rw [if_neg hb25] at hok
                  refine ms_sw (45 : Int32) dm_worked_96 rfl rfl rfl (fun hb26 => ?_) (fun hb26 => ?_)
                  · have hb26 : mj_cnd .eq p0 (45 : Int32) = true := hb26
                    rw [if_pos hb26] at hok
                    refine ms1 dm_worked_174 rfl rfl rfl rfl ?_
                    refine ms1 dm_worked_175 rfl rfl rfl rfl ?_
                    refine ms0 dm_worked_177 rfl rfl rfl rfl ?_
                    refine ms1 dm_worked_178 rfl rfl rfl rfl ?_
                    refine ms1 dm_worked_179 rfl rfl rfl rfl ?_
                    refine ms1 dm_worked_180 rfl rfl rfl rfl ?_
                    refine ms0 dm_worked_182 rfl rfl rfl rfl ?_
                    refine ms0 dm_worked_183 rfl rfl rfl rfl ?_
                    refine ms0 dm_worked_184 rfl rfl rfl rfl ?_
                    refine ms0 (S' := .long (0 : Int64) :: _) dm_worked_185 rfl rfl rfl rfl ?_
                    refine ms0 dm_worked_186 rfl rfl rfl rfl ?_
                    refine ms_1c dm_worked_187 rfl rfl (fun hb27 => ?_) (fun hb27 => ?_)
                    · have hb27 : mj_cnd .ge (lg_cmp ((p2 ^^^ p4) &&& (p2 ^^^ (p2 - p4))) (0 : Int64)) (0 : Int32) = true := hb27
                      rw [if_pos hb27] at hok
                      refine ms1 dm_worked_202 rfl rfl rfl rfl ?_
                      refine ms1 dm_worked_203 rfl rfl rfl rfl ?_
                      refine ms0 dm_worked_205 rfl rfl rfl rfl ?_
                      have he : s_worked n i l I J p0 p1 p2 p3 p4 p5 = ((p2 - p4), i, l, I, J) := by
                        unfold s_worked
                        simp only [hb1, hb2, hb3, hb4, hb10, hb22, hb24, hb25, hb26, hb27, Bool.false_eq_true, if_true, if_false]
                      rw [he]
                      exact ms5 dm_worked_206 rfl rfl rfl
                    · have hb27 : ¬ (mj_cnd .ge (lg_cmp ((p2 ^^^ p4) &&& (p2 ^^^ (p2 - p4))) (0 : Int64)) (0 : Int32) = true) := hb27
                      rw [if_neg hb27] at hok
                      refine ms1 dm_worked_190 rfl rfl rfl rfl ?_
                      refine ms0 (S' := .int (6 : Int32) :: _) dm_worked_191 rfl rfl rfl rfl ?_
                      refine ms1 dm_worked_193 rfl rfl rfl rfl ?_
                      obtain ⟨ho, hok⟩ := hok
                      refine ms4 dm_worked_195 rfl (r_inv (As := [.int (6 : Int32), .int p5]) hm h2 rfl rfl rfl) (q_fail hm h2 ho) rfl rfl rfl ?_
                      refine ms0 dm_worked_198 rfl rfl rfl rfl ?_
                      refine ms2 dm_worked_199 rfl rfl rfl ?_
                      have he : s_worked n i l I J p0 p1 p2 p3 p4 p5 = (((a_fail i l I J (6 : Int32) p5)).toInt64, (si_fail i l I J (6 : Int32) p5), l, I, J) := by
                        unfold s_worked
                        simp only [hb1, hb2, hb3, hb4, hb10, hb22, hb24, hb25, hb26, hb27, Bool.false_eq_true, if_true, if_false]
                      rw [he]
                      exact ms5 dm_worked_206 rfl rfl rfl
                  · have hb26 : ¬ (mj_cnd .eq p0 (45 : Int32) = true) := hb26
                    rw [if_neg hb26] at hok
                    refine ms2 dm_worked_96 (sw_tdef [33, 37, 38, 42, 43, 45] rfl rfl rfl ⟨hb4, hb10, hb22, hb24, hb25, hb26, trivial⟩) rfl rfl ?_
                    refine ms1 dm_worked_387 rfl rfl rfl rfl ?_
                    refine ms1 dm_worked_388 rfl rfl rfl rfl ?_
                    refine ms0 dm_worked_390 rfl rfl rfl rfl ?_
                    refine ms_1c dm_worked_391 rfl rfl (fun hb28 => ?_) (fun hb28 => ?_)
                    · have hb28 : mj_cnd .le (lg_cmp p2 p4) (0 : Int32) = true := hb28
                      refine ms1 dm_worked_398 rfl rfl rfl rfl ?_
                      have he : s_worked n i l I J p0 p1 p2 p3 p4 p5 = (p4, i, l, I, J) := by
                        unfold s_worked
                        simp only [hb1, hb2, hb3, hb4, hb10, hb22, hb24, hb25, hb26, hb28, Bool.false_eq_true, if_true, if_false]
                      rw [he]
                      exact ms5 dm_worked_400 rfl rfl rfl
                    · have hb28 : ¬ (mj_cnd .le (lg_cmp p2 p4) (0 : Int32) = true) := hb28
                      refine ms1 dm_worked_394 rfl rfl rfl rfl ?_
                      refine ms2 dm_worked_395 rfl rfl rfl ?_
                      have he : s_worked n i l I J p0 p1 p2 p3 p4 p5 = (p2, i, l, I, J) := by
                        unfold s_worked
                        simp only [hb1, hb2, hb3, hb4, hb10, hb22, hb24, hb25, hb26, hb28, Bool.false_eq_true, if_true, if_false]
                      rw [he]
                      exact ms5 dm_worked_400 rfl rfl rfl
      · have hb3 : ¬ (mj_cnd .eq p3 (0 : Int32) = true) := hb3
        rw [if_neg hb3] at hok
        refine ms1 dm_worked_86 rfl rfl rfl rfl ?_
        refine ms0 (S' := .int (5 : Int32) :: _) dm_worked_87 rfl rfl rfl rfl ?_
        refine ms1 dm_worked_88 rfl rfl rfl rfl ?_
        obtain ⟨ho, hok⟩ := hok
        refine ms4 dm_worked_90 rfl (r_inv (As := [.int (5 : Int32), .int p5]) hm h2 rfl rfl rfl) (q_fail hm h2 ho) rfl rfl rfl ?_
        refine ms0 dm_worked_93 rfl rfl rfl rfl ?_
        have he : s_worked n i l I J p0 p1 p2 p3 p4 p5 = (((a_fail i l I J (5 : Int32) p5)).toInt64, (si_fail i l I J (5 : Int32) p5), l, I, J) := by
          unfold s_worked
          simp only [hb1, hb2, hb3, Bool.false_eq_true, if_true, if_false]
        rw [he]
        exact ms5 dm_worked_94 rfl rfl rfl
  · have hb1 : ¬ (mj_cnd .eq (a_compares i l I J p0) (0 : Int32) = true) := hb1
    rw [if_neg hb1] at hok
    refine ms1 dm_worked_7 rfl rfl rfl rfl ?_
    refine ms1 dm_worked_8 rfl rfl rfl rfl ?_
    refine ms_2c dm_worked_10 rfl rfl (fun hb29 => ?_) (fun hb29 => ?_)
    · have hb29 : mj_cnd .eq p1 p3 = true := hb29
      rw [if_pos hb29] at hok
      refine ms1 dm_worked_32 rfl rfl rfl rfl ?_
      refine ms0 (S' := .int (60 : Int32) :: _) dm_worked_33 rfl rfl rfl rfl ?_
      refine ms_2c dm_worked_35 rfl rfl (fun hb30 => ?_) (fun hb30 => ?_)
      · have hb30 : mj_cnd .ne p0 (60 : Int32) = true := hb30
        rw [if_pos hb30] at hok
        refine ms1 dm_worked_48 rfl rfl rfl rfl ?_
        refine ms0 (S' := .int (62 : Int32) :: _) dm_worked_49 rfl rfl rfl rfl ?_
        refine ms_2c dm_worked_51 rfl rfl (fun hb31 => ?_) (fun hb31 => ?_)
        · have hb31 : mj_cnd .ne p0 (62 : Int32) = true := hb31
          rw [if_pos hb31] at hok
          refine ms1 dm_worked_64 rfl rfl rfl rfl ?_
          refine ms1 dm_worked_65 rfl rfl rfl rfl ?_
          refine ms0 dm_worked_67 rfl rfl rfl rfl ?_
          refine ms_1c dm_worked_68 rfl rfl (fun hb32 => ?_) (fun hb32 => ?_)
          · have hb32 : mj_cnd .ne (lg_cmp p2 p4) (0 : Int32) = true := hb32
            rw [if_pos hb32] at hok
            refine ms0 (S' := .long (0 : Int64) :: _) dm_worked_75 rfl rfl rfl rfl ?_
            have he : s_worked n i l I J p0 p1 p2 p3 p4 p5 = ((0 : Int64), i, l, I, J) := by
              unfold s_worked
              simp only [hb1, hb29, hb30, hb31, hb32, Bool.false_eq_true, if_true, if_false]
            rw [he]
            exact ms5 dm_worked_76 rfl rfl rfl
          · have hb32 : ¬ (mj_cnd .ne (lg_cmp p2 p4) (0 : Int32) = true) := hb32
            rw [if_neg hb32] at hok
            have he : s_worked n i l I J p0 p1 p2 p3 p4 p5 = lp_worked n 71 i l I J (fun _ => 0) (fun _ => 0) := by
              unfold s_worked
              simp only [hb1, hb29, hb30, hb31, hb32, Bool.false_eq_true, if_true, if_false]
            rw [he]
            exact mjR_sub rfl rfl rfl ((ql_worked hm h2 n).1 _ _ _ _ _ _ hok)
        · have hb31 : ¬ (mj_cnd .ne p0 (62 : Int32) = true) := hb31
          rw [if_neg hb31] at hok
          refine ms1 dm_worked_54 rfl rfl rfl rfl ?_
          refine ms1 dm_worked_55 rfl rfl rfl rfl ?_
          refine ms0 dm_worked_57 rfl rfl rfl rfl ?_
          refine ms_1c dm_worked_58 rfl rfl (fun hb33 => ?_) (fun hb33 => ?_)
          · have hb33 : mj_cnd .le (lg_cmp p2 p4) (0 : Int32) = true := hb33
            rw [if_pos hb33] at hok
            refine ms0 (S' := .long (0 : Int64) :: _) dm_worked_75 rfl rfl rfl rfl ?_
            have he : s_worked n i l I J p0 p1 p2 p3 p4 p5 = ((0 : Int64), i, l, I, J) := by
              unfold s_worked
              simp only [hb1, hb29, hb30, hb31, hb33, Bool.false_eq_true, if_true, if_false]
            rw [he]
            exact ms5 dm_worked_76 rfl rfl rfl
          · have hb33 : ¬ (mj_cnd .le (lg_cmp p2 p4) (0 : Int32) = true) := hb33
            rw [if_neg hb33] at hok
            refine ms2 dm_worked_61 rfl rfl rfl ?_
            have he : s_worked n i l I J p0 p1 p2 p3 p4 p5 = lp_worked n 71 i l I J (fun _ => 0) (fun _ => 0) := by
              unfold s_worked
              simp only [hb1, hb29, hb30, hb31, hb33, Bool.false_eq_true, if_true, if_false]
            rw [he]
            exact mjR_sub rfl rfl rfl ((ql_worked hm h2 n).1 _ _ _ _ _ _ hok)
      · have hb30 : ¬ (mj_cnd .ne p0 (60 : Int32) = true) := hb30
        rw [if_neg hb30] at hok
        refine ms1 dm_worked_38 rfl rfl rfl rfl ?_
        refine ms1 dm_worked_39 rfl rfl rfl rfl ?_
        refine ms0 dm_worked_41 rfl rfl rfl rfl ?_
        refine ms_1c dm_worked_42 rfl rfl (fun hb34 => ?_) (fun hb34 => ?_)
        · have hb34 : mj_cnd .ge (lg_cmp p2 p4) (0 : Int32) = true := hb34
          rw [if_pos hb34] at hok
          refine ms0 (S' := .long (0 : Int64) :: _) dm_worked_75 rfl rfl rfl rfl ?_
          have he : s_worked n i l I J p0 p1 p2 p3 p4 p5 = ((0 : Int64), i, l, I, J) := by
            unfold s_worked
            simp only [hb1, hb29, hb30, hb34, Bool.false_eq_true, if_true, if_false]
          rw [he]
          exact ms5 dm_worked_76 rfl rfl rfl
        · have hb34 : ¬ (mj_cnd .ge (lg_cmp p2 p4) (0 : Int32) = true) := hb34
          rw [if_neg hb34] at hok
          refine ms2 dm_worked_45 rfl rfl rfl ?_
          have he : s_worked n i l I J p0 p1 p2 p3 p4 p5 = lp_worked n 71 i l I J (fun _ => 0) (fun _ => 0) := by
            unfold s_worked
            simp only [hb1, hb29, hb30, hb34, Bool.false_eq_true, if_true, if_false]
          rw [he]
          exact mjR_sub rfl rfl rfl ((ql_worked hm h2 n).1 _ _ _ _ _ _ hok)
    · have hb29 : ¬ (mj_cnd .eq p1 p3 = true) := hb29
      rw [if_neg hb29] at hok
      refine ms1 dm_worked_13 rfl rfl rfl rfl ?_
      refine ms0 (S' := .int (61 : Int32) :: _) dm_worked_14 rfl rfl rfl rfl ?_
      refine ms_2c dm_worked_16 rfl rfl (fun hb35 => ?_) (fun hb35 => ?_)
      · have hb35 : mj_cnd .ne p0 (61 : Int32) = true := hb35
        rw [if_pos hb35] at hok
        refine ms1 dm_worked_23 rfl rfl rfl rfl ?_
        refine ms0 (S' := .int (5 : Int32) :: _) dm_worked_24 rfl rfl rfl rfl ?_
        refine ms1 dm_worked_25 rfl rfl rfl rfl ?_
        obtain ⟨ho, hok⟩ := hok
        refine ms4 dm_worked_27 rfl (r_inv (As := [.int (5 : Int32), .int p5]) hm h2 rfl rfl rfl) (q_fail hm h2 ho) rfl rfl rfl ?_
        refine ms0 dm_worked_30 rfl rfl rfl rfl ?_
        have he : s_worked n i l I J p0 p1 p2 p3 p4 p5 = (((a_fail i l I J (5 : Int32) p5)).toInt64, (si_fail i l I J (5 : Int32) p5), l, I, J) := by
          unfold s_worked
          simp only [hb1, hb29, hb35, Bool.false_eq_true, if_true, if_false]
        rw [he]
        exact ms5 dm_worked_31 rfl rfl rfl
      · have hb35 : ¬ (mj_cnd .ne p0 (61 : Int32) = true) := hb35
        rw [if_neg hb35] at hok
        refine ms0 (S' := .long (0 : Int64) :: _) dm_worked_19 rfl rfl rfl rfl ?_
        refine ms2 dm_worked_20 rfl rfl rfl ?_
        have he : s_worked n i l I J p0 p1 p2 p3 p4 p5 = ((0 : Int64), i, l, I, J) := by
          unfold s_worked
          simp only [hb1, hb29, hb35, Bool.false_eq_true, if_true, if_false]
        rw [he]
        exact ms5 dm_worked_31 rfl rfl rfl
def k_flipped : Nat := 278
set_option maxRecDepth 20000 in
theorem pm_flipped : mj_mmof pg_ms k_flipped = some ((⟨"ArrayCalculatorModel", "flipped", "(I)I"⟩, prog_14_method_32_code, 5, (Option.some Jvm.ClassFile.FieldType.int)), 12, false, mj_dec prog_14_method_32_code) := rfl
theorem dm_flipped_0 : mj_dec prog_14_method_32_code 0 = some (.aload_n 0, 1) := by decide +kernel
theorem dm_flipped_1 : mj_dec prog_14_method_32_code 1 = some (.aload_n 0, 1) := by decide +kernel
theorem dm_flipped_2 : mj_dec prog_14_method_32_code 2 = some (.iload_n 1, 1) := by decide +kernel
theorem dm_flipped_3 : mj_dec prog_14_method_32_code 3 = some (.invokevirtual 156, 3) := by decide +kernel
theorem dm_flipped_6 : mj_dec prog_14_method_32_code 6 = some (.aload_n 0, 1) := by decide +kernel
theorem dm_flipped_7 : mj_dec prog_14_method_32_code 7 = some (.iload_n 1, 1) := by decide +kernel
theorem dm_flipped_8 : mj_dec prog_14_method_32_code 8 = some (.invokevirtual 134, 3) := by decide +kernel
theorem dm_flipped_11 : mj_dec prog_14_method_32_code 11 = some (.invokevirtual 255, 3) := by decide +kernel
theorem dm_flipped_14 : mj_dec prog_14_method_32_code 14 = some (.istore_n 2, 1) := by decide +kernel
theorem dm_flipped_15 : mj_dec prog_14_method_32_code 15 = some (.iconst 0, 1) := by decide +kernel
theorem dm_flipped_16 : mj_dec prog_14_method_32_code 16 = some (.istore_n 3, 1) := by decide +kernel
theorem dm_flipped_17 : mj_dec prog_14_method_32_code 17 = some (.iload_n 3, 1) := by decide +kernel
theorem dm_flipped_18 : mj_dec prog_14_method_32_code 18 = some (.aload_n 0, 1) := by decide +kernel
theorem dm_flipped_19 : mj_dec prog_14_method_32_code 19 = some (.iload_n 1, 1) := by decide +kernel
theorem dm_flipped_20 : mj_dec prog_14_method_32_code 20 = some (.invokevirtual 134, 3) := by decide +kernel
theorem dm_flipped_23 : mj_dec prog_14_method_32_code 23 = some (.if_icmp .ge 65, 3) := by decide +kernel
theorem dm_flipped_26 : mj_dec prog_14_method_32_code 26 = some (.iconst 0, 1) := by decide +kernel
theorem dm_flipped_27 : mj_dec prog_14_method_32_code 27 = some (.istore 4, 2) := by decide +kernel
theorem dm_flipped_29 : mj_dec prog_14_method_32_code 29 = some (.iload 4, 2) := by decide +kernel
theorem dm_flipped_31 : mj_dec prog_14_method_32_code 31 = some (.aload_n 0, 1) := by decide +kernel
theorem dm_flipped_32 : mj_dec prog_14_method_32_code 32 = some (.iload_n 1, 1) := by decide +kernel
theorem dm_flipped_33 : mj_dec prog_14_method_32_code 33 = some (.invokevirtual 156, 3) := by decide +kernel
theorem dm_flipped_36 : mj_dec prog_14_method_32_code 36 = some (.if_icmp .ge 46, 3) := by decide +kernel
theorem dm_flipped_39 : mj_dec prog_14_method_32_code 39 = some (.aload_n 0, 1) := by decide +kernel
theorem dm_flipped_40 : mj_dec prog_14_method_32_code 40 = some (.getfield 8, 3) := by decide +kernel
theorem dm_flipped_43 : mj_dec prog_14_method_32_code 43 = some (.aload_n 0, 1) := by decide +kernel
theorem dm_flipped_44 : mj_dec prog_14_method_32_code 44 = some (.getfield 15, 3) := by decide +kernel
theorem dm_flipped_47 : mj_dec prog_14_method_32_code 47 = some (.iload_n 2, 1) := by decide +kernel
theorem dm_flipped_48 : mj_dec prog_14_method_32_code 48 = some (.iaload, 1) := by decide +kernel
theorem dm_flipped_49 : mj_dec prog_14_method_32_code 49 = some (.iload 4, 2) := by decide +kernel
theorem dm_flipped_51 : mj_dec prog_14_method_32_code 51 = some (.aload_n 0, 1) := by decide +kernel
theorem dm_flipped_52 : mj_dec prog_14_method_32_code 52 = some (.iload_n 1, 1) := by decide +kernel
theorem dm_flipped_53 : mj_dec prog_14_method_32_code 53 = some (.invokevirtual 134, 3) := by decide +kernel
theorem dm_flipped_56 : mj_dec prog_14_method_32_code 56 = some (.imul, 1) := by decide +kernel
theorem dm_flipped_57 : mj_dec prog_14_method_32_code 57 = some (.iadd, 1) := by decide +kernel
theorem dm_flipped_58 : mj_dec prog_14_method_32_code 58 = some (.iload_n 3, 1) := by decide +kernel
theorem dm_flipped_59 : mj_dec prog_14_method_32_code 59 = some (.iadd, 1) := by decide +kernel
theorem dm_flipped_60 : mj_dec prog_14_method_32_code 60 = some (.aload_n 0, 1) := by decide +kernel
theorem dm_flipped_61 : mj_dec prog_14_method_32_code 61 = some (.iload_n 1, 1) := by decide +kernel
theorem dm_flipped_62 : mj_dec prog_14_method_32_code 62 = some (.iload_n 3, 1) := by decide +kernel
theorem dm_flipped_63 : mj_dec prog_14_method_32_code 63 = some (.aload_n 0, 1) := by decide +kernel
theorem dm_flipped_64 : mj_dec prog_14_method_32_code 64 = some (.iload_n 1, 1) := by decide +kernel
theorem dm_flipped_65 : mj_dec prog_14_method_32_code 65 = some (.invokevirtual 156, 3) := by decide +kernel
theorem dm_flipped_68 : mj_dec prog_14_method_32_code 68 = some (.imul, 1) := by decide +kernel
theorem dm_flipped_69 : mj_dec prog_14_method_32_code 69 = some (.iload 4, 2) := by decide +kernel
theorem dm_flipped_71 : mj_dec prog_14_method_32_code 71 = some (.iadd, 1) := by decide +kernel
theorem dm_flipped_72 : mj_dec prog_14_method_32_code 72 = some (.invokevirtual 138, 3) := by decide +kernel
theorem dm_flipped_75 : mj_dec prog_14_method_32_code 75 = some (.lastore, 1) := by decide +kernel
theorem dm_flipped_76 : mj_dec prog_14_method_32_code 76 = some (.iinc 4 1, 3) := by decide +kernel
theorem dm_flipped_79 : mj_dec prog_14_method_32_code 79 = some (.goto (-50), 3) := by decide +kernel
theorem dm_flipped_82 : mj_dec prog_14_method_32_code 82 = some (.iinc 3 1, 3) := by decide +kernel
theorem dm_flipped_85 : mj_dec prog_14_method_32_code 85 = some (.goto (-68), 3) := by decide +kernel
theorem dm_flipped_88 : mj_dec prog_14_method_32_code 88 = some (.iload_n 2, 1) := by decide +kernel
theorem dm_flipped_89 : mj_dec prog_14_method_32_code 89 = some (.ireturn, 1) := by decide +kernel
def lp_flipped : Nat → Nat → (Nat → Int32) → (Nat → Int64) → (Nat → Nat → Int32) → (Nat → Nat → Int64) → (Nat → Int32) → (Nat → Int64) → Int32 × (Nat → Int32) × (Nat → Int64) × (Nat → Nat → Int32) × (Nat → Nat → Int64)
  | 0, _, i, l, I, J, _, _ => (0, i, l, I, J)
  | n + 1, hd, i, l, I, J, v, w => match hd with
    | 17 => (if mj_cnd .ge (v 3) (a_many i l I J (v 1)) = true then ((v 2), i, l, I, J) else lp_flipped n 29 i l I J (upd v 4 (0 : Int32)) w)
    | 29 => (if mj_cnd .ge (v 4) (a_columns i l I J (v 1)) = true then lp_flipped n 17 i l I J (upd v 3 ((v 3) + Int32.ofInt (1))) w else lp_flipped n 76 i l I (va_up J 0 (vp_updL (J 0) ((((I 1 ((v 2)).toNatClampNeg) + ((v 4) * (a_many i l I J (v 1)))) + (v 3))).toNatClampNeg (a_number i l I J (v 1) (((v 3) * (a_columns i l I J (v 1))) + (v 4))))) v w)
    | 76 => lp_flipped n 29 i l I J (upd v 4 ((v 4) + Int32.ofInt (1))) w
    | _ => (0, i, l, I, J)
theorem lb_flipped_17 (n : Nat) (i : Nat → Int32) (l : Nat → Int64) (I : Nat → Nat → Int32) (J : Nat → Nat → Int64) (v : Nat → Int32) (w : Nat → Int64) : lp_flipped (n + 1) 17 i l I J v w = (if mj_cnd .ge (v 3) (a_many i l I J (v 1)) = true then ((v 2), i, l, I, J) else lp_flipped n 29 i l I J (upd v 4 (0 : Int32)) w) := rfl
theorem lb_flipped_29 (n : Nat) (i : Nat → Int32) (l : Nat → Int64) (I : Nat → Nat → Int32) (J : Nat → Nat → Int64) (v : Nat → Int32) (w : Nat → Int64) : lp_flipped (n + 1) 29 i l I J v w = (if mj_cnd .ge (v 4) (a_columns i l I J (v 1)) = true then lp_flipped n 17 i l I J (upd v 3 ((v 3) + Int32.ofInt (1))) w else lp_flipped n 76 i l I (va_up J 0 (vp_updL (J 0) ((((I 1 ((v 2)).toNatClampNeg) + ((v 4) * (a_many i l I J (v 1)))) + (v 3))).toNatClampNeg (a_number i l I J (v 1) (((v 3) * (a_columns i l I J (v 1))) + (v 4))))) v w) := rfl
theorem lb_flipped_76 (n : Nat) (i : Nat → Int32) (l : Nat → Int64) (I : Nat → Nat → Int32) (J : Nat → Nat → Int64) (v : Nat → Int32) (w : Nat → Int64) : lp_flipped (n + 1) 76 i l I J v w = lp_flipped n 29 i l I J (upd v 4 ((v 4) + Int32.ofInt (1))) w := rfl
def okl_flipped : Nat → Nat → (Nat → Int32) → (Nat → Int64) → (Nat → Nat → Int32) → (Nat → Nat → Int64) → (Nat → Int32) → (Nat → Int64) → Prop
  | 0, _, _, _, _, _, _, _ => False
  | n + 1, hd, i, l, I, J, v, w => match hd with
    | 17 => (ok_many i l I J (v 1) ∧ (if mj_cnd .ge (v 3) (a_many i l I J (v 1)) = true then True else okl_flipped n 29 i l I J (upd v 4 (0 : Int32)) w))
    | 29 => (ok_columns i l I J (v 1) ∧ (if mj_cnd .ge (v 4) (a_columns i l I J (v 1)) = true then okl_flipped n 17 i l I J (upd v 3 ((v 3) + Int32.ofInt (1))) w else (¬ ((v 2) < 0 ∨ 310000 ≤ ((v 2)).toNatClampNeg) ∧ (ok_many i l I J (v 1) ∧ (ok_columns i l I J (v 1) ∧ (ok_number i l I J (v 1) (((v 3) * (a_columns i l I J (v 1))) + (v 4)) ∧ (¬ ((((I 1 ((v 2)).toNatClampNeg) + ((v 4) * (a_many i l I J (v 1)))) + (v 3)) < 0 ∨ 820000 ≤ ((((I 1 ((v 2)).toNatClampNeg) + ((v 4) * (a_many i l I J (v 1)))) + (v 3))).toNatClampNeg) ∧ okl_flipped n 76 i l I (va_up J 0 (vp_updL (J 0) ((((I 1 ((v 2)).toNatClampNeg) + ((v 4) * (a_many i l I J (v 1)))) + (v 3))).toNatClampNeg (a_number i l I J (v 1) (((v 3) * (a_columns i l I J (v 1))) + (v 4))))) v w)))))))
    | 76 => okl_flipped n 29 i l I J (upd v 4 ((v 4) + Int32.ofInt (1))) w
    | _ => False
def s_flipped (n : Nat) (i : Nat → Int32) (l : Nat → Int64) (I : Nat → Nat → Int32) (J : Nat → Nat → Int64) (p0 : Int32) : Int32 × (Nat → Int32) × (Nat → Int64) × (Nat → Nat → Int32) × (Nat → Nat → Int64) := lp_flipped n 17 (si_table i l I J (a_columns i l I J p0) (a_many i l I J p0)) l (sI_table i l I J (a_columns i l I J p0) (a_many i l I J p0)) J (upd (upd (upd (fun _ => 0) 1 p0) 2 (a_table i l I J (a_columns i l I J p0) (a_many i l I J p0))) 3 (0 : Int32)) (fun _ => 0)
def ok_flipped (n : Nat) (i : Nat → Int32) (l : Nat → Int64) (I : Nat → Nat → Int32) (J : Nat → Nat → Int64) (p0 : Int32) : Prop := (ok_columns i l I J p0 ∧ (ok_many i l I J p0 ∧ (ok_table i l I J (a_columns i l I J p0) (a_many i l I J p0) ∧ okl_flipped n 17 (si_table i l I J (a_columns i l I J p0) (a_many i l I J p0)) l (sI_table i l I J (a_columns i l I J p0) (a_many i l I J p0)) J (upd (upd (upd (fun _ => 0) 1 p0) 2 (a_table i l I J (a_columns i l I J p0) (a_many i l I J p0))) 3 (0 : Int32)) (fun _ => 0))))
set_option maxRecDepth 20000 in
theorem ql_flipped {xt : mj_X} {pre post : mj_H} {m : Nat} {d : Nat} (hm : pre.length = m) (h2 : 2 ≤ m) : ∀ n : Nat, (∀ i l I J v w, okl_flipped n 17 i l I J v w → mjR (fun N => mj_call (mj_mmof pg_ms) (mj_TTof pg_TL) xt pg_tl 2 (d + 3) N) (mj_TTof pg_TL 12).1 (mj_TTof pg_TL 12).2 xt pg_tl 2 5 (d + 3) false (Option.some Jvm.ClassFile.FieldType.int) (mj_dec prog_14_method_32_code) 17 [(0, .ref m), (1, .int (v 1)), (2, .int (v 2)), (3, .int (v 3))] [] (rH pre post m i l I J) (some (.int (lp_flipped n 17 i l I J v w).1)) (rH pre post m (lp_flipped n 17 i l I J v w).2.1 (lp_flipped n 17 i l I J v w).2.2.1 (lp_flipped n 17 i l I J v w).2.2.2.1 (lp_flipped n 17 i l I J v w).2.2.2.2)) ∧ (∀ i l I J v w, okl_flipped n 29 i l I J v w → mjR (fun N => mj_call (mj_mmof pg_ms) (mj_TTof pg_TL) xt pg_tl 2 (d + 3) N) (mj_TTof pg_TL 12).1 (mj_TTof pg_TL 12).2 xt pg_tl 2 5 (d + 3) false (Option.some Jvm.ClassFile.FieldType.int) (mj_dec prog_14_method_32_code) 29 [(0, .ref m), (1, .int (v 1)), (2, .int (v 2)), (3, .int (v 3)), (4, .int (v 4))] [] (rH pre post m i l I J) (some (.int (lp_flipped n 29 i l I J v w).1)) (rH pre post m (lp_flipped n 29 i l I J v w).2.1 (lp_flipped n 29 i l I J v w).2.2.1 (lp_flipped n 29 i l I J v w).2.2.2.1 (lp_flipped n 29 i l I J v w).2.2.2.2)) ∧ (∀ i l I J v w, okl_flipped n 76 i l I J v w → mjR (fun N => mj_call (mj_mmof pg_ms) (mj_TTof pg_TL) xt pg_tl 2 (d + 3) N) (mj_TTof pg_TL 12).1 (mj_TTof pg_TL 12).2 xt pg_tl 2 5 (d + 3) false (Option.some Jvm.ClassFile.FieldType.int) (mj_dec prog_14_method_32_code) 76 [(0, .ref m), (1, .int (v 1)), (2, .int (v 2)), (3, .int (v 3)), (4, .int (v 4))] [] (rH pre post m i l I J) (some (.int (lp_flipped n 76 i l I J v w).1)) (rH pre post m (lp_flipped n 76 i l I J v w).2.1 (lp_flipped n 76 i l I J v w).2.2.1 (lp_flipped n 76 i l I J v w).2.2.2.1 (lp_flipped n 76 i l I J v w).2.2.2.2)) := by
  intro n
  induction n with
  | zero => exact ⟨fun i l I J v w h => absurd h id, fun i l I J v w h => absurd h id, fun i l I J v w h => absurd h id⟩
  | succ n ih =>
    refine ⟨?_, ?_, ?_⟩
    · intro i l I J v w hok
      have hok : (ok_many i l I J (v 1) ∧ (if mj_cnd .ge (v 3) (a_many i l I J (v 1)) = true then True else okl_flipped n 29 i l I J (upd v 4 (0 : Int32)) w)) := hok
      refine ms1 dm_flipped_17 rfl rfl rfl rfl ?_
      refine ms1 dm_flipped_18 rfl rfl rfl rfl ?_
      refine ms1 dm_flipped_19 rfl rfl rfl rfl ?_
      obtain ⟨ho, hok⟩ := hok
      refine ms4 dm_flipped_20 rfl (r_inv (As := [.int (v 1)]) hm h2 rfl rfl rfl) (q_many hm h2 ho) rfl rfl rfl ?_
      refine ms_2c dm_flipped_23 rfl rfl (fun hb1 => ?_) (fun hb1 => ?_)
      · have hb1 : mj_cnd .ge (v 3) (a_many i l I J (v 1)) = true := hb1
        rw [if_pos hb1] at hok
        refine ms1 dm_flipped_88 rfl rfl rfl rfl ?_
        have he : lp_flipped (n + 1) 17 i l I J v w = ((v 2), i, l, I, J) := by
          rw [lb_flipped_17]
          simp only [hb1, Bool.false_eq_true, if_true, if_false]
        rw [he]
        exact ms5 dm_flipped_89 rfl rfl rfl
      · have hb1 : ¬ (mj_cnd .ge (v 3) (a_many i l I J (v 1)) = true) := hb1
        rw [if_neg hb1] at hok
        refine ms0 (S' := .int (0 : Int32) :: _) dm_flipped_26 rfl rfl rfl rfl ?_
        refine ms1 dm_flipped_27 rfl rfl rfl rfl ?_
        have he : lp_flipped (n + 1) 17 i l I J v w = lp_flipped n 29 i l I J (upd v 4 (0 : Int32)) w := by
          rw [lb_flipped_17]
          simp only [hb1, Bool.false_eq_true, if_true, if_false]
        rw [he]
        exact mjR_sub rfl rfl rfl (ih.2.1 _ _ _ _ _ _ hok)
    · intro i l I J v w hok
      have hok : (ok_columns i l I J (v 1) ∧ (if mj_cnd .ge (v 4) (a_columns i l I J (v 1)) = true then okl_flipped n 17 i l I J (upd v 3 ((v 3) + Int32.ofInt (1))) w else (¬ ((v 2) < 0 ∨ 310000 ≤ ((v 2)).toNatClampNeg) ∧ (ok_many i l I J (v 1) ∧ (ok_columns i l I J (v 1) ∧ (ok_number i l I J (v 1) (((v 3) * (a_columns i l I J (v 1))) + (v 4)) ∧ (¬ ((((I 1 ((v 2)).toNatClampNeg) + ((v 4) * (a_many i l I J (v 1)))) + (v 3)) < 0 ∨ 820000 ≤ ((((I 1 ((v 2)).toNatClampNeg) + ((v 4) * (a_many i l I J (v 1)))) + (v 3))).toNatClampNeg) ∧ okl_flipped n 76 i l I (va_up J 0 (vp_updL (J 0) ((((I 1 ((v 2)).toNatClampNeg) + ((v 4) * (a_many i l I J (v 1)))) + (v 3))).toNatClampNeg (a_number i l I J (v 1) (((v 3) * (a_columns i l I J (v 1))) + (v 4))))) v w))))))) := hok
      refine ms1 dm_flipped_29 rfl rfl rfl rfl ?_
      refine ms1 dm_flipped_31 rfl rfl rfl rfl ?_
      refine ms1 dm_flipped_32 rfl rfl rfl rfl ?_
      obtain ⟨ho, hok⟩ := hok
      refine ms4 dm_flipped_33 rfl (r_inv (As := [.int (v 1)]) hm h2 rfl rfl rfl) (q_columns hm h2 ho) rfl rfl rfl ?_
      refine ms_2c dm_flipped_36 rfl rfl (fun hb1 => ?_) (fun hb1 => ?_)
      · have hb1 : mj_cnd .ge (v 4) (a_columns i l I J (v 1)) = true := hb1
        rw [if_pos hb1] at hok
        refine ms1 dm_flipped_82 rfl rfl rfl rfl ?_
        refine ms2 dm_flipped_85 rfl rfl rfl ?_
        have he : lp_flipped (n + 1) 29 i l I J v w = lp_flipped n 17 i l I J (upd v 3 ((v 3) + Int32.ofInt (1))) w := by
          rw [lb_flipped_29]
          simp only [hb1, Bool.false_eq_true, if_true, if_false]
        rw [he]
        exact mjR_sub rfl rfl rfl (ih.1 _ _ _ _ _ _ hok)
      · have hb1 : ¬ (mj_cnd .ge (v 4) (a_columns i l I J (v 1)) = true) := hb1
        rw [if_neg hb1] at hok
        refine ms1 dm_flipped_39 rfl rfl rfl rfl ?_
        refine ms3 dm_flipped_40 (r_get hm h2 rfl (rg_0 _ _ _)) rfl rfl rfl ?_
        refine ms1 dm_flipped_43 rfl rfl rfl rfl ?_
        refine ms3 dm_flipped_44 (r_get hm h2 rfl (rg_1 _ _ _)) rfl rfl rfl ?_
        refine ms1 dm_flipped_47 rfl rfl rfl rfl ?_
        obtain ⟨ho, hok⟩ := hok
        refine ms3 dm_flipped_48 (r_iald hm h2 (rc_1 _ _ _ _ _) rfl ho) rfl rfl rfl ?_
        refine ms1 dm_flipped_49 rfl rfl rfl rfl ?_
        refine ms1 dm_flipped_51 rfl rfl rfl rfl ?_
        refine ms1 dm_flipped_52 rfl rfl rfl rfl ?_
        obtain ⟨ho, hok⟩ := hok
        refine ms4 dm_flipped_53 rfl (r_inv (As := [.int (v 1)]) hm h2 rfl rfl rfl) (q_many hm h2 ho) rfl rfl rfl ?_
        refine ms0 dm_flipped_56 rfl rfl rfl rfl ?_
        refine ms0 dm_flipped_57 rfl rfl rfl rfl ?_
        refine ms1 dm_flipped_58 rfl rfl rfl rfl ?_
        refine ms0 dm_flipped_59 rfl rfl rfl rfl ?_
        refine ms1 dm_flipped_60 rfl rfl rfl rfl ?_
        refine ms1 dm_flipped_61 rfl rfl rfl rfl ?_
        refine ms1 dm_flipped_62 rfl rfl rfl rfl ?_
        refine ms1 dm_flipped_63 rfl rfl rfl rfl ?_
        refine ms1 dm_flipped_64 rfl rfl rfl rfl ?_
        obtain ⟨ho, hok⟩ := hok
        refine ms4 dm_flipped_65 rfl (r_inv (As := [.int (v 1)]) hm h2 rfl rfl rfl) (q_columns hm h2 ho) rfl rfl rfl ?_
        refine ms0 dm_flipped_68 rfl rfl rfl rfl ?_
        refine ms1 dm_flipped_69 rfl rfl rfl rfl ?_
        refine ms0 dm_flipped_71 rfl rfl rfl rfl ?_
        obtain ⟨ho, hok⟩ := hok
        refine ms4 dm_flipped_72 rfl (r_inv (As := [.int (v 1), .int (((v 3) * (a_columns i l I J (v 1))) + (v 4))]) hm h2 rfl rfl rfl) (q_number hm h2 ho) rfl rfl rfl ?_
        obtain ⟨ho, hok⟩ := hok
        refine ms3 dm_flipped_75 (r_lastk (k := 0) hm h2 (rc_0 _ _ _ _ _) rfl ho (rs_0 _ _ _ _ _ _)) rfl rfl rfl ?_
        have he : lp_flipped (n + 1) 29 i l I J v w = lp_flipped n 76 i l I (va_up J 0 (vp_updL (J 0) ((((I 1 ((v 2)).toNatClampNeg) + ((v 4) * (a_many i l I J (v 1)))) + (v 3))).toNatClampNeg (a_number i l I J (v 1) (((v 3) * (a_columns i l I J (v 1))) + (v 4))))) v w := by
          rw [lb_flipped_29]
          simp only [hb1, Bool.false_eq_true, if_true, if_false]
        rw [he]
        exact mjR_sub rfl rfl rfl (ih.2.2 _ _ _ _ _ _ hok)
    · intro i l I J v w hok
      have hok : okl_flipped n 29 i l I J (upd v 4 ((v 4) + Int32.ofInt (1))) w := hok
      refine ms1 dm_flipped_76 rfl rfl rfl rfl ?_
      refine ms2 dm_flipped_79 rfl rfl rfl ?_
      have he : lp_flipped (n + 1) 76 i l I J v w = lp_flipped n 29 i l I J (upd v 4 ((v 4) + Int32.ofInt (1))) w := by
        rw [lb_flipped_76]
      rw [he]
      exact mjR_sub rfl rfl rfl (ih.2.1 _ _ _ _ _ _ hok)
set_option maxRecDepth 20000 in
theorem q_flipped {xt : mj_X} {pre post : mj_H} {m : Nat} {i : Nat → Int32} {l : Nat → Int64} {I : Nat → Nat → Int32} {J : Nat → Nat → Int64} {d : Nat} (hm : pre.length = m) (h2 : 2 ≤ m) {p0 : Int32} {n : Nat} (hok : ok_flipped n i l I J p0) : pgC xt (d + 4) k_flipped (.ref m :: [.int p0]) (rH pre post m i l I J) (some (.int (s_flipped n i l I J p0).1)) (rH pre post m (s_flipped n i l I J p0).2.1 (s_flipped n i l I J p0).2.2.1 (s_flipped n i l I J p0).2.2.2.1 (s_flipped n i l I J p0).2.2.2.2) := by
  unfold ok_flipped at hok
  refine ms_call pm_flipped (Nat.le_of_ble_eq_true rfl) ?_
  dsimp only
  refine ms1 dm_flipped_0 rfl rfl rfl rfl ?_
  refine ms1 dm_flipped_1 rfl rfl rfl rfl ?_
  refine ms1 dm_flipped_2 rfl rfl rfl rfl ?_
  obtain ⟨ho, hok⟩ := hok
  refine ms4 dm_flipped_3 rfl (r_inv (As := [.int p0]) hm h2 rfl rfl rfl) (q_columns hm h2 ho) rfl rfl rfl ?_
  refine ms1 dm_flipped_6 rfl rfl rfl rfl ?_
  refine ms1 dm_flipped_7 rfl rfl rfl rfl ?_
  obtain ⟨ho, hok⟩ := hok
  refine ms4 dm_flipped_8 rfl (r_inv (As := [.int p0]) hm h2 rfl rfl rfl) (q_many hm h2 ho) rfl rfl rfl ?_
  obtain ⟨ho, hok⟩ := hok
  refine ms4 dm_flipped_11 rfl (r_inv (As := [.int (a_columns i l I J p0), .int (a_many i l I J p0)]) hm h2 rfl rfl rfl) (q_table hm h2 ho) rfl rfl rfl ?_
  refine ms1 dm_flipped_14 rfl rfl rfl rfl ?_
  refine ms0 (S' := .int (0 : Int32) :: _) dm_flipped_15 rfl rfl rfl rfl ?_
  refine ms1 dm_flipped_16 rfl rfl rfl rfl ?_
  have he : s_flipped n i l I J p0 = lp_flipped n 17 (si_table i l I J (a_columns i l I J p0) (a_many i l I J p0)) l (sI_table i l I J (a_columns i l I J p0) (a_many i l I J p0)) J (upd (upd (upd (fun _ => 0) 1 p0) 2 (a_table i l I J (a_columns i l I J p0) (a_many i l I J p0))) 3 (0 : Int32)) (fun _ => 0) := by
    unfold s_flipped
    rfl
  rw [he]
  exact mjR_sub rfl rfl rfl ((ql_flipped hm h2 n).1 _ _ _ _ _ _ hok)
def k_where : Nat := 281
set_option maxRecDepth 20000 in
theorem pm_where : mj_mmof pg_ms k_where = some ((⟨"ArrayCalculatorModel", "where", "(II)I"⟩, prog_14_method_35_code, 8, (Option.some Jvm.ClassFile.FieldType.int)), 12, false, mj_dec prog_14_method_35_code) := rfl
theorem dm_where_0 : mj_dec prog_14_method_35_code 0 = some (.aload_n 0, 1) := by decide +kernel
theorem dm_where_1 : mj_dec prog_14_method_35_code 1 = some (.iload_n 1, 1) := by decide +kernel
theorem dm_where_2 : mj_dec prog_14_method_35_code 2 = some (.invokevirtual 149, 3) := by decide +kernel
theorem dm_where_5 : mj_dec prog_14_method_35_code 5 = some (.ifCond .ne 10, 3) := by decide +kernel
theorem dm_where_8 : mj_dec prog_14_method_35_code 8 = some (.aload_n 0, 1) := by decide +kernel
theorem dm_where_9 : mj_dec prog_14_method_35_code 9 = some (.iconst 3, 1) := by decide +kernel
theorem dm_where_10 : mj_dec prog_14_method_35_code 10 = some (.iload_n 2, 1) := by decide +kernel
theorem dm_where_11 : mj_dec prog_14_method_35_code 11 = some (.invokevirtual 190, 3) := by decide +kernel
theorem dm_where_14 : mj_dec prog_14_method_35_code 14 = some (.ireturn, 1) := by decide +kernel
theorem dm_where_15 : mj_dec prog_14_method_35_code 15 = some (.aload_n 0, 1) := by decide +kernel
theorem dm_where_16 : mj_dec prog_14_method_35_code 16 = some (.iload_n 1, 1) := by decide +kernel
theorem dm_where_17 : mj_dec prog_14_method_35_code 17 = some (.invokevirtual 146, 3) := by decide +kernel
theorem dm_where_20 : mj_dec prog_14_method_35_code 20 = some (.iconst 3, 1) := by decide +kernel
theorem dm_where_21 : mj_dec prog_14_method_35_code 21 = some (.if_icmp .ne 10, 3) := by decide +kernel
theorem dm_where_24 : mj_dec prog_14_method_35_code 24 = some (.aload_n 0, 1) := by decide +kernel
theorem dm_where_25 : mj_dec prog_14_method_35_code 25 = some (.iconst 5, 1) := by decide +kernel
theorem dm_where_26 : mj_dec prog_14_method_35_code 26 = some (.iload_n 2, 1) := by decide +kernel
theorem dm_where_27 : mj_dec prog_14_method_35_code 27 = some (.invokevirtual 190, 3) := by decide +kernel
theorem dm_where_30 : mj_dec prog_14_method_35_code 30 = some (.ireturn, 1) := by decide +kernel
theorem dm_where_31 : mj_dec prog_14_method_35_code 31 = some (.iconst 0, 1) := by decide +kernel
theorem dm_where_32 : mj_dec prog_14_method_35_code 32 = some (.istore_n 3, 1) := by decide +kernel
theorem dm_where_33 : mj_dec prog_14_method_35_code 33 = some (.iconst 0, 1) := by decide +kernel
theorem dm_where_34 : mj_dec prog_14_method_35_code 34 = some (.istore 4, 2) := by decide +kernel
theorem dm_where_36 : mj_dec prog_14_method_35_code 36 = some (.iload 4, 2) := by decide +kernel
theorem dm_where_38 : mj_dec prog_14_method_35_code 38 = some (.aload_n 0, 1) := by decide +kernel
theorem dm_where_39 : mj_dec prog_14_method_35_code 39 = some (.iload_n 1, 1) := by decide +kernel
theorem dm_where_40 : mj_dec prog_14_method_35_code 40 = some (.invokevirtual 134, 3) := by decide +kernel
theorem dm_where_43 : mj_dec prog_14_method_35_code 43 = some (.if_icmp .ge 80, 3) := by decide +kernel
theorem dm_where_46 : mj_dec prog_14_method_35_code 46 = some (.aload_n 0, 1) := by decide +kernel
theorem dm_where_47 : mj_dec prog_14_method_35_code 47 = some (.iload_n 1, 1) := by decide +kernel
theorem dm_where_48 : mj_dec prog_14_method_35_code 48 = some (.iload 4, 2) := by decide +kernel
theorem dm_where_50 : mj_dec prog_14_method_35_code 50 = some (.invokevirtual 138, 3) := by decide +kernel
theorem dm_where_53 : mj_dec prog_14_method_35_code 53 = some (.lstore 5, 2) := by decide +kernel
theorem dm_where_55 : mj_dec prog_14_method_35_code 55 = some (.lload 5, 2) := by decide +kernel
theorem dm_where_57 : mj_dec prog_14_method_35_code 57 = some (.lconst 0, 1) := by decide +kernel
theorem dm_where_58 : mj_dec prog_14_method_35_code 58 = some (.lcmp, 1) := by decide +kernel
theorem dm_where_59 : mj_dec prog_14_method_35_code 59 = some (.ifCond .ge 10, 3) := by decide +kernel
theorem dm_where_62 : mj_dec prog_14_method_35_code 62 = some (.aload_n 0, 1) := by decide +kernel
theorem dm_where_63 : mj_dec prog_14_method_35_code 63 = some (.iconst 5, 1) := by decide +kernel
theorem dm_where_64 : mj_dec prog_14_method_35_code 64 = some (.iload_n 2, 1) := by decide +kernel
theorem dm_where_65 : mj_dec prog_14_method_35_code 65 = some (.invokevirtual 190, 3) := by decide +kernel
theorem dm_where_68 : mj_dec prog_14_method_35_code 68 = some (.ireturn, 1) := by decide +kernel
theorem dm_where_69 : mj_dec prog_14_method_35_code 69 = some (.lload 5, 2) := by decide +kernel
theorem dm_where_71 : mj_dec prog_14_method_35_code 71 = some (.ldc2_w 239, 3) := by decide +kernel
theorem dm_where_74 : mj_dec prog_14_method_35_code 74 = some (.iload_n 3, 1) := by decide +kernel
theorem dm_where_75 : mj_dec prog_14_method_35_code 75 = some (.i2l, 1) := by decide +kernel
theorem dm_where_76 : mj_dec prog_14_method_35_code 76 = some (.lsub, 1) := by decide +kernel
theorem dm_where_77 : mj_dec prog_14_method_35_code 77 = some (.lcmp, 1) := by decide +kernel
theorem dm_where_78 : mj_dec prog_14_method_35_code 78 = some (.ifCond .le 11, 3) := by decide +kernel
theorem dm_where_81 : mj_dec prog_14_method_35_code 81 = some (.aload_n 0, 1) := by decide +kernel
theorem dm_where_82 : mj_dec prog_14_method_35_code 82 = some (.bipush 8, 2) := by decide +kernel
theorem dm_where_84 : mj_dec prog_14_method_35_code 84 = some (.iload_n 2, 1) := by decide +kernel
theorem dm_where_85 : mj_dec prog_14_method_35_code 85 = some (.invokevirtual 190, 3) := by decide +kernel
theorem dm_where_88 : mj_dec prog_14_method_35_code 88 = some (.ireturn, 1) := by decide +kernel
theorem dm_where_89 : mj_dec prog_14_method_35_code 89 = some (.iconst 0, 1) := by decide +kernel
theorem dm_where_90 : mj_dec prog_14_method_35_code 90 = some (.istore 7, 2) := by decide +kernel
theorem dm_where_92 : mj_dec prog_14_method_35_code 92 = some (.iload 7, 2) := by decide +kernel
theorem dm_where_94 : mj_dec prog_14_method_35_code 94 = some (.lload 5, 2) := by decide +kernel
theorem dm_where_96 : mj_dec prog_14_method_35_code 96 = some (.l2i, 1) := by decide +kernel
theorem dm_where_97 : mj_dec prog_14_method_35_code 97 = some (.if_icmp .ge 20, 3) := by decide +kernel
theorem dm_where_100 : mj_dec prog_14_method_35_code 100 = some (.aload_n 0, 1) := by decide +kernel
theorem dm_where_101 : mj_dec prog_14_method_35_code 101 = some (.getfield 33, 3) := by decide +kernel
theorem dm_where_104 : mj_dec prog_14_method_35_code 104 = some (.iload_n 3, 1) := by decide +kernel
theorem dm_where_105 : mj_dec prog_14_method_35_code 105 = some (.iload 4, 2) := by decide +kernel
theorem dm_where_107 : mj_dec prog_14_method_35_code 107 = some (.iastore, 1) := by decide +kernel
theorem dm_where_108 : mj_dec prog_14_method_35_code 108 = some (.iinc 3 1, 3) := by decide +kernel
theorem dm_where_111 : mj_dec prog_14_method_35_code 111 = some (.iinc 7 1, 3) := by decide +kernel
theorem dm_where_114 : mj_dec prog_14_method_35_code 114 = some (.goto (-22), 3) := by decide +kernel
theorem dm_where_117 : mj_dec prog_14_method_35_code 117 = some (.iinc 4 1, 3) := by decide +kernel
theorem dm_where_120 : mj_dec prog_14_method_35_code 120 = some (.goto (-84), 3) := by decide +kernel
theorem dm_where_123 : mj_dec prog_14_method_35_code 123 = some (.aload_n 0, 1) := by decide +kernel
theorem dm_where_124 : mj_dec prog_14_method_35_code 124 = some (.iload_n 3, 1) := by decide +kernel
theorem dm_where_125 : mj_dec prog_14_method_35_code 125 = some (.invokevirtual 230, 3) := by decide +kernel
theorem dm_where_128 : mj_dec prog_14_method_35_code 128 = some (.ireturn, 1) := by decide +kernel
def lp_where : Nat → Nat → (Nat → Int32) → (Nat → Int64) → (Nat → Nat → Int32) → (Nat → Nat → Int64) → (Nat → Int32) → (Nat → Int64) → Int32 × (Nat → Int32) × (Nat → Int64) × (Nat → Nat → Int32) × (Nat → Nat → Int64)
  | 0, _, i, l, I, J, _, _ => (0, i, l, I, J)
  | n + 1, hd, i, l, I, J, v, w => match hd with
    | 36 => (if mj_cnd .ge (v 4) (a_many i l I J (v 1)) = true then (((s_places n i l I J (v 3)).1), ((s_places n i l I J (v 3)).2.1), ((s_places n i l I J (v 3)).2.2.1), ((s_places n i l I J (v 3)).2.2.2.1), ((s_places n i l I J (v 3)).2.2.2.2)) else (if mj_cnd .ge (lg_cmp (a_number i l I J (v 1) (v 4)) (0 : Int64)) (0 : Int32) = true then (if mj_cnd .le (lg_cmp (a_number i l I J (v 1) (v 4)) ((120 : Int64) - ((v 3)).toInt64)) (0 : Int32) = true then lp_where n 92 i l I J (upd v 7 (0 : Int32)) (vp_updL w 5 (a_number i l I J (v 1) (v 4))) else ((a_fail i l I J (8 : Int32) (v 2)), (si_fail i l I J (8 : Int32) (v 2)), l, I, J)) else ((a_fail i l I J (5 : Int32) (v 2)), (si_fail i l I J (5 : Int32) (v 2)), l, I, J)))
    | 92 => (if mj_cnd .ge (v 7) ((w 5)).toInt32 = true then lp_where n 36 i l I J (upd v 4 ((v 4) + Int32.ofInt (1))) w else lp_where n 92 i l (va_up I 14 (upd (I 14) ((v 3)).toNatClampNeg (v 4))) J (upd (upd v 3 ((v 3) + Int32.ofInt (1))) 7 ((v 7) + Int32.ofInt (1))) w)
    | _ => (0, i, l, I, J)
theorem lb_where_36 (n : Nat) (i : Nat → Int32) (l : Nat → Int64) (I : Nat → Nat → Int32) (J : Nat → Nat → Int64) (v : Nat → Int32) (w : Nat → Int64) : lp_where (n + 1) 36 i l I J v w = (if mj_cnd .ge (v 4) (a_many i l I J (v 1)) = true then (((s_places n i l I J (v 3)).1), ((s_places n i l I J (v 3)).2.1), ((s_places n i l I J (v 3)).2.2.1), ((s_places n i l I J (v 3)).2.2.2.1), ((s_places n i l I J (v 3)).2.2.2.2)) else (if mj_cnd .ge (lg_cmp (a_number i l I J (v 1) (v 4)) (0 : Int64)) (0 : Int32) = true then (if mj_cnd .le (lg_cmp (a_number i l I J (v 1) (v 4)) ((120 : Int64) - ((v 3)).toInt64)) (0 : Int32) = true then lp_where n 92 i l I J (upd v 7 (0 : Int32)) (vp_updL w 5 (a_number i l I J (v 1) (v 4))) else ((a_fail i l I J (8 : Int32) (v 2)), (si_fail i l I J (8 : Int32) (v 2)), l, I, J)) else ((a_fail i l I J (5 : Int32) (v 2)), (si_fail i l I J (5 : Int32) (v 2)), l, I, J))) := rfl
theorem lb_where_92 (n : Nat) (i : Nat → Int32) (l : Nat → Int64) (I : Nat → Nat → Int32) (J : Nat → Nat → Int64) (v : Nat → Int32) (w : Nat → Int64) : lp_where (n + 1) 92 i l I J v w = (if mj_cnd .ge (v 7) ((w 5)).toInt32 = true then lp_where n 36 i l I J (upd v 4 ((v 4) + Int32.ofInt (1))) w else lp_where n 92 i l (va_up I 14 (upd (I 14) ((v 3)).toNatClampNeg (v 4))) J (upd (upd v 3 ((v 3) + Int32.ofInt (1))) 7 ((v 7) + Int32.ofInt (1))) w) := rfl
def okl_where : Nat → Nat → (Nat → Int32) → (Nat → Int64) → (Nat → Nat → Int32) → (Nat → Nat → Int64) → (Nat → Int32) → (Nat → Int64) → Prop
  | 0, _, _, _, _, _, _, _ => False
  | n + 1, hd, i, l, I, J, v, w => match hd with
    | 36 => (ok_many i l I J (v 1) ∧ (if mj_cnd .ge (v 4) (a_many i l I J (v 1)) = true then (ok_places n i l I J (v 3) ∧ True) else (ok_number i l I J (v 1) (v 4) ∧ (if mj_cnd .ge (lg_cmp (a_number i l I J (v 1) (v 4)) (0 : Int64)) (0 : Int32) = true then (if mj_cnd .le (lg_cmp (a_number i l I J (v 1) (v 4)) ((120 : Int64) - ((v 3)).toInt64)) (0 : Int32) = true then okl_where n 92 i l I J (upd v 7 (0 : Int32)) (vp_updL w 5 (a_number i l I J (v 1) (v 4))) else (ok_fail i l I J (8 : Int32) (v 2) ∧ True)) else (ok_fail i l I J (5 : Int32) (v 2) ∧ True)))))
    | 92 => (if mj_cnd .ge (v 7) ((w 5)).toInt32 = true then okl_where n 36 i l I J (upd v 4 ((v 4) + Int32.ofInt (1))) w else (¬ ((v 3) < 0 ∨ 260 ≤ ((v 3)).toNatClampNeg) ∧ okl_where n 92 i l (va_up I 14 (upd (I 14) ((v 3)).toNatClampNeg (v 4))) J (upd (upd v 3 ((v 3) + Int32.ofInt (1))) 7 ((v 7) + Int32.ofInt (1))) w))
    | _ => False
def s_where (n : Nat) (i : Nat → Int32) (l : Nat → Int64) (I : Nat → Nat → Int32) (J : Nat → Nat → Int64) (p0 : Int32) (p1 : Int32) : Int32 × (Nat → Int32) × (Nat → Int64) × (Nat → Nat → Int32) × (Nat → Nat → Int64) := (if mj_cnd .ne (a_isRow i l I J p0) (0 : Int32) = true then (if mj_cnd .ne (a_kindOf i l I J p0) (3 : Int32) = true then lp_where n 36 i l I J (upd (upd (upd (upd (fun _ => 0) 1 p0) 2 p1) 3 (0 : Int32)) 4 (0 : Int32)) (fun _ => 0) else ((a_fail i l I J (5 : Int32) p1), (si_fail i l I J (5 : Int32) p1), l, I, J)) else ((a_fail i l I J (3 : Int32) p1), (si_fail i l I J (3 : Int32) p1), l, I, J))
def ok_where (n : Nat) (i : Nat → Int32) (l : Nat → Int64) (I : Nat → Nat → Int32) (J : Nat → Nat → Int64) (p0 : Int32) (p1 : Int32) : Prop := (ok_isRow i l I J p0 ∧ (if mj_cnd .ne (a_isRow i l I J p0) (0 : Int32) = true then (ok_kindOf i l I J p0 ∧ (if mj_cnd .ne (a_kindOf i l I J p0) (3 : Int32) = true then okl_where n 36 i l I J (upd (upd (upd (upd (fun _ => 0) 1 p0) 2 p1) 3 (0 : Int32)) 4 (0 : Int32)) (fun _ => 0) else (ok_fail i l I J (5 : Int32) p1 ∧ True))) else (ok_fail i l I J (3 : Int32) p1 ∧ True)))
set_option maxRecDepth 20000 in
theorem ql_where {xt : mj_X} {pre post : mj_H} {m : Nat} {d : Nat} (hm : pre.length = m) (h2 : 2 ≤ m) : ∀ n : Nat, (∀ i l I J v w, okl_where n 36 i l I J v w → mjR (fun N => mj_call (mj_mmof pg_ms) (mj_TTof pg_TL) xt pg_tl 2 (d + 4) N) (mj_TTof pg_TL 12).1 (mj_TTof pg_TL 12).2 xt pg_tl 2 8 (d + 4) false (Option.some Jvm.ClassFile.FieldType.int) (mj_dec prog_14_method_35_code) 36 [(0, .ref m), (1, .int (v 1)), (2, .int (v 2)), (3, .int (v 3)), (4, .int (v 4))] [] (rH pre post m i l I J) (some (.int (lp_where n 36 i l I J v w).1)) (rH pre post m (lp_where n 36 i l I J v w).2.1 (lp_where n 36 i l I J v w).2.2.1 (lp_where n 36 i l I J v w).2.2.2.1 (lp_where n 36 i l I J v w).2.2.2.2)) ∧ (∀ i l I J v w, okl_where n 92 i l I J v w → mjR (fun N => mj_call (mj_mmof pg_ms) (mj_TTof pg_TL) xt pg_tl 2 (d + 4) N) (mj_TTof pg_TL 12).1 (mj_TTof pg_TL 12).2 xt pg_tl 2 8 (d + 4) false (Option.some Jvm.ClassFile.FieldType.int) (mj_dec prog_14_method_35_code) 92 [(0, .ref m), (1, .int (v 1)), (2, .int (v 2)), (3, .int (v 3)), (4, .int (v 4)), (5, .long (w 5)), (7, .int (v 7))] [] (rH pre post m i l I J) (some (.int (lp_where n 92 i l I J v w).1)) (rH pre post m (lp_where n 92 i l I J v w).2.1 (lp_where n 92 i l I J v w).2.2.1 (lp_where n 92 i l I J v w).2.2.2.1 (lp_where n 92 i l I J v w).2.2.2.2)) := by
  intro n
  induction n with
  | zero => exact ⟨fun i l I J v w h => absurd h id, fun i l I J v w h => absurd h id⟩
  | succ n ih =>
    refine ⟨?_, ?_⟩
    · intro i l I J v w hok
      have hok : (ok_many i l I J (v 1) ∧ (if mj_cnd .ge (v 4) (a_many i l I J (v 1)) = true then (ok_places n i l I J (v 3) ∧ True) else (ok_number i l I J (v 1) (v 4) ∧ (if mj_cnd .ge (lg_cmp (a_number i l I J (v 1) (v 4)) (0 : Int64)) (0 : Int32) = true then (if mj_cnd .le (lg_cmp (a_number i l I J (v 1) (v 4)) ((120 : Int64) - ((v 3)).toInt64)) (0 : Int32) = true then okl_where n 92 i l I J (upd v 7 (0 : Int32)) (vp_updL w 5 (a_number i l I J (v 1) (v 4))) else (ok_fail i l I J (8 : Int32) (v 2) ∧ True)) else (ok_fail i l I J (5 : Int32) (v 2) ∧ True))))) := hok
      refine ms1 dm_where_36 rfl rfl rfl rfl ?_
      refine ms1 dm_where_38 rfl rfl rfl rfl ?_
      refine ms1 dm_where_39 rfl rfl rfl rfl ?_
      obtain ⟨ho, hok⟩ := hok
      refine ms4 dm_where_40 rfl (r_inv (As := [.int (v 1)]) hm h2 rfl rfl rfl) (q_many hm h2 ho) rfl rfl rfl ?_
      refine ms_2c dm_where_43 rfl rfl (fun hb1 => ?_) (fun hb1 => ?_)
      · have hb1 : mj_cnd .ge (v 4) (a_many i l I J (v 1)) = true := hb1
        rw [if_pos hb1] at hok
        refine ms1 dm_where_123 rfl rfl rfl rfl ?_
        refine ms1 dm_where_124 rfl rfl rfl rfl ?_
        obtain ⟨ho, hok⟩ := hok
        refine ms4 dm_where_125 rfl (r_inv (As := [.int (v 3)]) hm h2 rfl rfl rfl) (q_places hm h2 ho) rfl rfl rfl ?_
        have he : lp_where (n + 1) 36 i l I J v w = (((s_places n i l I J (v 3)).1), ((s_places n i l I J (v 3)).2.1), ((s_places n i l I J (v 3)).2.2.1), ((s_places n i l I J (v 3)).2.2.2.1), ((s_places n i l I J (v 3)).2.2.2.2)) := by
          rw [lb_where_36]
          simp only [hb1, Bool.false_eq_true, if_true, if_false]
        rw [he]
        exact ms5 dm_where_128 rfl rfl rfl
      · have hb1 : ¬ (mj_cnd .ge (v 4) (a_many i l I J (v 1)) = true) := hb1
        rw [if_neg hb1] at hok
        refine ms1 dm_where_46 rfl rfl rfl rfl ?_
        refine ms1 dm_where_47 rfl rfl rfl rfl ?_
        refine ms1 dm_where_48 rfl rfl rfl rfl ?_
        obtain ⟨ho, hok⟩ := hok
        refine ms4 dm_where_50 rfl (r_inv (As := [.int (v 1), .int (v 4)]) hm h2 rfl rfl rfl) (q_number hm h2 ho) rfl rfl rfl ?_
        refine ms1 dm_where_53 rfl rfl rfl rfl ?_
        refine ms1 dm_where_55 rfl rfl rfl rfl ?_
        refine ms0 (S' := .long (0 : Int64) :: _) dm_where_57 rfl rfl rfl rfl ?_
        refine ms0 dm_where_58 rfl rfl rfl rfl ?_
        refine ms_1c dm_where_59 rfl rfl (fun hb2 => ?_) (fun hb2 => ?_)
        · have hb2 : mj_cnd .ge (lg_cmp (a_number i l I J (v 1) (v 4)) (0 : Int64)) (0 : Int32) = true := hb2
          rw [if_pos hb2] at hok
          refine ms1 dm_where_69 rfl rfl rfl rfl ?_
          refine ms3 (S' := .long (120 : Int64) :: _) dm_where_71 rfl rfl rfl rfl ?_
          refine ms1 dm_where_74 rfl rfl rfl rfl ?_
          refine ms0 dm_where_75 rfl rfl rfl rfl ?_
          refine ms0 dm_where_76 rfl rfl rfl rfl ?_
          refine ms0 dm_where_77 rfl rfl rfl rfl ?_
          refine ms_1c dm_where_78 rfl rfl (fun hb3 => ?_) (fun hb3 => ?_)
          · have hb3 : mj_cnd .le (lg_cmp (a_number i l I J (v 1) (v 4)) ((120 : Int64) - ((v 3)).toInt64)) (0 : Int32) = true := hb3
            rw [if_pos hb3] at hok
            refine ms0 (S' := .int (0 : Int32) :: _) dm_where_89 rfl rfl rfl rfl ?_
            refine ms1 dm_where_90 rfl rfl rfl rfl ?_
            have he : lp_where (n + 1) 36 i l I J v w = lp_where n 92 i l I J (upd v 7 (0 : Int32)) (vp_updL w 5 (a_number i l I J (v 1) (v 4))) := by
              rw [lb_where_36]
              simp only [hb1, hb2, hb3, Bool.false_eq_true, if_true, if_false]
            rw [he]
            exact mjR_sub rfl rfl rfl (ih.2 _ _ _ _ _ _ hok)
          · have hb3 : ¬ (mj_cnd .le (lg_cmp (a_number i l I J (v 1) (v 4)) ((120 : Int64) - ((v 3)).toInt64)) (0 : Int32) = true) := hb3
            rw [if_neg hb3] at hok
            refine ms1 dm_where_81 rfl rfl rfl rfl ?_
            refine ms0 (S' := .int (8 : Int32) :: _) dm_where_82 rfl rfl rfl rfl ?_
            refine ms1 dm_where_84 rfl rfl rfl rfl ?_
            obtain ⟨ho, hok⟩ := hok
            refine ms4 dm_where_85 rfl (r_inv (As := [.int (8 : Int32), .int (v 2)]) hm h2 rfl rfl rfl) (q_fail hm h2 ho) rfl rfl rfl ?_
            have he : lp_where (n + 1) 36 i l I J v w = ((a_fail i l I J (8 : Int32) (v 2)), (si_fail i l I J (8 : Int32) (v 2)), l, I, J) := by
              rw [lb_where_36]
              simp only [hb1, hb2, hb3, Bool.false_eq_true, if_true, if_false]
            rw [he]
            exact ms5 dm_where_88 rfl rfl rfl
        · have hb2 : ¬ (mj_cnd .ge (lg_cmp (a_number i l I J (v 1) (v 4)) (0 : Int64)) (0 : Int32) = true) := hb2
          rw [if_neg hb2] at hok
          refine ms1 dm_where_62 rfl rfl rfl rfl ?_
          refine ms0 (S' := .int (5 : Int32) :: _) dm_where_63 rfl rfl rfl rfl ?_
          refine ms1 dm_where_64 rfl rfl rfl rfl ?_
          obtain ⟨ho, hok⟩ := hok
          refine ms4 dm_where_65 rfl (r_inv (As := [.int (5 : Int32), .int (v 2)]) hm h2 rfl rfl rfl) (q_fail hm h2 ho) rfl rfl rfl ?_
          have he : lp_where (n + 1) 36 i l I J v w = ((a_fail i l I J (5 : Int32) (v 2)), (si_fail i l I J (5 : Int32) (v 2)), l, I, J) := by
            rw [lb_where_36]
            simp only [hb1, hb2, Bool.false_eq_true, if_true, if_false]
          rw [he]
          exact ms5 dm_where_68 rfl rfl rfl
    · intro i l I J v w hok
      have hok : (if mj_cnd .ge (v 7) ((w 5)).toInt32 = true then okl_where n 36 i l I J (upd v 4 ((v 4) + Int32.ofInt (1))) w else (¬ ((v 3) < 0 ∨ 260 ≤ ((v 3)).toNatClampNeg) ∧ okl_where n 92 i l (va_up I 14 (upd (I 14) ((v 3)).toNatClampNeg (v 4))) J (upd (upd v 3 ((v 3) + Int32.ofInt (1))) 7 ((v 7) + Int32.ofInt (1))) w)) := hok
      refine ms1 dm_where_92 rfl rfl rfl rfl ?_
      refine ms1 dm_where_94 rfl rfl rfl rfl ?_
      refine ms0 dm_where_96 rfl rfl rfl rfl ?_
      refine ms_2c dm_where_97 rfl rfl (fun hb1 => ?_) (fun hb1 => ?_)
      · have hb1 : mj_cnd .ge (v 7) ((w 5)).toInt32 = true := hb1
        rw [if_pos hb1] at hok
        refine ms1 dm_where_117 rfl rfl rfl rfl ?_
        refine ms2 dm_where_120 rfl rfl rfl ?_
        have he : lp_where (n + 1) 92 i l I J v w = lp_where n 36 i l I J (upd v 4 ((v 4) + Int32.ofInt (1))) w := by
          rw [lb_where_92]
          simp only [hb1, Bool.false_eq_true, if_true, if_false]
        rw [he]
        exact mjR_sub rfl rfl rfl (ih.1 _ _ _ _ _ _ hok)
      · have hb1 : ¬ (mj_cnd .ge (v 7) ((w 5)).toInt32 = true) := hb1
        rw [if_neg hb1] at hok
        refine ms1 dm_where_100 rfl rfl rfl rfl ?_
        refine ms3 dm_where_101 (r_get hm h2 rfl (rg_14 _ _ _)) rfl rfl rfl ?_
        refine ms1 dm_where_104 rfl rfl rfl rfl ?_
        refine ms1 dm_where_105 rfl rfl rfl rfl ?_
        obtain ⟨ho, hok⟩ := hok
        refine ms3 dm_where_107 (r_iastk (k := 14) hm h2 (rc_14 _ _ _ _ _) rfl ho (rs_14 _ _ _ _ _ _)) rfl rfl rfl ?_
        refine ms1 dm_where_108 rfl rfl rfl rfl ?_
        refine ms1 dm_where_111 rfl rfl rfl rfl ?_
        refine ms2 dm_where_114 rfl rfl rfl ?_
        have he : lp_where (n + 1) 92 i l I J v w = lp_where n 92 i l (va_up I 14 (upd (I 14) ((v 3)).toNatClampNeg (v 4))) J (upd (upd v 3 ((v 3) + Int32.ofInt (1))) 7 ((v 7) + Int32.ofInt (1))) w := by
          rw [lb_where_92]
          simp only [hb1, Bool.false_eq_true, if_true, if_false]
        rw [he]
        exact mjR_sub rfl rfl rfl (ih.2 _ _ _ _ _ _ hok)
set_option maxRecDepth 20000 in
theorem q_where {xt : mj_X} {pre post : mj_H} {m : Nat} {i : Nat → Int32} {l : Nat → Int64} {I : Nat → Nat → Int32} {J : Nat → Nat → Int64} {d : Nat} (hm : pre.length = m) (h2 : 2 ≤ m) {p0 : Int32} {p1 : Int32} {n : Nat} (hok : ok_where n i l I J p0 p1) : pgC xt (d + 5) k_where (.ref m :: [.int p0, .int p1]) (rH pre post m i l I J) (some (.int (s_where n i l I J p0 p1).1)) (rH pre post m (s_where n i l I J p0 p1).2.1 (s_where n i l I J p0 p1).2.2.1 (s_where n i l I J p0 p1).2.2.2.1 (s_where n i l I J p0 p1).2.2.2.2) := by
  unfold ok_where at hok
  refine ms_call pm_where (Nat.le_of_ble_eq_true rfl) ?_
  dsimp only
  refine ms1 dm_where_0 rfl rfl rfl rfl ?_
  refine ms1 dm_where_1 rfl rfl rfl rfl ?_
  obtain ⟨ho, hok⟩ := hok
  refine ms4 dm_where_2 rfl (r_inv (As := [.int p0]) hm h2 rfl rfl rfl) (q_isRow hm h2 ho) rfl rfl rfl ?_
  refine ms_1c dm_where_5 rfl rfl (fun hb1 => ?_) (fun hb1 => ?_)
  · have hb1 : mj_cnd .ne (a_isRow i l I J p0) (0 : Int32) = true := hb1
    rw [if_pos hb1] at hok
    refine ms1 dm_where_15 rfl rfl rfl rfl ?_
    refine ms1 dm_where_16 rfl rfl rfl rfl ?_
    obtain ⟨ho, hok⟩ := hok
    refine ms4 dm_where_17 rfl (r_inv (As := [.int p0]) hm h2 rfl rfl rfl) (q_kindOf hm h2 ho) rfl rfl rfl ?_
    refine ms0 (S' := .int (3 : Int32) :: _) dm_where_20 rfl rfl rfl rfl ?_
    refine ms_2c dm_where_21 rfl rfl (fun hb2 => ?_) (fun hb2 => ?_)
    · have hb2 : mj_cnd .ne (a_kindOf i l I J p0) (3 : Int32) = true := hb2
      rw [if_pos hb2] at hok
      refine ms0 (S' := .int (0 : Int32) :: _) dm_where_31 rfl rfl rfl rfl ?_
      refine ms1 dm_where_32 rfl rfl rfl rfl ?_
      refine ms0 (S' := .int (0 : Int32) :: _) dm_where_33 rfl rfl rfl rfl ?_
      refine ms1 dm_where_34 rfl rfl rfl rfl ?_
      have he : s_where n i l I J p0 p1 = lp_where n 36 i l I J (upd (upd (upd (upd (fun _ => 0) 1 p0) 2 p1) 3 (0 : Int32)) 4 (0 : Int32)) (fun _ => 0) := by
        unfold s_where
        simp only [hb1, hb2, Bool.false_eq_true, if_true, if_false]
      rw [he]
      exact mjR_sub rfl rfl rfl ((ql_where hm h2 n).1 _ _ _ _ _ _ hok)
    · have hb2 : ¬ (mj_cnd .ne (a_kindOf i l I J p0) (3 : Int32) = true) := hb2
      rw [if_neg hb2] at hok
      refine ms1 dm_where_24 rfl rfl rfl rfl ?_
      refine ms0 (S' := .int (5 : Int32) :: _) dm_where_25 rfl rfl rfl rfl ?_
      refine ms1 dm_where_26 rfl rfl rfl rfl ?_
      obtain ⟨ho, hok⟩ := hok
      refine ms4 dm_where_27 rfl (r_inv (As := [.int (5 : Int32), .int p1]) hm h2 rfl rfl rfl) (q_fail hm h2 ho) rfl rfl rfl ?_
      have he : s_where n i l I J p0 p1 = ((a_fail i l I J (5 : Int32) p1), (si_fail i l I J (5 : Int32) p1), l, I, J) := by
        unfold s_where
        simp only [hb1, hb2, Bool.false_eq_true, if_true, if_false]
      rw [he]
      exact ms5 dm_where_30 rfl rfl rfl
  · have hb1 : ¬ (mj_cnd .ne (a_isRow i l I J p0) (0 : Int32) = true) := hb1
    rw [if_neg hb1] at hok
    refine ms1 dm_where_8 rfl rfl rfl rfl ?_
    refine ms0 (S' := .int (3 : Int32) :: _) dm_where_9 rfl rfl rfl rfl ?_
    refine ms1 dm_where_10 rfl rfl rfl rfl ?_
    obtain ⟨ho, hok⟩ := hok
    refine ms4 dm_where_11 rfl (r_inv (As := [.int (3 : Int32), .int p1]) hm h2 rfl rfl rfl) (q_fail hm h2 ho) rfl rfl rfl ?_
    have he : s_where n i l I J p0 p1 = ((a_fail i l I J (3 : Int32) p1), (si_fail i l I J (3 : Int32) p1), l, I, J) := by
      unfold s_where
      simp only [hb1, Bool.false_eq_true, if_true, if_false]
    rw [he]
    exact ms5 dm_where_14 rfl rfl rfl
def k_sort : Nat := 283
set_option maxRecDepth 20000 in
theorem pm_sort : mj_mmof pg_ms k_sort = some ((⟨"ArrayCalculatorModel", "sort", "(IZ)V"⟩, prog_14_method_36_code, 5, (Option.none : Option Jvm.ClassFile.FieldType)), 12, false, mj_dec prog_14_method_36_code) := rfl
theorem dm_sort_0 : mj_dec prog_14_method_36_code 0 = some (.iconst 0, 1) := by decide +kernel
theorem dm_sort_1 : mj_dec prog_14_method_36_code 1 = some (.istore_n 3, 1) := by decide +kernel
theorem dm_sort_2 : mj_dec prog_14_method_36_code 2 = some (.iload_n 3, 1) := by decide +kernel
theorem dm_sort_3 : mj_dec prog_14_method_36_code 3 = some (.aload_n 0, 1) := by decide +kernel
theorem dm_sort_4 : mj_dec prog_14_method_36_code 4 = some (.iload_n 1, 1) := by decide +kernel
theorem dm_sort_5 : mj_dec prog_14_method_36_code 5 = some (.invokevirtual 134, 3) := by decide +kernel
theorem dm_sort_8 : mj_dec prog_14_method_36_code 8 = some (.if_icmp .ge 102, 3) := by decide +kernel
theorem dm_sort_11 : mj_dec prog_14_method_36_code 11 = some (.iload_n 3, 1) := by decide +kernel
theorem dm_sort_12 : mj_dec prog_14_method_36_code 12 = some (.istore 4, 2) := by decide +kernel
theorem dm_sort_14 : mj_dec prog_14_method_36_code 14 = some (.iload 4, 2) := by decide +kernel
theorem dm_sort_16 : mj_dec prog_14_method_36_code 16 = some (.ifCond .le 80, 3) := by decide +kernel
theorem dm_sort_19 : mj_dec prog_14_method_36_code 19 = some (.iload_n 2, 1) := by decide +kernel
theorem dm_sort_20 : mj_dec prog_14_method_36_code 20 = some (.ifCond .eq 30, 3) := by decide +kernel
theorem dm_sort_23 : mj_dec prog_14_method_36_code 23 = some (.aload_n 0, 1) := by decide +kernel
theorem dm_sort_24 : mj_dec prog_14_method_36_code 24 = some (.iload_n 1, 1) := by decide +kernel
theorem dm_sort_25 : mj_dec prog_14_method_36_code 25 = some (.aload_n 0, 1) := by decide +kernel
theorem dm_sort_26 : mj_dec prog_14_method_36_code 26 = some (.getfield 33, 3) := by decide +kernel
theorem dm_sort_29 : mj_dec prog_14_method_36_code 29 = some (.iload 4, 2) := by decide +kernel
theorem dm_sort_31 : mj_dec prog_14_method_36_code 31 = some (.iconst 1, 1) := by decide +kernel
theorem dm_sort_32 : mj_dec prog_14_method_36_code 32 = some (.isub, 1) := by decide +kernel
theorem dm_sort_33 : mj_dec prog_14_method_36_code 33 = some (.iaload, 1) := by decide +kernel
theorem dm_sort_34 : mj_dec prog_14_method_36_code 34 = some (.invokevirtual 138, 3) := by decide +kernel
theorem dm_sort_37 : mj_dec prog_14_method_36_code 37 = some (.aload_n 0, 1) := by decide +kernel
theorem dm_sort_38 : mj_dec prog_14_method_36_code 38 = some (.iload_n 1, 1) := by decide +kernel
theorem dm_sort_39 : mj_dec prog_14_method_36_code 39 = some (.iload_n 3, 1) := by decide +kernel
theorem dm_sort_40 : mj_dec prog_14_method_36_code 40 = some (.invokevirtual 138, 3) := by decide +kernel
theorem dm_sort_43 : mj_dec prog_14_method_36_code 43 = some (.lcmp, 1) := by decide +kernel
theorem dm_sort_44 : mj_dec prog_14_method_36_code 44 = some (.ifCond .ge 52, 3) := by decide +kernel
theorem dm_sort_47 : mj_dec prog_14_method_36_code 47 = some (.goto 27, 3) := by decide +kernel
theorem dm_sort_50 : mj_dec prog_14_method_36_code 50 = some (.aload_n 0, 1) := by decide +kernel
theorem dm_sort_51 : mj_dec prog_14_method_36_code 51 = some (.iload_n 1, 1) := by decide +kernel
theorem dm_sort_52 : mj_dec prog_14_method_36_code 52 = some (.aload_n 0, 1) := by decide +kernel
theorem dm_sort_53 : mj_dec prog_14_method_36_code 53 = some (.getfield 33, 3) := by decide +kernel
theorem dm_sort_56 : mj_dec prog_14_method_36_code 56 = some (.iload 4, 2) := by decide +kernel
theorem dm_sort_58 : mj_dec prog_14_method_36_code 58 = some (.iconst 1, 1) := by decide +kernel
theorem dm_sort_59 : mj_dec prog_14_method_36_code 59 = some (.isub, 1) := by decide +kernel
theorem dm_sort_60 : mj_dec prog_14_method_36_code 60 = some (.iaload, 1) := by decide +kernel
theorem dm_sort_61 : mj_dec prog_14_method_36_code 61 = some (.invokevirtual 138, 3) := by decide +kernel
theorem dm_sort_64 : mj_dec prog_14_method_36_code 64 = some (.aload_n 0, 1) := by decide +kernel
theorem dm_sort_65 : mj_dec prog_14_method_36_code 65 = some (.iload_n 1, 1) := by decide +kernel
theorem dm_sort_66 : mj_dec prog_14_method_36_code 66 = some (.iload_n 3, 1) := by decide +kernel
theorem dm_sort_67 : mj_dec prog_14_method_36_code 67 = some (.invokevirtual 138, 3) := by decide +kernel
theorem dm_sort_70 : mj_dec prog_14_method_36_code 70 = some (.lcmp, 1) := by decide +kernel
theorem dm_sort_71 : mj_dec prog_14_method_36_code 71 = some (.ifCond .le 25, 3) := by decide +kernel
theorem dm_sort_74 : mj_dec prog_14_method_36_code 74 = some (.aload_n 0, 1) := by decide +kernel
theorem dm_sort_75 : mj_dec prog_14_method_36_code 75 = some (.getfield 33, 3) := by decide +kernel
theorem dm_sort_78 : mj_dec prog_14_method_36_code 78 = some (.iload 4, 2) := by decide +kernel
theorem dm_sort_80 : mj_dec prog_14_method_36_code 80 = some (.aload_n 0, 1) := by decide +kernel
theorem dm_sort_81 : mj_dec prog_14_method_36_code 81 = some (.getfield 33, 3) := by decide +kernel
theorem dm_sort_84 : mj_dec prog_14_method_36_code 84 = some (.iload 4, 2) := by decide +kernel
theorem dm_sort_86 : mj_dec prog_14_method_36_code 86 = some (.iconst 1, 1) := by decide +kernel
theorem dm_sort_87 : mj_dec prog_14_method_36_code 87 = some (.isub, 1) := by decide +kernel
theorem dm_sort_88 : mj_dec prog_14_method_36_code 88 = some (.iaload, 1) := by decide +kernel
theorem dm_sort_89 : mj_dec prog_14_method_36_code 89 = some (.iastore, 1) := by decide +kernel
theorem dm_sort_90 : mj_dec prog_14_method_36_code 90 = some (.iinc 4 (-1), 3) := by decide +kernel
theorem dm_sort_93 : mj_dec prog_14_method_36_code 93 = some (.goto (-79), 3) := by decide +kernel
theorem dm_sort_96 : mj_dec prog_14_method_36_code 96 = some (.aload_n 0, 1) := by decide +kernel
theorem dm_sort_97 : mj_dec prog_14_method_36_code 97 = some (.getfield 33, 3) := by decide +kernel
theorem dm_sort_100 : mj_dec prog_14_method_36_code 100 = some (.iload 4, 2) := by decide +kernel
theorem dm_sort_102 : mj_dec prog_14_method_36_code 102 = some (.iload_n 3, 1) := by decide +kernel
theorem dm_sort_103 : mj_dec prog_14_method_36_code 103 = some (.iastore, 1) := by decide +kernel
theorem dm_sort_104 : mj_dec prog_14_method_36_code 104 = some (.iinc 3 1, 3) := by decide +kernel
theorem dm_sort_107 : mj_dec prog_14_method_36_code 107 = some (.goto (-105), 3) := by decide +kernel
theorem dm_sort_110 : mj_dec prog_14_method_36_code 110 = some (.return_, 1) := by decide +kernel
def lp_sort : Nat → Nat → (Nat → Int32) → (Nat → Int64) → (Nat → Nat → Int32) → (Nat → Nat → Int64) → (Nat → Int32) → (Nat → Int64) → Unit × (Nat → Int32) × (Nat → Int64) × (Nat → Nat → Int32) × (Nat → Nat → Int64)
  | 0, _, i, l, I, J, _, _ => ((), i, l, I, J)
  | n + 1, hd, i, l, I, J, v, w => match hd with
    | 2 => (if mj_cnd .ge (v 3) (a_many i l I J (v 1)) = true then ((), i, l, I, J) else lp_sort n 14 i l I J (upd v 4 (v 3)) w)
    | 14 => (if mj_cnd .le (v 4) (0 : Int32) = true then lp_sort n 2 i l (va_up I 14 (upd (I 14) ((v 4)).toNatClampNeg (v 3))) J (upd v 3 ((v 3) + Int32.ofInt (1))) w else (if mj_cnd .eq (v 2) (0 : Int32) = true then (if mj_cnd .le (lg_cmp (a_number i l I J (v 1) (I 14 (((v 4) - (1 : Int32))).toNatClampNeg)) (a_number i l I J (v 1) (v 3))) (0 : Int32) = true then lp_sort n 2 i l (va_up I 14 (upd (I 14) ((v 4)).toNatClampNeg (v 3))) J (upd v 3 ((v 3) + Int32.ofInt (1))) w else lp_sort n 90 i l (va_up I 14 (upd (I 14) ((v 4)).toNatClampNeg (I 14 (((v 4) - (1 : Int32))).toNatClampNeg))) J v w) else (if mj_cnd .ge (lg_cmp (a_number i l I J (v 1) (I 14 (((v 4) - (1 : Int32))).toNatClampNeg)) (a_number i l I J (v 1) (v 3))) (0 : Int32) = true then lp_sort n 2 i l (va_up I 14 (upd (I 14) ((v 4)).toNatClampNeg (v 3))) J (upd v 3 ((v 3) + Int32.ofInt (1))) w else lp_sort n 74 i l I J v w)))
    | 74 => lp_sort n 90 i l (va_up I 14 (upd (I 14) ((v 4)).toNatClampNeg (I 14 (((v 4) - (1 : Int32))).toNatClampNeg))) J v w
    | 90 => lp_sort n 14 i l I J (upd v 4 ((v 4) + Int32.ofInt (-1))) w
    | _ => ((), i, l, I, J)
theorem lb_sort_2 (n : Nat) (i : Nat → Int32) (l : Nat → Int64) (I : Nat → Nat → Int32) (J : Nat → Nat → Int64) (v : Nat → Int32) (w : Nat → Int64) : lp_sort (n + 1) 2 i l I J v w = (if mj_cnd .ge (v 3) (a_many i l I J (v 1)) = true then ((), i, l, I, J) else lp_sort n 14 i l I J (upd v 4 (v 3)) w) := rfl
theorem lb_sort_14 (n : Nat) (i : Nat → Int32) (l : Nat → Int64) (I : Nat → Nat → Int32) (J : Nat → Nat → Int64) (v : Nat → Int32) (w : Nat → Int64) : lp_sort (n + 1) 14 i l I J v w = (if mj_cnd .le (v 4) (0 : Int32) = true then lp_sort n 2 i l (va_up I 14 (upd (I 14) ((v 4)).toNatClampNeg (v 3))) J (upd v 3 ((v 3) + Int32.ofInt (1))) w else (if mj_cnd .eq (v 2) (0 : Int32) = true then (if mj_cnd .le (lg_cmp (a_number i l I J (v 1) (I 14 (((v 4) - (1 : Int32))).toNatClampNeg)) (a_number i l I J (v 1) (v 3))) (0 : Int32) = true then lp_sort n 2 i l (va_up I 14 (upd (I 14) ((v 4)).toNatClampNeg (v 3))) J (upd v 3 ((v 3) + Int32.ofInt (1))) w else lp_sort n 90 i l (va_up I 14 (upd (I 14) ((v 4)).toNatClampNeg (I 14 (((v 4) - (1 : Int32))).toNatClampNeg))) J v w) else (if mj_cnd .ge (lg_cmp (a_number i l I J (v 1) (I 14 (((v 4) - (1 : Int32))).toNatClampNeg)) (a_number i l I J (v 1) (v 3))) (0 : Int32) = true then lp_sort n 2 i l (va_up I 14 (upd (I 14) ((v 4)).toNatClampNeg (v 3))) J (upd v 3 ((v 3) + Int32.ofInt (1))) w else lp_sort n 74 i l I J v w))) := rfl
theorem lb_sort_74 (n : Nat) (i : Nat → Int32) (l : Nat → Int64) (I : Nat → Nat → Int32) (J : Nat → Nat → Int64) (v : Nat → Int32) (w : Nat → Int64) : lp_sort (n + 1) 74 i l I J v w = lp_sort n 90 i l (va_up I 14 (upd (I 14) ((v 4)).toNatClampNeg (I 14 (((v 4) - (1 : Int32))).toNatClampNeg))) J v w := rfl
theorem lb_sort_90 (n : Nat) (i : Nat → Int32) (l : Nat → Int64) (I : Nat → Nat → Int32) (J : Nat → Nat → Int64) (v : Nat → Int32) (w : Nat → Int64) : lp_sort (n + 1) 90 i l I J v w = lp_sort n 14 i l I J (upd v 4 ((v 4) + Int32.ofInt (-1))) w := rfl
def okl_sort : Nat → Nat → (Nat → Int32) → (Nat → Int64) → (Nat → Nat → Int32) → (Nat → Nat → Int64) → (Nat → Int32) → (Nat → Int64) → Prop
  | 0, _, _, _, _, _, _, _ => False
  | n + 1, hd, i, l, I, J, v, w => match hd with
    | 2 => (ok_many i l I J (v 1) ∧ (if mj_cnd .ge (v 3) (a_many i l I J (v 1)) = true then True else okl_sort n 14 i l I J (upd v 4 (v 3)) w))
    | 14 => (if mj_cnd .le (v 4) (0 : Int32) = true then (¬ ((v 4) < 0 ∨ 260 ≤ ((v 4)).toNatClampNeg) ∧ okl_sort n 2 i l (va_up I 14 (upd (I 14) ((v 4)).toNatClampNeg (v 3))) J (upd v 3 ((v 3) + Int32.ofInt (1))) w) else (if mj_cnd .eq (v 2) (0 : Int32) = true then (¬ (((v 4) - (1 : Int32)) < 0 ∨ 260 ≤ (((v 4) - (1 : Int32))).toNatClampNeg) ∧ (ok_number i l I J (v 1) (I 14 (((v 4) - (1 : Int32))).toNatClampNeg) ∧ (ok_number i l I J (v 1) (v 3) ∧ (if mj_cnd .le (lg_cmp (a_number i l I J (v 1) (I 14 (((v 4) - (1 : Int32))).toNatClampNeg)) (a_number i l I J (v 1) (v 3))) (0 : Int32) = true then (¬ ((v 4) < 0 ∨ 260 ≤ ((v 4)).toNatClampNeg) ∧ okl_sort n 2 i l (va_up I 14 (upd (I 14) ((v 4)).toNatClampNeg (v 3))) J (upd v 3 ((v 3) + Int32.ofInt (1))) w) else (¬ (((v 4) - (1 : Int32)) < 0 ∨ 260 ≤ (((v 4) - (1 : Int32))).toNatClampNeg) ∧ (¬ ((v 4) < 0 ∨ 260 ≤ ((v 4)).toNatClampNeg) ∧ okl_sort n 90 i l (va_up I 14 (upd (I 14) ((v 4)).toNatClampNeg (I 14 (((v 4) - (1 : Int32))).toNatClampNeg))) J v w)))))) else (¬ (((v 4) - (1 : Int32)) < 0 ∨ 260 ≤ (((v 4) - (1 : Int32))).toNatClampNeg) ∧ (ok_number i l I J (v 1) (I 14 (((v 4) - (1 : Int32))).toNatClampNeg) ∧ (ok_number i l I J (v 1) (v 3) ∧ (if mj_cnd .ge (lg_cmp (a_number i l I J (v 1) (I 14 (((v 4) - (1 : Int32))).toNatClampNeg)) (a_number i l I J (v 1) (v 3))) (0 : Int32) = true then (¬ ((v 4) < 0 ∨ 260 ≤ ((v 4)).toNatClampNeg) ∧ okl_sort n 2 i l (va_up I 14 (upd (I 14) ((v 4)).toNatClampNeg (v 3))) J (upd v 3 ((v 3) + Int32.ofInt (1))) w) else okl_sort n 74 i l I J v w))))))
    | 74 => (¬ (((v 4) - (1 : Int32)) < 0 ∨ 260 ≤ (((v 4) - (1 : Int32))).toNatClampNeg) ∧ (¬ ((v 4) < 0 ∨ 260 ≤ ((v 4)).toNatClampNeg) ∧ okl_sort n 90 i l (va_up I 14 (upd (I 14) ((v 4)).toNatClampNeg (I 14 (((v 4) - (1 : Int32))).toNatClampNeg))) J v w))
    | 90 => okl_sort n 14 i l I J (upd v 4 ((v 4) + Int32.ofInt (-1))) w
    | _ => False
def s_sort (n : Nat) (i : Nat → Int32) (l : Nat → Int64) (I : Nat → Nat → Int32) (J : Nat → Nat → Int64) (p0 : Int32) (p1 : Int32) : Unit × (Nat → Int32) × (Nat → Int64) × (Nat → Nat → Int32) × (Nat → Nat → Int64) := lp_sort n 2 i l I J (upd (upd (upd (fun _ => 0) 1 p0) 2 p1) 3 (0 : Int32)) (fun _ => 0)
def ok_sort (n : Nat) (i : Nat → Int32) (l : Nat → Int64) (I : Nat → Nat → Int32) (J : Nat → Nat → Int64) (p0 : Int32) (p1 : Int32) : Prop := okl_sort n 2 i l I J (upd (upd (upd (fun _ => 0) 1 p0) 2 p1) 3 (0 : Int32)) (fun _ => 0)
set_option maxRecDepth 20000 in
theorem ql_sort {xt : mj_X} {pre post : mj_H} {m : Nat} {d : Nat} (hm : pre.length = m) (h2 : 2 ≤ m) : ∀ n : Nat, (∀ i l I J v w, okl_sort n 2 i l I J v w → mjR (fun N => mj_call (mj_mmof pg_ms) (mj_TTof pg_TL) xt pg_tl 2 (d + 1) N) (mj_TTof pg_TL 12).1 (mj_TTof pg_TL 12).2 xt pg_tl 2 5 (d + 1) false (Option.none : Option Jvm.ClassFile.FieldType) (mj_dec prog_14_method_36_code) 2 [(0, .ref m), (1, .int (v 1)), (2, .int (v 2)), (3, .int (v 3))] [] (rH pre post m i l I J) none (rH pre post m (lp_sort n 2 i l I J v w).2.1 (lp_sort n 2 i l I J v w).2.2.1 (lp_sort n 2 i l I J v w).2.2.2.1 (lp_sort n 2 i l I J v w).2.2.2.2)) ∧ (∀ i l I J v w, okl_sort n 14 i l I J v w → mjR (fun N => mj_call (mj_mmof pg_ms) (mj_TTof pg_TL) xt pg_tl 2 (d + 1) N) (mj_TTof pg_TL 12).1 (mj_TTof pg_TL 12).2 xt pg_tl 2 5 (d + 1) false (Option.none : Option Jvm.ClassFile.FieldType) (mj_dec prog_14_method_36_code) 14 [(0, .ref m), (1, .int (v 1)), (2, .int (v 2)), (3, .int (v 3)), (4, .int (v 4))] [] (rH pre post m i l I J) none (rH pre post m (lp_sort n 14 i l I J v w).2.1 (lp_sort n 14 i l I J v w).2.2.1 (lp_sort n 14 i l I J v w).2.2.2.1 (lp_sort n 14 i l I J v w).2.2.2.2)) ∧ (∀ i l I J v w, okl_sort n 74 i l I J v w → mjR (fun N => mj_call (mj_mmof pg_ms) (mj_TTof pg_TL) xt pg_tl 2 (d + 1) N) (mj_TTof pg_TL 12).1 (mj_TTof pg_TL 12).2 xt pg_tl 2 5 (d + 1) false (Option.none : Option Jvm.ClassFile.FieldType) (mj_dec prog_14_method_36_code) 74 [(0, .ref m), (1, .int (v 1)), (2, .int (v 2)), (3, .int (v 3)), (4, .int (v 4))] [] (rH pre post m i l I J) none (rH pre post m (lp_sort n 74 i l I J v w).2.1 (lp_sort n 74 i l I J v w).2.2.1 (lp_sort n 74 i l I J v w).2.2.2.1 (lp_sort n 74 i l I J v w).2.2.2.2)) ∧ (∀ i l I J v w, okl_sort n 90 i l I J v w → mjR (fun N => mj_call (mj_mmof pg_ms) (mj_TTof pg_TL) xt pg_tl 2 (d + 1) N) (mj_TTof pg_TL 12).1 (mj_TTof pg_TL 12).2 xt pg_tl 2 5 (d + 1) false (Option.none : Option Jvm.ClassFile.FieldType) (mj_dec prog_14_method_36_code) 90 [(0, .ref m), (1, .int (v 1)), (2, .int (v 2)), (3, .int (v 3)), (4, .int (v 4))] [] (rH pre post m i l I J) none (rH pre post m (lp_sort n 90 i l I J v w).2.1 (lp_sort n 90 i l I J v w).2.2.1 (lp_sort n 90 i l I J v w).2.2.2.1 (lp_sort n 90 i l I J v w).2.2.2.2)) := by
  intro n
  induction n with
  | zero => exact ⟨fun i l I J v w h => absurd h id, fun i l I J v w h => absurd h id, fun i l I J v w h => absurd h id, fun i l I J v w h => absurd h id⟩
  | succ n ih =>
    refine ⟨?_, ?_, ?_, ?_⟩
    · intro i l I J v w hok
      have hok : (ok_many i l I J (v 1) ∧ (if mj_cnd .ge (v 3) (a_many i l I J (v 1)) = true then True else okl_sort n 14 i l I J (upd v 4 (v 3)) w)) := hok
      refine ms1 dm_sort_2 rfl rfl rfl rfl ?_
      refine ms1 dm_sort_3 rfl rfl rfl rfl ?_
      refine ms1 dm_sort_4 rfl rfl rfl rfl ?_
      obtain ⟨ho, hok⟩ := hok
      refine ms4 dm_sort_5 rfl (r_inv (As := [.int (v 1)]) hm h2 rfl rfl rfl) (q_many hm h2 ho) rfl rfl rfl ?_
      refine ms_2c dm_sort_8 rfl rfl (fun hb1 => ?_) (fun hb1 => ?_)
      · have hb1 : mj_cnd .ge (v 3) (a_many i l I J (v 1)) = true := hb1
        rw [if_pos hb1] at hok
        have he : lp_sort (n + 1) 2 i l I J v w = ((), i, l, I, J) := by
          rw [lb_sort_2]
          simp only [hb1, Bool.false_eq_true, if_true, if_false]
        rw [he]
        exact ms5 dm_sort_110 rfl rfl rfl
      · have hb1 : ¬ (mj_cnd .ge (v 3) (a_many i l I J (v 1)) = true) := hb1
        rw [if_neg hb1] at hok
        refine ms1 dm_sort_11 rfl rfl rfl rfl ?_
        refine ms1 dm_sort_12 rfl rfl rfl rfl ?_
        have he : lp_sort (n + 1) 2 i l I J v w = lp_sort n 14 i l I J (upd v 4 (v 3)) w := by
          rw [lb_sort_2]
          simp only [hb1, Bool.false_eq_true, if_true, if_false]
        rw [he]
        exact mjR_sub rfl rfl rfl (ih.2.1 _ _ _ _ _ _ hok)
    · intro i l I J v w hok
      have hok : (if mj_cnd .le (v 4) (0 : Int32) = true then (¬ ((v 4) < 0 ∨ 260 ≤ ((v 4)).toNatClampNeg) ∧ okl_sort n 2 i l (va_up I 14 (upd (I 14) ((v 4)).toNatClampNeg (v 3))) J (upd v 3 ((v 3) + Int32.ofInt (1))) w) else (if mj_cnd .eq (v 2) (0 : Int32) = true then (¬ (((v 4) - (1 : Int32)) < 0 ∨ 260 ≤ (((v 4) - (1 : Int32))).toNatClampNeg) ∧ (ok_number i l I J (v 1) (I 14 (((v 4) - (1 : Int32))).toNatClampNeg) ∧ (ok_number i l I J (v 1) (v 3) ∧ (if mj_cnd .le (lg_cmp (a_number i l I J (v 1) (I 14 (((v 4) - (1 : Int32))).toNatClampNeg)) (a_number i l I J (v 1) (v 3))) (0 : Int32) = true then (¬ ((v 4) < 0 ∨ 260 ≤ ((v 4)).toNatClampNeg) ∧ okl_sort n 2 i l (va_up I 14 (upd (I 14) ((v 4)).toNatClampNeg (v 3))) J (upd v 3 ((v 3) + Int32.ofInt (1))) w) else (¬ (((v 4) - (1 : Int32)) < 0 ∨ 260 ≤ (((v 4) - (1 : Int32))).toNatClampNeg) ∧ (¬ ((v 4) < 0 ∨ 260 ≤ ((v 4)).toNatClampNeg) ∧ okl_sort n 90 i l (va_up I 14 (upd (I 14) ((v 4)).toNatClampNeg (I 14 (((v 4) - (1 : Int32))).toNatClampNeg))) J v w)))))) else (¬ (((v 4) - (1 : Int32)) < 0 ∨ 260 ≤ (((v 4) - (1 : Int32))).toNatClampNeg) ∧ (ok_number i l I J (v 1) (I 14 (((v 4) - (1 : Int32))).toNatClampNeg) ∧ (ok_number i l I J (v 1) (v 3) ∧ (if mj_cnd .ge (lg_cmp (a_number i l I J (v 1) (I 14 (((v 4) - (1 : Int32))).toNatClampNeg)) (a_number i l I J (v 1) (v 3))) (0 : Int32) = true then (¬ ((v 4) < 0 ∨ 260 ≤ ((v 4)).toNatClampNeg) ∧ okl_sort n 2 i l (va_up I 14 (upd (I 14) ((v 4)).toNatClampNeg (v 3))) J (upd v 3 ((v 3) + Int32.ofInt (1))) w) else okl_sort n 74 i l I J v w)))))) := hok
      refine ms1 dm_sort_14 rfl rfl rfl rfl ?_
      refine ms_1c dm_sort_16 rfl rfl (fun hb1 => ?_) (fun hb1 => ?_)
      · have hb1 : mj_cnd .le (v 4) (0 : Int32) = true := hb1
        rw [if_pos hb1] at hok
        refine ms1 dm_sort_96 rfl rfl rfl rfl ?_
        refine ms3 dm_sort_97 (r_get hm h2 rfl (rg_14 _ _ _)) rfl rfl rfl ?_
        refine ms1 dm_sort_100 rfl rfl rfl rfl ?_
        refine ms1 dm_sort_102 rfl rfl rfl rfl ?_
        obtain ⟨ho, hok⟩ := hok
        refine ms3 dm_sort_103 (r_iastk (k := 14) hm h2 (rc_14 _ _ _ _ _) rfl ho (rs_14 _ _ _ _ _ _)) rfl rfl rfl ?_
        refine ms1 dm_sort_104 rfl rfl rfl rfl ?_
        refine ms2 dm_sort_107 rfl rfl rfl ?_
        have he : lp_sort (n + 1) 14 i l I J v w = lp_sort n 2 i l (va_up I 14 (upd (I 14) ((v 4)).toNatClampNeg (v 3))) J (upd v 3 ((v 3) + Int32.ofInt (1))) w := by
          rw [lb_sort_14]
          simp only [hb1, Bool.false_eq_true, if_true, if_false]
        rw [he]
        exact mjR_sub rfl rfl rfl (ih.1 _ _ _ _ _ _ hok)
      · have hb1 : ¬ (mj_cnd .le (v 4) (0 : Int32) = true) := hb1
        rw [if_neg hb1] at hok
        refine ms1 dm_sort_19 rfl rfl rfl rfl ?_
        refine ms_1c dm_sort_20 rfl rfl (fun hb2 => ?_) (fun hb2 => ?_)
        · have hb2 : mj_cnd .eq (v 2) (0 : Int32) = true := hb2
          rw [if_pos hb2] at hok
          refine ms1 dm_sort_50 rfl rfl rfl rfl ?_
          refine ms1 dm_sort_51 rfl rfl rfl rfl ?_
          refine ms1 dm_sort_52 rfl rfl rfl rfl ?_
          refine ms3 dm_sort_53 (r_get hm h2 rfl (rg_14 _ _ _)) rfl rfl rfl ?_
          refine ms1 dm_sort_56 rfl rfl rfl rfl ?_
          refine ms0 (S' := .int (1 : Int32) :: _) dm_sort_58 rfl rfl rfl rfl ?_
          refine ms0 dm_sort_59 rfl rfl rfl rfl ?_
          obtain ⟨ho, hok⟩ := hok
          refine ms3 dm_sort_60 (r_iald hm h2 (rc_14 _ _ _ _ _) rfl ho) rfl rfl rfl ?_
          obtain ⟨ho, hok⟩ := hok
          refine ms4 dm_sort_61 rfl (r_inv (As := [.int (v 1), .int (I 14 (((v 4) - (1 : Int32))).toNatClampNeg)]) hm h2 rfl rfl rfl) (q_number hm h2 ho) rfl rfl rfl ?_
          refine ms1 dm_sort_64 rfl rfl rfl rfl ?_
          refine ms1 dm_sort_65 rfl rfl rfl rfl ?_
          refine ms1 dm_sort_66 rfl rfl rfl rfl ?_
          obtain ⟨ho, hok⟩ := hok
          refine ms4 dm_sort_67 rfl (r_inv (As := [.int (v 1), .int (v 3)]) hm h2 rfl rfl rfl) (q_number hm h2 ho) rfl rfl rfl ?_
          refine ms0 dm_sort_70 rfl rfl rfl rfl ?_
          refine ms_1c dm_sort_71 rfl rfl (fun hb3 => ?_) (fun hb3 => ?_)
          · have hb3 : mj_cnd .le (lg_cmp (a_number i l I J (v 1) (I 14 (((v 4) - (1 : Int32))).toNatClampNeg)) (a_number i l I J (v 1) (v 3))) (0 : Int32) = true := hb3
            rw [if_pos hb3] at hok
            refine ms1 dm_sort_96 rfl rfl rfl rfl ?_
            refine ms3 dm_sort_97 (r_get hm h2 rfl (rg_14 _ _ _)) rfl rfl rfl ?_
            refine ms1 dm_sort_100 rfl rfl rfl rfl ?_
            refine ms1 dm_sort_102 rfl rfl rfl rfl ?_
            obtain ⟨ho, hok⟩ := hok
            refine ms3 dm_sort_103 (r_iastk (k := 14) hm h2 (rc_14 _ _ _ _ _) rfl ho (rs_14 _ _ _ _ _ _)) rfl rfl rfl ?_
            refine ms1 dm_sort_104 rfl rfl rfl rfl ?_
            refine ms2 dm_sort_107 rfl rfl rfl ?_
            have he : lp_sort (n + 1) 14 i l I J v w = lp_sort n 2 i l (va_up I 14 (upd (I 14) ((v 4)).toNatClampNeg (v 3))) J (upd v 3 ((v 3) + Int32.ofInt (1))) w := by
              rw [lb_sort_14]
              simp only [hb1, hb2, hb3, Bool.false_eq_true, if_true, if_false]
            rw [he]
            exact mjR_sub rfl rfl rfl (ih.1 _ _ _ _ _ _ hok)
          · have hb3 : ¬ (mj_cnd .le (lg_cmp (a_number i l I J (v 1) (I 14 (((v 4) - (1 : Int32))).toNatClampNeg)) (a_number i l I J (v 1) (v 3))) (0 : Int32) = true) := hb3
            rw [if_neg hb3] at hok
            refine ms1 dm_sort_74 rfl rfl rfl rfl ?_
            refine ms3 dm_sort_75 (r_get hm h2 rfl (rg_14 _ _ _)) rfl rfl rfl ?_
            refine ms1 dm_sort_78 rfl rfl rfl rfl ?_
            refine ms1 dm_sort_80 rfl rfl rfl rfl ?_
            refine ms3 dm_sort_81 (r_get hm h2 rfl (rg_14 _ _ _)) rfl rfl rfl ?_
            refine ms1 dm_sort_84 rfl rfl rfl rfl ?_
            refine ms0 (S' := .int (1 : Int32) :: _) dm_sort_86 rfl rfl rfl rfl ?_
            refine ms0 dm_sort_87 rfl rfl rfl rfl ?_
            obtain ⟨ho, hok⟩ := hok
            refine ms3 dm_sort_88 (r_iald hm h2 (rc_14 _ _ _ _ _) rfl ho) rfl rfl rfl ?_
            obtain ⟨ho, hok⟩ := hok
            refine ms3 dm_sort_89 (r_iastk (k := 14) hm h2 (rc_14 _ _ _ _ _) rfl ho (rs_14 _ _ _ _ _ _)) rfl rfl rfl ?_
            have he : lp_sort (n + 1) 14 i l I J v w = lp_sort n 90 i l (va_up I 14 (upd (I 14) ((v 4)).toNatClampNeg (I 14 (((v 4) - (1 : Int32))).toNatClampNeg))) J v w := by
              rw [lb_sort_14]
              simp only [hb1, hb2, hb3, Bool.false_eq_true, if_true, if_false]
            rw [he]
            exact mjR_sub rfl rfl rfl (ih.2.2.2 _ _ _ _ _ _ hok)
        · have hb2 : ¬ (mj_cnd .eq (v 2) (0 : Int32) = true) := hb2
          rw [if_neg hb2] at hok
          refine ms1 dm_sort_23 rfl rfl rfl rfl ?_
          refine ms1 dm_sort_24 rfl rfl rfl rfl ?_
          refine ms1 dm_sort_25 rfl rfl rfl rfl ?_
          refine ms3 dm_sort_26 (r_get hm h2 rfl (rg_14 _ _ _)) rfl rfl rfl ?_
          refine ms1 dm_sort_29 rfl rfl rfl rfl ?_
          refine ms0 (S' := .int (1 : Int32) :: _) dm_sort_31 rfl rfl rfl rfl ?_
          refine ms0 dm_sort_32 rfl rfl rfl rfl ?_
          obtain ⟨ho, hok⟩ := hok
          refine ms3 dm_sort_33 (r_iald hm h2 (rc_14 _ _ _ _ _) rfl ho) rfl rfl rfl ?_
          obtain ⟨ho, hok⟩ := hok
          refine ms4 dm_sort_34 rfl (r_inv (As := [.int (v 1), .int (I 14 (((v 4) - (1 : Int32))).toNatClampNeg)]) hm h2 rfl rfl rfl) (q_number hm h2 ho) rfl rfl rfl ?_
          refine ms1 dm_sort_37 rfl rfl rfl rfl ?_
          refine ms1 dm_sort_38 rfl rfl rfl rfl ?_
          refine ms1 dm_sort_39 rfl rfl rfl rfl ?_
          obtain ⟨ho, hok⟩ := hok
          refine ms4 dm_sort_40 rfl (r_inv (As := [.int (v 1), .int (v 3)]) hm h2 rfl rfl rfl) (q_number hm h2 ho) rfl rfl rfl ?_
          refine ms0 dm_sort_43 rfl rfl rfl rfl ?_
          refine ms_1c dm_sort_44 rfl rfl (fun hb4 => ?_) (fun hb4 => ?_)
          · have hb4 : mj_cnd .ge (lg_cmp (a_number i l I J (v 1) (I 14 (((v 4) - (1 : Int32))).toNatClampNeg)) (a_number i l I J (v 1) (v 3))) (0 : Int32) = true := hb4
            rw [if_pos hb4] at hok
            refine ms1 dm_sort_96 rfl rfl rfl rfl ?_
            refine ms3 dm_sort_97 (r_get hm h2 rfl (rg_14 _ _ _)) rfl rfl rfl ?_
            refine ms1 dm_sort_100 rfl rfl rfl rfl ?_
            refine ms1 dm_sort_102 rfl rfl rfl rfl ?_
            obtain ⟨ho, hok⟩ := hok
            refine ms3 dm_sort_103 (r_iastk (k := 14) hm h2 (rc_14 _ _ _ _ _) rfl ho (rs_14 _ _ _ _ _ _)) rfl rfl rfl ?_
            refine ms1 dm_sort_104 rfl rfl rfl rfl ?_
            refine ms2 dm_sort_107 rfl rfl rfl ?_
            have he : lp_sort (n + 1) 14 i l I J v w = lp_sort n 2 i l (va_up I 14 (upd (I 14) ((v 4)).toNatClampNeg (v 3))) J (upd v 3 ((v 3) + Int32.ofInt (1))) w := by
              rw [lb_sort_14]
              simp only [hb1, hb2, hb4, Bool.false_eq_true, if_true, if_false]
            rw [he]
            exact mjR_sub rfl rfl rfl (ih.1 _ _ _ _ _ _ hok)
          · have hb4 : ¬ (mj_cnd .ge (lg_cmp (a_number i l I J (v 1) (I 14 (((v 4) - (1 : Int32))).toNatClampNeg)) (a_number i l I J (v 1) (v 3))) (0 : Int32) = true) := hb4
            rw [if_neg hb4] at hok
            refine ms2 dm_sort_47 rfl rfl rfl ?_
            have he : lp_sort (n + 1) 14 i l I J v w = lp_sort n 74 i l I J v w := by
              rw [lb_sort_14]
              simp only [hb1, hb2, hb4, Bool.false_eq_true, if_true, if_false]
            rw [he]
            exact mjR_sub rfl rfl rfl (ih.2.2.1 _ _ _ _ _ _ hok)
    · intro i l I J v w hok
      have hok : (¬ (((v 4) - (1 : Int32)) < 0 ∨ 260 ≤ (((v 4) - (1 : Int32))).toNatClampNeg) ∧ (¬ ((v 4) < 0 ∨ 260 ≤ ((v 4)).toNatClampNeg) ∧ okl_sort n 90 i l (va_up I 14 (upd (I 14) ((v 4)).toNatClampNeg (I 14 (((v 4) - (1 : Int32))).toNatClampNeg))) J v w)) := hok
      refine ms1 dm_sort_74 rfl rfl rfl rfl ?_
      refine ms3 dm_sort_75 (r_get hm h2 rfl (rg_14 _ _ _)) rfl rfl rfl ?_
      refine ms1 dm_sort_78 rfl rfl rfl rfl ?_
      refine ms1 dm_sort_80 rfl rfl rfl rfl ?_
      refine ms3 dm_sort_81 (r_get hm h2 rfl (rg_14 _ _ _)) rfl rfl rfl ?_
      refine ms1 dm_sort_84 rfl rfl rfl rfl ?_
      refine ms0 (S' := .int (1 : Int32) :: _) dm_sort_86 rfl rfl rfl rfl ?_
      refine ms0 dm_sort_87 rfl rfl rfl rfl ?_
      obtain ⟨ho, hok⟩ := hok
      refine ms3 dm_sort_88 (r_iald hm h2 (rc_14 _ _ _ _ _) rfl ho) rfl rfl rfl ?_
      obtain ⟨ho, hok⟩ := hok
      refine ms3 dm_sort_89 (r_iastk (k := 14) hm h2 (rc_14 _ _ _ _ _) rfl ho (rs_14 _ _ _ _ _ _)) rfl rfl rfl ?_
      have he : lp_sort (n + 1) 74 i l I J v w = lp_sort n 90 i l (va_up I 14 (upd (I 14) ((v 4)).toNatClampNeg (I 14 (((v 4) - (1 : Int32))).toNatClampNeg))) J v w := by
        rw [lb_sort_74]
      rw [he]
      exact mjR_sub rfl rfl rfl (ih.2.2.2 _ _ _ _ _ _ hok)
    · intro i l I J v w hok
      have hok : okl_sort n 14 i l I J (upd v 4 ((v 4) + Int32.ofInt (-1))) w := hok
      refine ms1 dm_sort_90 rfl rfl rfl rfl ?_
      refine ms2 dm_sort_93 rfl rfl rfl ?_
      have he : lp_sort (n + 1) 90 i l I J v w = lp_sort n 14 i l I J (upd v 4 ((v 4) + Int32.ofInt (-1))) w := by
        rw [lb_sort_90]
      rw [he]
      exact mjR_sub rfl rfl rfl (ih.2.1 _ _ _ _ _ _ hok)
set_option maxRecDepth 20000 in
theorem q_sort {xt : mj_X} {pre post : mj_H} {m : Nat} {i : Nat → Int32} {l : Nat → Int64} {I : Nat → Nat → Int32} {J : Nat → Nat → Int64} {d : Nat} (hm : pre.length = m) (h2 : 2 ≤ m) {p0 : Int32} {p1 : Int32} {n : Nat} (hok : ok_sort n i l I J p0 p1) : pgC xt (d + 2) k_sort (.ref m :: [.int p0, .int p1]) (rH pre post m i l I J) none (rH pre post m (s_sort n i l I J p0 p1).2.1 (s_sort n i l I J p0 p1).2.2.1 (s_sort n i l I J p0 p1).2.2.2.1 (s_sort n i l I J p0 p1).2.2.2.2) := by
  unfold ok_sort at hok
  refine ms_call pm_sort (Nat.le_of_ble_eq_true rfl) ?_
  dsimp only
  refine ms0 (S' := .int (0 : Int32) :: _) dm_sort_0 rfl rfl rfl rfl ?_
  refine ms1 dm_sort_1 rfl rfl rfl rfl ?_
  have he : s_sort n i l I J p0 p1 = lp_sort n 2 i l I J (upd (upd (upd (fun _ => 0) 1 p0) 2 p1) 3 (0 : Int32)) (fun _ => 0) := by
    unfold s_sort
    rfl
  rw [he]
  exact mjR_sub rfl rfl rfl ((ql_sort hm h2 n).1 _ _ _ _ _ _ hok)
def k_groups : Nat := 284
set_option maxRecDepth 20000 in
theorem pm_groups : mj_mmof pg_ms k_groups = some ((⟨"ArrayCalculatorModel", "groups", "(II)I"⟩, prog_14_method_37_code, 8, (Option.some Jvm.ClassFile.FieldType.int)), 12, false, mj_dec prog_14_method_37_code) := rfl
theorem dm_groups_0 : mj_dec prog_14_method_37_code 0 = some (.aload_n 0, 1) := by decide +kernel
theorem dm_groups_1 : mj_dec prog_14_method_37_code 1 = some (.iload_n 1, 1) := by decide +kernel
theorem dm_groups_2 : mj_dec prog_14_method_37_code 2 = some (.invokevirtual 149, 3) := by decide +kernel
theorem dm_groups_5 : mj_dec prog_14_method_37_code 5 = some (.ifCond .ne 10, 3) := by decide +kernel
theorem dm_groups_8 : mj_dec prog_14_method_37_code 8 = some (.aload_n 0, 1) := by decide +kernel
theorem dm_groups_9 : mj_dec prog_14_method_37_code 9 = some (.iconst 3, 1) := by decide +kernel
theorem dm_groups_10 : mj_dec prog_14_method_37_code 10 = some (.iload_n 2, 1) := by decide +kernel
theorem dm_groups_11 : mj_dec prog_14_method_37_code 11 = some (.invokevirtual 190, 3) := by decide +kernel
theorem dm_groups_14 : mj_dec prog_14_method_37_code 14 = some (.ireturn, 1) := by decide +kernel
theorem dm_groups_15 : mj_dec prog_14_method_37_code 15 = some (.aload_n 0, 1) := by decide +kernel
theorem dm_groups_16 : mj_dec prog_14_method_37_code 16 = some (.getfield 202, 3) := by decide +kernel
theorem dm_groups_19 : mj_dec prog_14_method_37_code 19 = some (.istore_n 3, 1) := by decide +kernel
theorem dm_groups_20 : mj_dec prog_14_method_37_code 20 = some (.iconst 0, 1) := by decide +kernel
theorem dm_groups_21 : mj_dec prog_14_method_37_code 21 = some (.istore 4, 2) := by decide +kernel
theorem dm_groups_23 : mj_dec prog_14_method_37_code 23 = some (.iload 4, 2) := by decide +kernel
theorem dm_groups_25 : mj_dec prog_14_method_37_code 25 = some (.aload_n 0, 1) := by decide +kernel
theorem dm_groups_26 : mj_dec prog_14_method_37_code 26 = some (.iload_n 1, 1) := by decide +kernel
theorem dm_groups_27 : mj_dec prog_14_method_37_code 27 = some (.invokevirtual 134, 3) := by decide +kernel
theorem dm_groups_30 : mj_dec prog_14_method_37_code 30 = some (.if_icmp .ge 133, 3) := by decide +kernel
theorem dm_groups_33 : mj_dec prog_14_method_37_code 33 = some (.iconst 0, 1) := by decide +kernel
theorem dm_groups_34 : mj_dec prog_14_method_37_code 34 = some (.istore 5, 2) := by decide +kernel
theorem dm_groups_36 : mj_dec prog_14_method_37_code 36 = some (.iconst 1, 1) := by decide +kernel
theorem dm_groups_37 : mj_dec prog_14_method_37_code 37 = some (.istore 6, 2) := by decide +kernel
theorem dm_groups_39 : mj_dec prog_14_method_37_code 39 = some (.iconst 0, 1) := by decide +kernel
theorem dm_groups_40 : mj_dec prog_14_method_37_code 40 = some (.istore 7, 2) := by decide +kernel
theorem dm_groups_42 : mj_dec prog_14_method_37_code 42 = some (.iload 7, 2) := by decide +kernel
theorem dm_groups_44 : mj_dec prog_14_method_37_code 44 = some (.aload_n 0, 1) := by decide +kernel
theorem dm_groups_45 : mj_dec prog_14_method_37_code 45 = some (.iload_n 1, 1) := by decide +kernel
theorem dm_groups_46 : mj_dec prog_14_method_37_code 46 = some (.invokevirtual 134, 3) := by decide +kernel
theorem dm_groups_49 : mj_dec prog_14_method_37_code 49 = some (.if_icmp .ge 66, 3) := by decide +kernel
theorem dm_groups_52 : mj_dec prog_14_method_37_code 52 = some (.iload 6, 2) := by decide +kernel
theorem dm_groups_54 : mj_dec prog_14_method_37_code 54 = some (.ifCond .eq 61, 3) := by decide +kernel
theorem dm_groups_57 : mj_dec prog_14_method_37_code 57 = some (.aload_n 0, 1) := by decide +kernel
theorem dm_groups_58 : mj_dec prog_14_method_37_code 58 = some (.iload_n 1, 1) := by decide +kernel
theorem dm_groups_59 : mj_dec prog_14_method_37_code 59 = some (.iload 7, 2) := by decide +kernel
theorem dm_groups_61 : mj_dec prog_14_method_37_code 61 = some (.invokevirtual 138, 3) := by decide +kernel
theorem dm_groups_64 : mj_dec prog_14_method_37_code 64 = some (.aload_n 0, 1) := by decide +kernel
theorem dm_groups_65 : mj_dec prog_14_method_37_code 65 = some (.iload_n 1, 1) := by decide +kernel
theorem dm_groups_66 : mj_dec prog_14_method_37_code 66 = some (.iload 4, 2) := by decide +kernel
theorem dm_groups_68 : mj_dec prog_14_method_37_code 68 = some (.invokevirtual 138, 3) := by decide +kernel
theorem dm_groups_71 : mj_dec prog_14_method_37_code 71 = some (.lcmp, 1) := by decide +kernel
theorem dm_groups_72 : mj_dec prog_14_method_37_code 72 = some (.ifCond .eq 6, 3) := by decide +kernel
theorem dm_groups_75 : mj_dec prog_14_method_37_code 75 = some (.goto 34, 3) := by decide +kernel
theorem dm_groups_78 : mj_dec prog_14_method_37_code 78 = some (.iload 5, 2) := by decide +kernel
theorem dm_groups_80 : mj_dec prog_14_method_37_code 80 = some (.ifCond .gt 10, 3) := by decide +kernel
theorem dm_groups_83 : mj_dec prog_14_method_37_code 83 = some (.iload 7, 2) := by decide +kernel
theorem dm_groups_85 : mj_dec prog_14_method_37_code 85 = some (.iload 4, 2) := by decide +kernel
theorem dm_groups_87 : mj_dec prog_14_method_37_code 87 = some (.if_icmp .ne 7, 3) := by decide +kernel
theorem dm_groups_90 : mj_dec prog_14_method_37_code 90 = some (.iconst 1, 1) := by decide +kernel
theorem dm_groups_91 : mj_dec prog_14_method_37_code 91 = some (.goto 4, 3) := by decide +kernel
theorem dm_groups_94 : mj_dec prog_14_method_37_code 94 = some (.iconst 0, 1) := by decide +kernel
theorem dm_groups_95 : mj_dec prog_14_method_37_code 95 = some (.istore 6, 2) := by decide +kernel
theorem dm_groups_97 : mj_dec prog_14_method_37_code 97 = some (.aload_n 0, 1) := by decide +kernel
theorem dm_groups_98 : mj_dec prog_14_method_37_code 98 = some (.getfield 33, 3) := by decide +kernel
theorem dm_groups_101 : mj_dec prog_14_method_37_code 101 = some (.iload 5, 2) := by decide +kernel
theorem dm_groups_103 : mj_dec prog_14_method_37_code 103 = some (.iload 7, 2) := by decide +kernel
theorem dm_groups_105 : mj_dec prog_14_method_37_code 105 = some (.iastore, 1) := by decide +kernel
theorem dm_groups_106 : mj_dec prog_14_method_37_code 106 = some (.iinc 5 1, 3) := by decide +kernel
theorem dm_groups_109 : mj_dec prog_14_method_37_code 109 = some (.iinc 7 1, 3) := by decide +kernel
theorem dm_groups_112 : mj_dec prog_14_method_37_code 112 = some (.goto (-70), 3) := by decide +kernel
theorem dm_groups_115 : mj_dec prog_14_method_37_code 115 = some (.iload 6, 2) := by decide +kernel
theorem dm_groups_117 : mj_dec prog_14_method_37_code 117 = some (.ifCond .ne 6, 3) := by decide +kernel
theorem dm_groups_120 : mj_dec prog_14_method_37_code 120 = some (.goto 37, 3) := by decide +kernel
theorem dm_groups_123 : mj_dec prog_14_method_37_code 123 = some (.aload_n 0, 1) := by decide +kernel
theorem dm_groups_124 : mj_dec prog_14_method_37_code 124 = some (.getfield 202, 3) := by decide +kernel
theorem dm_groups_127 : mj_dec prog_14_method_37_code 127 = some (.iload_n 3, 1) := by decide +kernel
theorem dm_groups_128 : mj_dec prog_14_method_37_code 128 = some (.isub, 1) := by decide +kernel
theorem dm_groups_129 : mj_dec prog_14_method_37_code 129 = some (.bipush 24, 2) := by decide +kernel
theorem dm_groups_131 : mj_dec prog_14_method_37_code 131 = some (.if_icmp .ne 16, 3) := by decide +kernel
theorem dm_groups_134 : mj_dec prog_14_method_37_code 134 = some (.aload_n 0, 1) := by decide +kernel
theorem dm_groups_135 : mj_dec prog_14_method_37_code 135 = some (.iload_n 3, 1) := by decide +kernel
theorem dm_groups_136 : mj_dec prog_14_method_37_code 136 = some (.putfield 202, 3) := by decide +kernel
theorem dm_groups_139 : mj_dec prog_14_method_37_code 139 = some (.aload_n 0, 1) := by decide +kernel
theorem dm_groups_140 : mj_dec prog_14_method_37_code 140 = some (.bipush 8, 2) := by decide +kernel
theorem dm_groups_142 : mj_dec prog_14_method_37_code 142 = some (.iload_n 2, 1) := by decide +kernel
theorem dm_groups_143 : mj_dec prog_14_method_37_code 143 = some (.invokevirtual 190, 3) := by decide +kernel
theorem dm_groups_146 : mj_dec prog_14_method_37_code 146 = some (.ireturn, 1) := by decide +kernel
theorem dm_groups_147 : mj_dec prog_14_method_37_code 147 = some (.aload_n 0, 1) := by decide +kernel
theorem dm_groups_148 : mj_dec prog_14_method_37_code 148 = some (.aload_n 0, 1) := by decide +kernel
theorem dm_groups_149 : mj_dec prog_14_method_37_code 149 = some (.iload 5, 2) := by decide +kernel
theorem dm_groups_151 : mj_dec prog_14_method_37_code 151 = some (.invokevirtual 230, 3) := by decide +kernel
theorem dm_groups_154 : mj_dec prog_14_method_37_code 154 = some (.invokevirtual 264, 3) := by decide +kernel
theorem dm_groups_157 : mj_dec prog_14_method_37_code 157 = some (.iinc 4 1, 3) := by decide +kernel
theorem dm_groups_160 : mj_dec prog_14_method_37_code 160 = some (.goto (-137), 3) := by decide +kernel
theorem dm_groups_163 : mj_dec prog_14_method_37_code 163 = some (.aload_n 0, 1) := by decide +kernel
theorem dm_groups_164 : mj_dec prog_14_method_37_code 164 = some (.iload_n 3, 1) := by decide +kernel
theorem dm_groups_165 : mj_dec prog_14_method_37_code 165 = some (.invokevirtual 268, 3) := by decide +kernel
theorem dm_groups_168 : mj_dec prog_14_method_37_code 168 = some (.ireturn, 1) := by decide +kernel
def lp_groups : Nat → Nat → (Nat → Int32) → (Nat → Int64) → (Nat → Nat → Int32) → (Nat → Nat → Int64) → (Nat → Int32) → (Nat → Int64) → Int32 × (Nat → Int32) × (Nat → Int64) × (Nat → Nat → Int32) × (Nat → Nat → Int64)
  | 0, _, i, l, I, J, _, _ => (0, i, l, I, J)
  | n + 1, hd, i, l, I, J, v, w => match hd with
    | 23 => (if mj_cnd .ge (v 4) (a_many i l I J (v 1)) = true then (((s_nest n i l I J (v 3)).1), ((s_nest n i l I J (v 3)).2.1), ((s_nest n i l I J (v 3)).2.2.1), ((s_nest n i l I J (v 3)).2.2.2.1), ((s_nest n i l I J (v 3)).2.2.2.2)) else lp_groups n 42 i l I J (upd (upd (upd v 5 (0 : Int32)) 6 (1 : Int32)) 7 (0 : Int32)) w)
    | 42 => (if mj_cnd .ge (v 7) (a_many i l I J (v 1)) = true then (if mj_cnd .ne (v 6) (0 : Int32) = true then (if mj_cnd .ne ((i 13) - (v 3)) (24 : Int32) = true then lp_groups n 157 (si_push ((s_places n i l I J (v 5)).2.1) ((s_places n i l I J (v 5)).2.2.1) ((s_places n i l I J (v 5)).2.2.2.1) ((s_places n i l I J (v 5)).2.2.2.2) ((s_places n i l I J (v 5)).1)) ((s_places n i l I J (v 5)).2.2.1) (sI_push ((s_places n i l I J (v 5)).2.1) ((s_places n i l I J (v 5)).2.2.1) ((s_places n i l I J (v 5)).2.2.2.1) ((s_places n i l I J (v 5)).2.2.2.2) ((s_places n i l I J (v 5)).1)) ((s_places n i l I J (v 5)).2.2.2.2) v w else ((a_fail (upd i 13 (v 3)) l I J (8 : Int32) (v 2)), (si_fail (upd i 13 (v 3)) l I J (8 : Int32) (v 2)), l, I, J)) else lp_groups n 157 i l I J v w) else (if mj_cnd .eq (v 6) (0 : Int32) = true then (if mj_cnd .ne (v 6) (0 : Int32) = true then (if mj_cnd .ne ((i 13) - (v 3)) (24 : Int32) = true then lp_groups n 157 (si_push ((s_places n i l I J (v 5)).2.1) ((s_places n i l I J (v 5)).2.2.1) ((s_places n i l I J (v 5)).2.2.2.1) ((s_places n i l I J (v 5)).2.2.2.2) ((s_places n i l I J (v 5)).1)) ((s_places n i l I J (v 5)).2.2.1) (sI_push ((s_places n i l I J (v 5)).2.1) ((s_places n i l I J (v 5)).2.2.1) ((s_places n i l I J (v 5)).2.2.2.1) ((s_places n i l I J (v 5)).2.2.2.2) ((s_places n i l I J (v 5)).1)) ((s_places n i l I J (v 5)).2.2.2.2) v w else ((a_fail (upd i 13 (v 3)) l I J (8 : Int32) (v 2)), (si_fail (upd i 13 (v 3)) l I J (8 : Int32) (v 2)), l, I, J)) else lp_groups n 157 i l I J v w) else (if mj_cnd .eq (lg_cmp (a_number i l I J (v 1) (v 7)) (a_number i l I J (v 1) (v 4))) (0 : Int32) = true then (if mj_cnd .gt (v 5) (0 : Int32) = true then lp_groups n 109 i l (va_up I 14 (upd (I 14) ((v 5)).toNatClampNeg (v 7))) J (upd (upd v 5 ((v 5) + Int32.ofInt (1))) 6 (1 : Int32)) w else (if mj_cnd .ne (v 7) (v 4) = true then lp_groups n 109 i l (va_up I 14 (upd (I 14) ((v 5)).toNatClampNeg (v 7))) J (upd (upd v 5 ((v 5) + Int32.ofInt (1))) 6 (0 : Int32)) w else lp_groups n 109 i l (va_up I 14 (upd (I 14) ((v 5)).toNatClampNeg (v 7))) J (upd (upd v 5 ((v 5) + Int32.ofInt (1))) 6 (1 : Int32)) w)) else lp_groups n 109 i l I J v w)))
    | 109 => lp_groups n 42 i l I J (upd v 7 ((v 7) + Int32.ofInt (1))) w
    | 157 => lp_groups n 23 i l I J (upd v 4 ((v 4) + Int32.ofInt (1))) w
    | _ => (0, i, l, I, J)
theorem lb_groups_23 (n : Nat) (i : Nat → Int32) (l : Nat → Int64) (I : Nat → Nat → Int32) (J : Nat → Nat → Int64) (v : Nat → Int32) (w : Nat → Int64) : lp_groups (n + 1) 23 i l I J v w = (if mj_cnd .ge (v 4) (a_many i l I J (v 1)) = true then (((s_nest n i l I J (v 3)).1), ((s_nest n i l I J (v 3)).2.1), ((s_nest n i l I J (v 3)).2.2.1), ((s_nest n i l I J (v 3)).2.2.2.1), ((s_nest n i l I J (v 3)).2.2.2.2)) else lp_groups n 42 i l I J (upd (upd (upd v 5 (0 : Int32)) 6 (1 : Int32)) 7 (0 : Int32)) w) := rfl
theorem lb_groups_42 (n : Nat) (i : Nat → Int32) (l : Nat → Int64) (I : Nat → Nat → Int32) (J : Nat → Nat → Int64) (v : Nat → Int32) (w : Nat → Int64) : lp_groups (n + 1) 42 i l I J v w = (if mj_cnd .ge (v 7) (a_many i l I J (v 1)) = true then (if mj_cnd .ne (v 6) (0 : Int32) = true then (if mj_cnd .ne ((i 13) - (v 3)) (24 : Int32) = true then lp_groups n 157 (si_push ((s_places n i l I J (v 5)).2.1) ((s_places n i l I J (v 5)).2.2.1) ((s_places n i l I J (v 5)).2.2.2.1) ((s_places n i l I J (v 5)).2.2.2.2) ((s_places n i l I J (v 5)).1)) ((s_places n i l I J (v 5)).2.2.1) (sI_push ((s_places n i l I J (v 5)).2.1) ((s_places n i l I J (v 5)).2.2.1) ((s_places n i l I J (v 5)).2.2.2.1) ((s_places n i l I J (v 5)).2.2.2.2) ((s_places n i l I J (v 5)).1)) ((s_places n i l I J (v 5)).2.2.2.2) v w else ((a_fail (upd i 13 (v 3)) l I J (8 : Int32) (v 2)), (si_fail (upd i 13 (v 3)) l I J (8 : Int32) (v 2)), l, I, J)) else lp_groups n 157 i l I J v w) else (if mj_cnd .eq (v 6) (0 : Int32) = true then (if mj_cnd .ne (v 6) (0 : Int32) = true then (if mj_cnd .ne ((i 13) - (v 3)) (24 : Int32) = true then lp_groups n 157 (si_push ((s_places n i l I J (v 5)).2.1) ((s_places n i l I J (v 5)).2.2.1) ((s_places n i l I J (v 5)).2.2.2.1) ((s_places n i l I J (v 5)).2.2.2.2) ((s_places n i l I J (v 5)).1)) ((s_places n i l I J (v 5)).2.2.1) (sI_push ((s_places n i l I J (v 5)).2.1) ((s_places n i l I J (v 5)).2.2.1) ((s_places n i l I J (v 5)).2.2.2.1) ((s_places n i l I J (v 5)).2.2.2.2) ((s_places n i l I J (v 5)).1)) ((s_places n i l I J (v 5)).2.2.2.2) v w else ((a_fail (upd i 13 (v 3)) l I J (8 : Int32) (v 2)), (si_fail (upd i 13 (v 3)) l I J (8 : Int32) (v 2)), l, I, J)) else lp_groups n 157 i l I J v w) else (if mj_cnd .eq (lg_cmp (a_number i l I J (v 1) (v 7)) (a_number i l I J (v 1) (v 4))) (0 : Int32) = true then (if mj_cnd .gt (v 5) (0 : Int32) = true then lp_groups n 109 i l (va_up I 14 (upd (I 14) ((v 5)).toNatClampNeg (v 7))) J (upd (upd v 5 ((v 5) + Int32.ofInt (1))) 6 (1 : Int32)) w else (if mj_cnd .ne (v 7) (v 4) = true then lp_groups n 109 i l (va_up I 14 (upd (I 14) ((v 5)).toNatClampNeg (v 7))) J (upd (upd v 5 ((v 5) + Int32.ofInt (1))) 6 (0 : Int32)) w else lp_groups n 109 i l (va_up I 14 (upd (I 14) ((v 5)).toNatClampNeg (v 7))) J (upd (upd v 5 ((v 5) + Int32.ofInt (1))) 6 (1 : Int32)) w)) else lp_groups n 109 i l I J v w))) := rfl
theorem lb_groups_109 (n : Nat) (i : Nat → Int32) (l : Nat → Int64) (I : Nat → Nat → Int32) (J : Nat → Nat → Int64) (v : Nat → Int32) (w : Nat → Int64) : lp_groups (n + 1) 109 i l I J v w = lp_groups n 42 i l I J (upd v 7 ((v 7) + Int32.ofInt (1))) w := rfl
theorem lb_groups_157 (n : Nat) (i : Nat → Int32) (l : Nat → Int64) (I : Nat → Nat → Int32) (J : Nat → Nat → Int64) (v : Nat → Int32) (w : Nat → Int64) : lp_groups (n + 1) 157 i l I J v w = lp_groups n 23 i l I J (upd v 4 ((v 4) + Int32.ofInt (1))) w := rfl
def okl_groups : Nat → Nat → (Nat → Int32) → (Nat → Int64) → (Nat → Nat → Int32) → (Nat → Nat → Int64) → (Nat → Int32) → (Nat → Int64) → Prop
  | 0, _, _, _, _, _, _, _ => False
  | n + 1, hd, i, l, I, J, v, w => match hd with
    | 23 => (ok_many i l I J (v 1) ∧ (if mj_cnd .ge (v 4) (a_many i l I J (v 1)) = true then (ok_nest n i l I J (v 3) ∧ True) else okl_groups n 42 i l I J (upd (upd (upd v 5 (0 : Int32)) 6 (1 : Int32)) 7 (0 : Int32)) w))
    | 42 => (ok_many i l I J (v 1) ∧ (if mj_cnd .ge (v 7) (a_many i l I J (v 1)) = true then (if mj_cnd .ne (v 6) (0 : Int32) = true then (if mj_cnd .ne ((i 13) - (v 3)) (24 : Int32) = true then (ok_places n i l I J (v 5) ∧ (ok_push ((s_places n i l I J (v 5)).2.1) ((s_places n i l I J (v 5)).2.2.1) ((s_places n i l I J (v 5)).2.2.2.1) ((s_places n i l I J (v 5)).2.2.2.2) ((s_places n i l I J (v 5)).1) ∧ okl_groups n 157 (si_push ((s_places n i l I J (v 5)).2.1) ((s_places n i l I J (v 5)).2.2.1) ((s_places n i l I J (v 5)).2.2.2.1) ((s_places n i l I J (v 5)).2.2.2.2) ((s_places n i l I J (v 5)).1)) ((s_places n i l I J (v 5)).2.2.1) (sI_push ((s_places n i l I J (v 5)).2.1) ((s_places n i l I J (v 5)).2.2.1) ((s_places n i l I J (v 5)).2.2.2.1) ((s_places n i l I J (v 5)).2.2.2.2) ((s_places n i l I J (v 5)).1)) ((s_places n i l I J (v 5)).2.2.2.2) v w)) else (ok_fail (upd i 13 (v 3)) l I J (8 : Int32) (v 2) ∧ True)) else okl_groups n 157 i l I J v w) else (if mj_cnd .eq (v 6) (0 : Int32) = true then (if mj_cnd .ne (v 6) (0 : Int32) = true then (if mj_cnd .ne ((i 13) - (v 3)) (24 : Int32) = true then (ok_places n i l I J (v 5) ∧ (ok_push ((s_places n i l I J (v 5)).2.1) ((s_places n i l I J (v 5)).2.2.1) ((s_places n i l I J (v 5)).2.2.2.1) ((s_places n i l I J (v 5)).2.2.2.2) ((s_places n i l I J (v 5)).1) ∧ okl_groups n 157 (si_push ((s_places n i l I J (v 5)).2.1) ((s_places n i l I J (v 5)).2.2.1) ((s_places n i l I J (v 5)).2.2.2.1) ((s_places n i l I J (v 5)).2.2.2.2) ((s_places n i l I J (v 5)).1)) ((s_places n i l I J (v 5)).2.2.1) (sI_push ((s_places n i l I J (v 5)).2.1) ((s_places n i l I J (v 5)).2.2.1) ((s_places n i l I J (v 5)).2.2.2.1) ((s_places n i l I J (v 5)).2.2.2.2) ((s_places n i l I J (v 5)).1)) ((s_places n i l I J (v 5)).2.2.2.2) v w)) else (ok_fail (upd i 13 (v 3)) l I J (8 : Int32) (v 2) ∧ True)) else okl_groups n 157 i l I J v w) else (ok_number i l I J (v 1) (v 7) ∧ (ok_number i l I J (v 1) (v 4) ∧ (if mj_cnd .eq (lg_cmp (a_number i l I J (v 1) (v 7)) (a_number i l I J (v 1) (v 4))) (0 : Int32) = true then (if mj_cnd .gt (v 5) (0 : Int32) = true then (¬ ((v 5) < 0 ∨ 260 ≤ ((v 5)).toNatClampNeg) ∧ okl_groups n 109 i l (va_up I 14 (upd (I 14) ((v 5)).toNatClampNeg (v 7))) J (upd (upd v 5 ((v 5) + Int32.ofInt (1))) 6 (1 : Int32)) w) else (if mj_cnd .ne (v 7) (v 4) = true then (¬ ((v 5) < 0 ∨ 260 ≤ ((v 5)).toNatClampNeg) ∧ okl_groups n 109 i l (va_up I 14 (upd (I 14) ((v 5)).toNatClampNeg (v 7))) J (upd (upd v 5 ((v 5) + Int32.ofInt (1))) 6 (0 : Int32)) w) else (¬ ((v 5) < 0 ∨ 260 ≤ ((v 5)).toNatClampNeg) ∧ okl_groups n 109 i l (va_up I 14 (upd (I 14) ((v 5)).toNatClampNeg (v 7))) J (upd (upd v 5 ((v 5) + Int32.ofInt (1))) 6 (1 : Int32)) w))) else okl_groups n 109 i l I J v w))))))
    | 109 => okl_groups n 42 i l I J (upd v 7 ((v 7) + Int32.ofInt (1))) w
    | 157 => okl_groups n 23 i l I J (upd v 4 ((v 4) + Int32.ofInt (1))) w
    | _ => False
def s_groups (n : Nat) (i : Nat → Int32) (l : Nat → Int64) (I : Nat → Nat → Int32) (J : Nat → Nat → Int64) (p0 : Int32) (p1 : Int32) : Int32 × (Nat → Int32) × (Nat → Int64) × (Nat → Nat → Int32) × (Nat → Nat → Int64) := (if mj_cnd .ne (a_isRow i l I J p0) (0 : Int32) = true then lp_groups n 23 i l I J (upd (upd (upd (upd (fun _ => 0) 1 p0) 2 p1) 3 (i 13)) 4 (0 : Int32)) (fun _ => 0) else ((a_fail i l I J (3 : Int32) p1), (si_fail i l I J (3 : Int32) p1), l, I, J))
def ok_groups (n : Nat) (i : Nat → Int32) (l : Nat → Int64) (I : Nat → Nat → Int32) (J : Nat → Nat → Int64) (p0 : Int32) (p1 : Int32) : Prop := (ok_isRow i l I J p0 ∧ (if mj_cnd .ne (a_isRow i l I J p0) (0 : Int32) = true then okl_groups n 23 i l I J (upd (upd (upd (upd (fun _ => 0) 1 p0) 2 p1) 3 (i 13)) 4 (0 : Int32)) (fun _ => 0) else (ok_fail i l I J (3 : Int32) p1 ∧ True)))
set_option maxRecDepth 20000 in
theorem ql_groups {xt : mj_X} {pre post : mj_H} {m : Nat} {d : Nat} (hm : pre.length = m) (h2 : 2 ≤ m) : ∀ n : Nat, (∀ i l I J v w, okl_groups n 23 i l I J v w → mjR (fun N => mj_call (mj_mmof pg_ms) (mj_TTof pg_TL) xt pg_tl 2 (d + 4) N) (mj_TTof pg_TL 12).1 (mj_TTof pg_TL 12).2 xt pg_tl 2 8 (d + 4) false (Option.some Jvm.ClassFile.FieldType.int) (mj_dec prog_14_method_37_code) 23 [(0, .ref m), (1, .int (v 1)), (2, .int (v 2)), (3, .int (v 3)), (4, .int (v 4))] [] (rH pre post m i l I J) (some (.int (lp_groups n 23 i l I J v w).1)) (rH pre post m (lp_groups n 23 i l I J v w).2.1 (lp_groups n 23 i l I J v w).2.2.1 (lp_groups n 23 i l I J v w).2.2.2.1 (lp_groups n 23 i l I J v w).2.2.2.2)) ∧ (∀ i l I J v w, okl_groups n 42 i l I J v w → mjR (fun N => mj_call (mj_mmof pg_ms) (mj_TTof pg_TL) xt pg_tl 2 (d + 4) N) (mj_TTof pg_TL 12).1 (mj_TTof pg_TL 12).2 xt pg_tl 2 8 (d + 4) false (Option.some Jvm.ClassFile.FieldType.int) (mj_dec prog_14_method_37_code) 42 [(0, .ref m), (1, .int (v 1)), (2, .int (v 2)), (3, .int (v 3)), (4, .int (v 4)), (5, .int (v 5)), (6, .int (v 6)), (7, .int (v 7))] [] (rH pre post m i l I J) (some (.int (lp_groups n 42 i l I J v w).1)) (rH pre post m (lp_groups n 42 i l I J v w).2.1 (lp_groups n 42 i l I J v w).2.2.1 (lp_groups n 42 i l I J v w).2.2.2.1 (lp_groups n 42 i l I J v w).2.2.2.2)) ∧ (∀ i l I J v w, okl_groups n 109 i l I J v w → mjR (fun N => mj_call (mj_mmof pg_ms) (mj_TTof pg_TL) xt pg_tl 2 (d + 4) N) (mj_TTof pg_TL 12).1 (mj_TTof pg_TL 12).2 xt pg_tl 2 8 (d + 4) false (Option.some Jvm.ClassFile.FieldType.int) (mj_dec prog_14_method_37_code) 109 [(0, .ref m), (1, .int (v 1)), (2, .int (v 2)), (3, .int (v 3)), (4, .int (v 4)), (5, .int (v 5)), (6, .int (v 6)), (7, .int (v 7))] [] (rH pre post m i l I J) (some (.int (lp_groups n 109 i l I J v w).1)) (rH pre post m (lp_groups n 109 i l I J v w).2.1 (lp_groups n 109 i l I J v w).2.2.1 (lp_groups n 109 i l I J v w).2.2.2.1 (lp_groups n 109 i l I J v w).2.2.2.2)) ∧ (∀ i l I J v w, okl_groups n 157 i l I J v w → mjR (fun N => mj_call (mj_mmof pg_ms) (mj_TTof pg_TL) xt pg_tl 2 (d + 4) N) (mj_TTof pg_TL 12).1 (mj_TTof pg_TL 12).2 xt pg_tl 2 8 (d + 4) false (Option.some Jvm.ClassFile.FieldType.int) (mj_dec prog_14_method_37_code) 157 [(0, .ref m), (1, .int (v 1)), (2, .int (v 2)), (3, .int (v 3)), (4, .int (v 4))] [] (rH pre post m i l I J) (some (.int (lp_groups n 157 i l I J v w).1)) (rH pre post m (lp_groups n 157 i l I J v w).2.1 (lp_groups n 157 i l I J v w).2.2.1 (lp_groups n 157 i l I J v w).2.2.2.1 (lp_groups n 157 i l I J v w).2.2.2.2)) := by
  intro n
  induction n with
  | zero => exact ⟨fun i l I J v w h => absurd h id, fun i l I J v w h => absurd h id, fun i l I J v w h => absurd h id, fun i l I J v w h => absurd h id⟩
  | succ n ih =>
    refine ⟨?_, ?_, ?_, ?_⟩
    · intro i l I J v w hok
      have hok : (ok_many i l I J (v 1) ∧ (if mj_cnd .ge (v 4) (a_many i l I J (v 1)) = true then (ok_nest n i l I J (v 3) ∧ True) else okl_groups n 42 i l I J (upd (upd (upd v 5 (0 : Int32)) 6 (1 : Int32)) 7 (0 : Int32)) w)) := hok
      refine ms1 dm_groups_23 rfl rfl rfl rfl ?_
      refine ms1 dm_groups_25 rfl rfl rfl rfl ?_
      refine ms1 dm_groups_26 rfl rfl rfl rfl ?_
      obtain ⟨ho, hok⟩ := hok
      refine ms4 dm_groups_27 rfl (r_inv (As := [.int (v 1)]) hm h2 rfl rfl rfl) (q_many hm h2 ho) rfl rfl rfl ?_
      refine ms_2c dm_groups_30 rfl rfl (fun hb1 => ?_) (fun hb1 => ?_)
      · have hb1 : mj_cnd .ge (v 4) (a_many i l I J (v 1)) = true := hb1
        rw [if_pos hb1] at hok
        refine ms1 dm_groups_163 rfl rfl rfl rfl ?_
        refine ms1 dm_groups_164 rfl rfl rfl rfl ?_
        obtain ⟨ho, hok⟩ := hok
        refine ms4 dm_groups_165 rfl (r_inv (As := [.int (v 3)]) hm h2 rfl rfl rfl) (q_nest hm h2 ho) rfl rfl rfl ?_
        have he : lp_groups (n + 1) 23 i l I J v w = (((s_nest n i l I J (v 3)).1), ((s_nest n i l I J (v 3)).2.1), ((s_nest n i l I J (v 3)).2.2.1), ((s_nest n i l I J (v 3)).2.2.2.1), ((s_nest n i l I J (v 3)).2.2.2.2)) := by
          rw [lb_groups_23]
          simp only [hb1, Bool.false_eq_true, if_true, if_false]
        rw [he]
        exact ms5 dm_groups_168 rfl rfl rfl
      · have hb1 : ¬ (mj_cnd .ge (v 4) (a_many i l I J (v 1)) = true) := hb1
        rw [if_neg hb1] at hok
        refine ms0 (S' := .int (0 : Int32) :: _) dm_groups_33 rfl rfl rfl rfl ?_
        refine ms1 dm_groups_34 rfl rfl rfl rfl ?_
        refine ms0 (S' := .int (1 : Int32) :: _) dm_groups_36 rfl rfl rfl rfl ?_
        refine ms1 dm_groups_37 rfl rfl rfl rfl ?_
        refine ms0 (S' := .int (0 : Int32) :: _) dm_groups_39 rfl rfl rfl rfl ?_
        refine ms1 dm_groups_40 rfl rfl rfl rfl ?_
        have he : lp_groups (n + 1) 23 i l I J v w = lp_groups n 42 i l I J (upd (upd (upd v 5 (0 : Int32)) 6 (1 : Int32)) 7 (0 : Int32)) w := by
          rw [lb_groups_23]
          simp only [hb1, Bool.false_eq_true, if_true, if_false]
        rw [he]
        exact mjR_sub rfl rfl rfl (ih.2.1 _ _ _ _ _ _ hok)
    · intro i l I J v w hok
      have hok : (ok_many i l I J (v 1) ∧ (if mj_cnd .ge (v 7) (a_many i l I J (v 1)) = true then (if mj_cnd .ne (v 6) (0 : Int32) = true then (if mj_cnd .ne ((i 13) - (v 3)) (24 : Int32) = true then (ok_places n i l I J (v 5) ∧ (ok_push ((s_places n i l I J (v 5)).2.1) ((s_places n i l I J (v 5)).2.2.1) ((s_places n i l I J (v 5)).2.2.2.1) ((s_places n i l I J (v 5)).2.2.2.2) ((s_places n i l I J (v 5)).1) ∧ okl_groups n 157 (si_push ((s_places n i l I J (v 5)).2.1) ((s_places n i l I J (v 5)).2.2.1) ((s_places n i l I J (v 5)).2.2.2.1) ((s_places n i l I J (v 5)).2.2.2.2) ((s_places n i l I J (v 5)).1)) ((s_places n i l I J (v 5)).2.2.1) (sI_push ((s_places n i l I J (v 5)).2.1) ((s_places n i l I J (v 5)).2.2.1) ((s_places n i l I J (v 5)).2.2.2.1) ((s_places n i l I J (v 5)).2.2.2.2) ((s_places n i l I J (v 5)).1)) ((s_places n i l I J (v 5)).2.2.2.2) v w)) else (ok_fail (upd i 13 (v 3)) l I J (8 : Int32) (v 2) ∧ True)) else okl_groups n 157 i l I J v w) else (if mj_cnd .eq (v 6) (0 : Int32) = true then (if mj_cnd .ne (v 6) (0 : Int32) = true then (if mj_cnd .ne ((i 13) - (v 3)) (24 : Int32) = true then (ok_places n i l I J (v 5) ∧ (ok_push ((s_places n i l I J (v 5)).2.1) ((s_places n i l I J (v 5)).2.2.1) ((s_places n i l I J (v 5)).2.2.2.1) ((s_places n i l I J (v 5)).2.2.2.2) ((s_places n i l I J (v 5)).1) ∧ okl_groups n 157 (si_push ((s_places n i l I J (v 5)).2.1) ((s_places n i l I J (v 5)).2.2.1) ((s_places n i l I J (v 5)).2.2.2.1) ((s_places n i l I J (v 5)).2.2.2.2) ((s_places n i l I J (v 5)).1)) ((s_places n i l I J (v 5)).2.2.1) (sI_push ((s_places n i l I J (v 5)).2.1) ((s_places n i l I J (v 5)).2.2.1) ((s_places n i l I J (v 5)).2.2.2.1) ((s_places n i l I J (v 5)).2.2.2.2) ((s_places n i l I J (v 5)).1)) ((s_places n i l I J (v 5)).2.2.2.2) v w)) else (ok_fail (upd i 13 (v 3)) l I J (8 : Int32) (v 2) ∧ True)) else okl_groups n 157 i l I J v w) else (ok_number i l I J (v 1) (v 7) ∧ (ok_number i l I J (v 1) (v 4) ∧ (if mj_cnd .eq (lg_cmp (a_number i l I J (v 1) (v 7)) (a_number i l I J (v 1) (v 4))) (0 : Int32) = true then (if mj_cnd .gt (v 5) (0 : Int32) = true then (¬ ((v 5) < 0 ∨ 260 ≤ ((v 5)).toNatClampNeg) ∧ okl_groups n 109 i l (va_up I 14 (upd (I 14) ((v 5)).toNatClampNeg (v 7))) J (upd (upd v 5 ((v 5) + Int32.ofInt (1))) 6 (1 : Int32)) w) else (if mj_cnd .ne (v 7) (v 4) = true then (¬ ((v 5) < 0 ∨ 260 ≤ ((v 5)).toNatClampNeg) ∧ okl_groups n 109 i l (va_up I 14 (upd (I 14) ((v 5)).toNatClampNeg (v 7))) J (upd (upd v 5 ((v 5) + Int32.ofInt (1))) 6 (0 : Int32)) w) else (¬ ((v 5) < 0 ∨ 260 ≤ ((v 5)).toNatClampNeg) ∧ okl_groups n 109 i l (va_up I 14 (upd (I 14) ((v 5)).toNatClampNeg (v 7))) J (upd (upd v 5 ((v 5) + Int32.ofInt (1))) 6 (1 : Int32)) w))) else okl_groups n 109 i l I J v w)))))) := hok
      refine ms1 dm_groups_42 rfl rfl rfl rfl ?_
      refine ms1 dm_groups_44 rfl rfl rfl rfl ?_
      refine ms1 dm_groups_45 rfl rfl rfl rfl ?_
      obtain ⟨ho, hok⟩ := hok
      refine ms4 dm_groups_46 rfl (r_inv (As := [.int (v 1)]) hm h2 rfl rfl rfl) (q_many hm h2 ho) rfl rfl rfl ?_
      refine ms_2c dm_groups_49 rfl rfl (fun hb1 => ?_) (fun hb1 => ?_)
      · have hb1 : mj_cnd .ge (v 7) (a_many i l I J (v 1)) = true := hb1
        rw [if_pos hb1] at hok
        refine ms1 dm_groups_115 rfl rfl rfl rfl ?_
        refine ms_1c dm_groups_117 rfl rfl (fun hb2 => ?_) (fun hb2 => ?_)
        · have hb2 : mj_cnd .ne (v 6) (0 : Int32) = true := hb2
          rw [if_pos hb2] at hok
          refine ms1 dm_groups_123 rfl rfl rfl rfl ?_
          refine ms3 dm_groups_124 (r_get (v := .int (i 13)) hm h2 rfl (rg_13 _ _ _)) rfl rfl rfl ?_
          refine ms1 dm_groups_127 rfl rfl rfl rfl ?_
          refine ms0 dm_groups_128 rfl rfl rfl rfl ?_
          refine ms0 (S' := .int (24 : Int32) :: _) dm_groups_129 rfl rfl rfl rfl ?_
          refine ms_2c dm_groups_131 rfl rfl (fun hb3 => ?_) (fun hb3 => ?_)
          · have hb3 : mj_cnd .ne ((i 13) - (v 3)) (24 : Int32) = true := hb3
            rw [if_pos hb3] at hok
            refine ms1 dm_groups_147 rfl rfl rfl rfl ?_
            refine ms1 dm_groups_148 rfl rfl rfl rfl ?_
            refine ms1 dm_groups_149 rfl rfl rfl rfl ?_
            obtain ⟨ho, hok⟩ := hok
            refine ms4 dm_groups_151 rfl (r_inv (As := [.int (v 5)]) hm h2 rfl rfl rfl) (q_places hm h2 ho) rfl rfl rfl ?_
            obtain ⟨ho, hok⟩ := hok
            refine ms4 dm_groups_154 rfl (r_inv (As := [.int ((s_places n i l I J (v 5)).1)]) hm h2 rfl rfl rfl) (q_push hm h2 ho) rfl rfl rfl ?_
            have he : lp_groups (n + 1) 42 i l I J v w = lp_groups n 157 (si_push ((s_places n i l I J (v 5)).2.1) ((s_places n i l I J (v 5)).2.2.1) ((s_places n i l I J (v 5)).2.2.2.1) ((s_places n i l I J (v 5)).2.2.2.2) ((s_places n i l I J (v 5)).1)) ((s_places n i l I J (v 5)).2.2.1) (sI_push ((s_places n i l I J (v 5)).2.1) ((s_places n i l I J (v 5)).2.2.1) ((s_places n i l I J (v 5)).2.2.2.1) ((s_places n i l I J (v 5)).2.2.2.2) ((s_places n i l I J (v 5)).1)) ((s_places n i l I J (v 5)).2.2.2.2) v w := by
              rw [lb_groups_42]
              simp only [hb1, hb2, hb3, Bool.false_eq_true, if_true, if_false]
            rw [he]
            exact mjR_sub rfl rfl rfl (ih.2.2.2 _ _ _ _ _ _ hok)
          · have hb3 : ¬ (mj_cnd .ne ((i 13) - (v 3)) (24 : Int32) = true) := hb3
            rw [if_neg hb3] at hok
            refine ms1 dm_groups_134 rfl rfl rfl rfl ?_
            refine ms1 dm_groups_135 rfl rfl rfl rfl ?_
            refine ms3 dm_groups_136 (r_puti hm h2 rfl (rF_lt 13 rfl) (rf_13 _ _ _ _)) rfl rfl rfl ?_
            refine ms1 dm_groups_139 rfl rfl rfl rfl ?_
            refine ms0 (S' := .int (8 : Int32) :: _) dm_groups_140 rfl rfl rfl rfl ?_
            refine ms1 dm_groups_142 rfl rfl rfl rfl ?_
            obtain ⟨ho, hok⟩ := hok
            refine ms4 dm_groups_143 rfl (r_inv (As := [.int (8 : Int32), .int (v 2)]) hm h2 rfl rfl rfl) (q_fail hm h2 ho) rfl rfl rfl ?_
            have he : lp_groups (n + 1) 42 i l I J v w = ((a_fail (upd i 13 (v 3)) l I J (8 : Int32) (v 2)), (si_fail (upd i 13 (v 3)) l I J (8 : Int32) (v 2)), l, I, J) := by
              rw [lb_groups_42]
              simp only [hb1, hb2, hb3, Bool.false_eq_true, if_true, if_false]
            rw [he]
            exact ms5 dm_groups_146 rfl rfl rfl
        · have hb2 : ¬ (mj_cnd .ne (v 6) (0 : Int32) = true) := hb2
          rw [if_neg hb2] at hok
          refine ms2 dm_groups_120 rfl rfl rfl ?_
          have he : lp_groups (n + 1) 42 i l I J v w = lp_groups n 157 i l I J v w := by
            rw [lb_groups_42]
            simp only [hb1, hb2, Bool.false_eq_true, if_true, if_false]
          rw [he]
          exact mjR_sub rfl rfl rfl (ih.2.2.2 _ _ _ _ _ _ hok)
      · have hb1 : ¬ (mj_cnd .ge (v 7) (a_many i l I J (v 1)) = true) := hb1
        rw [if_neg hb1] at hok
        refine ms1 dm_groups_52 rfl rfl rfl rfl ?_
        refine ms_1c dm_groups_54 rfl rfl (fun hb4 => ?_) (fun hb4 => ?_)
        · have hb4 : mj_cnd .eq (v 6) (0 : Int32) = true := hb4
          rw [if_pos hb4] at hok
          refine ms1 dm_groups_115 rfl rfl rfl rfl ?_
          refine ms_1c dm_groups_117 rfl rfl (fun hb5 => ?_) (fun hb5 => ?_)
          · have hb5 : mj_cnd .ne (v 6) (0 : Int32) = true := hb5
            rw [if_pos hb5] at hok
            refine ms1 dm_groups_123 rfl rfl rfl rfl ?_
            refine ms3 dm_groups_124 (r_get (v := .int (i 13)) hm h2 rfl (rg_13 _ _ _)) rfl rfl rfl ?_
            refine ms1 dm_groups_127 rfl rfl rfl rfl ?_
            refine ms0 dm_groups_128 rfl rfl rfl rfl ?_
            refine ms0 (S' := .int (24 : Int32) :: _) dm_groups_129 rfl rfl rfl rfl ?_
            refine ms_2c dm_groups_131 rfl rfl (fun hb6 => ?_) (fun hb6 => ?_)
            · have hb6 : mj_cnd .ne ((i 13) - (v 3)) (24 : Int32) = true := hb6
              rw [if_pos hb6] at hok
              refine ms1 dm_groups_147 rfl rfl rfl rfl ?_
              refine ms1 dm_groups_148 rfl rfl rfl rfl ?_
              refine ms1 dm_groups_149 rfl rfl rfl rfl ?_
              obtain ⟨ho, hok⟩ := hok
              refine ms4 dm_groups_151 rfl (r_inv (As := [.int (v 5)]) hm h2 rfl rfl rfl) (q_places hm h2 ho) rfl rfl rfl ?_
              obtain ⟨ho, hok⟩ := hok
              refine ms4 dm_groups_154 rfl (r_inv (As := [.int ((s_places n i l I J (v 5)).1)]) hm h2 rfl rfl rfl) (q_push hm h2 ho) rfl rfl rfl ?_
              have he : lp_groups (n + 1) 42 i l I J v w = lp_groups n 157 (si_push ((s_places n i l I J (v 5)).2.1) ((s_places n i l I J (v 5)).2.2.1) ((s_places n i l I J (v 5)).2.2.2.1) ((s_places n i l I J (v 5)).2.2.2.2) ((s_places n i l I J (v 5)).1)) ((s_places n i l I J (v 5)).2.2.1) (sI_push ((s_places n i l I J (v 5)).2.1) ((s_places n i l I J (v 5)).2.2.1) ((s_places n i l I J (v 5)).2.2.2.1) ((s_places n i l I J (v 5)).2.2.2.2) ((s_places n i l I J (v 5)).1)) ((s_places n i l I J (v 5)).2.2.2.2) v w := by
                rw [lb_groups_42]
                simp only [hb1, hb4, hb5, hb6, Bool.false_eq_true, if_true, if_false]
              rw [he]
              exact mjR_sub rfl rfl rfl (ih.2.2.2 _ _ _ _ _ _ hok)
            · have hb6 : ¬ (mj_cnd .ne ((i 13) - (v 3)) (24 : Int32) = true) := hb6
              rw [if_neg hb6] at hok
              refine ms1 dm_groups_134 rfl rfl rfl rfl ?_
              refine ms1 dm_groups_135 rfl rfl rfl rfl ?_
              refine ms3 dm_groups_136 (r_puti hm h2 rfl (rF_lt 13 rfl) (rf_13 _ _ _ _)) rfl rfl rfl ?_
              refine ms1 dm_groups_139 rfl rfl rfl rfl ?_
              refine ms0 (S' := .int (8 : Int32) :: _) dm_groups_140 rfl rfl rfl rfl ?_
              refine ms1 dm_groups_142 rfl rfl rfl rfl ?_
              obtain ⟨ho, hok⟩ := hok
              refine ms4 dm_groups_143 rfl (r_inv (As := [.int (8 : Int32), .int (v 2)]) hm h2 rfl rfl rfl) (q_fail hm h2 ho) rfl rfl rfl ?_
              have he : lp_groups (n + 1) 42 i l I J v w = ((a_fail (upd i 13 (v 3)) l I J (8 : Int32) (v 2)), (si_fail (upd i 13 (v 3)) l I J (8 : Int32) (v 2)), l, I, J) := by
                rw [lb_groups_42]
                simp only [hb1, hb4, hb5, hb6, Bool.false_eq_true, if_true, if_false]
              rw [he]
              exact ms5 dm_groups_146 rfl rfl rfl
          · have hb5 : ¬ (mj_cnd .ne (v 6) (0 : Int32) = true) := hb5
            rw [if_neg hb5] at hok
            refine ms2 dm_groups_120 rfl rfl rfl ?_
            have he : lp_groups (n + 1) 42 i l I J v w = lp_groups n 157 i l I J v w := by
              rw [lb_groups_42]
              simp only [hb1, hb4, hb5, Bool.false_eq_true, if_true, if_false]
            rw [he]
            exact mjR_sub rfl rfl rfl (ih.2.2.2 _ _ _ _ _ _ hok)
        · have hb4 : ¬ (mj_cnd .eq (v 6) (0 : Int32) = true) := hb4
          rw [if_neg hb4] at hok
          refine ms1 dm_groups_57 rfl rfl rfl rfl ?_
          refine ms1 dm_groups_58 rfl rfl rfl rfl ?_
          refine ms1 dm_groups_59 rfl rfl rfl rfl ?_
          obtain ⟨ho, hok⟩ := hok
          refine ms4 dm_groups_61 rfl (r_inv (As := [.int (v 1), .int (v 7)]) hm h2 rfl rfl rfl) (q_number hm h2 ho) rfl rfl rfl ?_
          refine ms1 dm_groups_64 rfl rfl rfl rfl ?_
          refine ms1 dm_groups_65 rfl rfl rfl rfl ?_
          refine ms1 dm_groups_66 rfl rfl rfl rfl ?_
          obtain ⟨ho, hok⟩ := hok
          refine ms4 dm_groups_68 rfl (r_inv (As := [.int (v 1), .int (v 4)]) hm h2 rfl rfl rfl) (q_number hm h2 ho) rfl rfl rfl ?_
          refine ms0 dm_groups_71 rfl rfl rfl rfl ?_
          refine ms_1c dm_groups_72 rfl rfl (fun hb7 => ?_) (fun hb7 => ?_)
          · have hb7 : mj_cnd .eq (lg_cmp (a_number i l I J (v 1) (v 7)) (a_number i l I J (v 1) (v 4))) (0 : Int32) = true := hb7
            rw [if_pos hb7] at hok
            refine ms1 dm_groups_78 rfl rfl rfl rfl ?_
            refine ms_1c dm_groups_80 rfl rfl (fun hb8 => ?_) (fun hb8 => ?_)
            · have hb8 : mj_cnd .gt (v 5) (0 : Int32) = true := hb8
              rw [if_pos hb8] at hok
              refine ms0 (S' := .int (1 : Int32) :: _) dm_groups_90 rfl rfl rfl rfl ?_
              refine ms2 dm_groups_91 rfl rfl rfl ?_
              refine ms1 dm_groups_95 rfl rfl rfl rfl ?_
              refine ms1 dm_groups_97 rfl rfl rfl rfl ?_
              refine ms3 dm_groups_98 (r_get hm h2 rfl (rg_14 _ _ _)) rfl rfl rfl ?_
              refine ms1 dm_groups_101 rfl rfl rfl rfl ?_
              refine ms1 dm_groups_103 rfl rfl rfl rfl ?_
              obtain ⟨ho, hok⟩ := hok
              refine ms3 dm_groups_105 (r_iastk (k := 14) hm h2 (rc_14 _ _ _ _ _) rfl ho (rs_14 _ _ _ _ _ _)) rfl rfl rfl ?_
              refine ms1 dm_groups_106 rfl rfl rfl rfl ?_
              have he : lp_groups (n + 1) 42 i l I J v w = lp_groups n 109 i l (va_up I 14 (upd (I 14) ((v 5)).toNatClampNeg (v 7))) J (upd (upd v 5 ((v 5) + Int32.ofInt (1))) 6 (1 : Int32)) w := by
                rw [lb_groups_42]
                simp only [hb1, hb4, hb7, hb8, Bool.false_eq_true, if_true, if_false]
              rw [he]
              exact mjR_sub rfl rfl rfl (ih.2.2.1 _ _ _ _ _ _ hok)
            · have hb8 : ¬ (mj_cnd .gt (v 5) (0 : Int32) = true) := hb8
              rw [if_neg hb8] at hok
              refine ms1 dm_groups_83 rfl rfl rfl rfl ?_
              refine ms1 dm_groups_85 rfl rfl rfl rfl ?_
              refine ms_2c dm_groups_87 rfl rfl (fun hb9 => ?_) (fun hb9 => ?_)
              · have hb9 : mj_cnd .ne (v 7) (v 4) = true := hb9
                rw [if_pos hb9] at hok
                refine ms0 (S' := .int (0 : Int32) :: _) dm_groups_94 rfl rfl rfl rfl ?_
                refine ms1 dm_groups_95 rfl rfl rfl rfl ?_
                refine ms1 dm_groups_97 rfl rfl rfl rfl ?_
                refine ms3 dm_groups_98 (r_get hm h2 rfl (rg_14 _ _ _)) rfl rfl rfl ?_
                refine ms1 dm_groups_101 rfl rfl rfl rfl ?_
                refine ms1 dm_groups_103 rfl rfl rfl rfl ?_
                obtain ⟨ho, hok⟩ := hok
                refine ms3 dm_groups_105 (r_iastk (k := 14) hm h2 (rc_14 _ _ _ _ _) rfl ho (rs_14 _ _ _ _ _ _)) rfl rfl rfl ?_
                refine ms1 dm_groups_106 rfl rfl rfl rfl ?_
                have he : lp_groups (n + 1) 42 i l I J v w = lp_groups n 109 i l (va_up I 14 (upd (I 14) ((v 5)).toNatClampNeg (v 7))) J (upd (upd v 5 ((v 5) + Int32.ofInt (1))) 6 (0 : Int32)) w := by
                  rw [lb_groups_42]
                  simp only [hb1, hb4, hb7, hb8, hb9, Bool.false_eq_true, if_true, if_false]
                rw [he]
                exact mjR_sub rfl rfl rfl (ih.2.2.1 _ _ _ _ _ _ hok)
              · have hb9 : ¬ (mj_cnd .ne (v 7) (v 4) = true) := hb9
                rw [if_neg hb9] at hok
                refine ms0 (S' := .int (1 : Int32) :: _) dm_groups_90 rfl rfl rfl rfl ?_
                refine ms2 dm_groups_91 rfl rfl rfl ?_
                refine ms1 dm_groups_95 rfl rfl rfl rfl ?_
                refine ms1 dm_groups_97 rfl rfl rfl rfl ?_
                refine ms3 dm_groups_98 (r_get hm h2 rfl (rg_14 _ _ _)) rfl rfl rfl ?_
                refine ms1 dm_groups_101 rfl rfl rfl rfl ?_
                refine ms1 dm_groups_103 rfl rfl rfl rfl ?_
                obtain ⟨ho, hok⟩ := hok
                refine ms3 dm_groups_105 (r_iastk (k := 14) hm h2 (rc_14 _ _ _ _ _) rfl ho (rs_14 _ _ _ _ _ _)) rfl rfl rfl ?_
                refine ms1 dm_groups_106 rfl rfl rfl rfl ?_
                have he : lp_groups (n + 1) 42 i l I J v w = lp_groups n 109 i l (va_up I 14 (upd (I 14) ((v 5)).toNatClampNeg (v 7))) J (upd (upd v 5 ((v 5) + Int32.ofInt (1))) 6 (1 : Int32)) w := by
                  rw [lb_groups_42]
                  simp only [hb1, hb4, hb7, hb8, hb9, Bool.false_eq_true, if_true, if_false]
                rw [he]
                exact mjR_sub rfl rfl rfl (ih.2.2.1 _ _ _ _ _ _ hok)
          · have hb7 : ¬ (mj_cnd .eq (lg_cmp (a_number i l I J (v 1) (v 7)) (a_number i l I J (v 1) (v 4))) (0 : Int32) = true) := hb7
            rw [if_neg hb7] at hok
            refine ms2 dm_groups_75 rfl rfl rfl ?_
            have he : lp_groups (n + 1) 42 i l I J v w = lp_groups n 109 i l I J v w := by
              rw [lb_groups_42]
              simp only [hb1, hb4, hb7, Bool.false_eq_true, if_true, if_false]
            rw [he]
            exact mjR_sub rfl rfl rfl (ih.2.2.1 _ _ _ _ _ _ hok)
    · intro i l I J v w hok
      have hok : okl_groups n 42 i l I J (upd v 7 ((v 7) + Int32.ofInt (1))) w := hok
      refine ms1 dm_groups_109 rfl rfl rfl rfl ?_
      refine ms2 dm_groups_112 rfl rfl rfl ?_
      have he : lp_groups (n + 1) 109 i l I J v w = lp_groups n 42 i l I J (upd v 7 ((v 7) + Int32.ofInt (1))) w := by
        rw [lb_groups_109]
      rw [he]
      exact mjR_sub rfl rfl rfl (ih.2.1 _ _ _ _ _ _ hok)
    · intro i l I J v w hok
      have hok : okl_groups n 23 i l I J (upd v 4 ((v 4) + Int32.ofInt (1))) w := hok
      refine ms1 dm_groups_157 rfl rfl rfl rfl ?_
      refine ms2 dm_groups_160 rfl rfl rfl ?_
      have he : lp_groups (n + 1) 157 i l I J v w = lp_groups n 23 i l I J (upd v 4 ((v 4) + Int32.ofInt (1))) w := by
        rw [lb_groups_157]
      rw [he]
      exact mjR_sub rfl rfl rfl (ih.1 _ _ _ _ _ _ hok)
set_option maxRecDepth 20000 in
theorem q_groups {xt : mj_X} {pre post : mj_H} {m : Nat} {i : Nat → Int32} {l : Nat → Int64} {I : Nat → Nat → Int32} {J : Nat → Nat → Int64} {d : Nat} (hm : pre.length = m) (h2 : 2 ≤ m) {p0 : Int32} {p1 : Int32} {n : Nat} (hok : ok_groups n i l I J p0 p1) : pgC xt (d + 5) k_groups (.ref m :: [.int p0, .int p1]) (rH pre post m i l I J) (some (.int (s_groups n i l I J p0 p1).1)) (rH pre post m (s_groups n i l I J p0 p1).2.1 (s_groups n i l I J p0 p1).2.2.1 (s_groups n i l I J p0 p1).2.2.2.1 (s_groups n i l I J p0 p1).2.2.2.2) := by
  unfold ok_groups at hok
  refine ms_call pm_groups (Nat.le_of_ble_eq_true rfl) ?_
  dsimp only
  refine ms1 dm_groups_0 rfl rfl rfl rfl ?_
  refine ms1 dm_groups_1 rfl rfl rfl rfl ?_
  obtain ⟨ho, hok⟩ := hok
  refine ms4 dm_groups_2 rfl (r_inv (As := [.int p0]) hm h2 rfl rfl rfl) (q_isRow hm h2 ho) rfl rfl rfl ?_
  refine ms_1c dm_groups_5 rfl rfl (fun hb1 => ?_) (fun hb1 => ?_)
  · have hb1 : mj_cnd .ne (a_isRow i l I J p0) (0 : Int32) = true := hb1
    rw [if_pos hb1] at hok
    refine ms1 dm_groups_15 rfl rfl rfl rfl ?_
    refine ms3 dm_groups_16 (r_get (v := .int (i 13)) hm h2 rfl (rg_13 _ _ _)) rfl rfl rfl ?_
    refine ms1 dm_groups_19 rfl rfl rfl rfl ?_
    refine ms0 (S' := .int (0 : Int32) :: _) dm_groups_20 rfl rfl rfl rfl ?_
    refine ms1 dm_groups_21 rfl rfl rfl rfl ?_
    have he : s_groups n i l I J p0 p1 = lp_groups n 23 i l I J (upd (upd (upd (upd (fun _ => 0) 1 p0) 2 p1) 3 (i 13)) 4 (0 : Int32)) (fun _ => 0) := by
      unfold s_groups
      simp only [hb1, Bool.false_eq_true, if_true, if_false]
    rw [he]
    exact mjR_sub rfl rfl rfl ((ql_groups hm h2 n).1 _ _ _ _ _ _ hok)
  · have hb1 : ¬ (mj_cnd .ne (a_isRow i l I J p0) (0 : Int32) = true) := hb1
    rw [if_neg hb1] at hok
    refine ms1 dm_groups_8 rfl rfl rfl rfl ?_
    refine ms0 (S' := .int (3 : Int32) :: _) dm_groups_9 rfl rfl rfl rfl ?_
    refine ms1 dm_groups_10 rfl rfl rfl rfl ?_
    obtain ⟨ho, hok⟩ := hok
    refine ms4 dm_groups_11 rfl (r_inv (As := [.int (3 : Int32), .int p1]) hm h2 rfl rfl rfl) (q_fail hm h2 ho) rfl rfl rfl ?_
    have he : s_groups n i l I J p0 p1 = ((a_fail i l I J (3 : Int32) p1), (si_fail i l I J (3 : Int32) p1), l, I, J) := by
      unfold s_groups
      simp only [hb1, Bool.false_eq_true, if_true, if_false]
    rw [he]
    exact ms5 dm_groups_14 rfl rfl rfl
def k_oneMore : Nat := 286
set_option maxRecDepth 20000 in
theorem pm_oneMore : mj_mmof pg_ms k_oneMore = some ((⟨"ArrayCalculatorModel", "oneMore", "(I)I"⟩, prog_14_method_40_code, 3, (Option.some Jvm.ClassFile.FieldType.int)), 12, false, mj_dec prog_14_method_40_code) := rfl
theorem dm_oneMore_0 : mj_dec prog_14_method_40_code 0 = some (.aload_n 0, 1) := by decide +kernel
theorem dm_oneMore_1 : mj_dec prog_14_method_40_code 1 = some (.aload_n 0, 1) := by decide +kernel
theorem dm_oneMore_2 : mj_dec prog_14_method_40_code 2 = some (.iload_n 1, 1) := by decide +kernel
theorem dm_oneMore_3 : mj_dec prog_14_method_40_code 3 = some (.invokevirtual 146, 3) := by decide +kernel
theorem dm_oneMore_6 : mj_dec prog_14_method_40_code 6 = some (.ifCond .ne 7, 3) := by decide +kernel
theorem dm_oneMore_9 : mj_dec prog_14_method_40_code 9 = some (.iconst 5, 1) := by decide +kernel
theorem dm_oneMore_10 : mj_dec prog_14_method_40_code 10 = some (.goto 18, 3) := by decide +kernel
theorem dm_oneMore_13 : mj_dec prog_14_method_40_code 13 = some (.aload_n 0, 1) := by decide +kernel
theorem dm_oneMore_14 : mj_dec prog_14_method_40_code 14 = some (.iload_n 1, 1) := by decide +kernel
theorem dm_oneMore_15 : mj_dec prog_14_method_40_code 15 = some (.invokevirtual 146, 3) := by decide +kernel
theorem dm_oneMore_18 : mj_dec prog_14_method_40_code 18 = some (.iconst 1, 1) := by decide +kernel
theorem dm_oneMore_19 : mj_dec prog_14_method_40_code 19 = some (.if_icmp .ne 7, 3) := by decide +kernel
theorem dm_oneMore_22 : mj_dec prog_14_method_40_code 22 = some (.iconst 3, 1) := by decide +kernel
theorem dm_oneMore_23 : mj_dec prog_14_method_40_code 23 = some (.goto 5, 3) := by decide +kernel
theorem dm_oneMore_26 : mj_dec prog_14_method_40_code 26 = some (.bipush 7, 2) := by decide +kernel
theorem dm_oneMore_28 : mj_dec prog_14_method_40_code 28 = some (.iconst 1, 1) := by decide +kernel
theorem dm_oneMore_29 : mj_dec prog_14_method_40_code 29 = some (.invokevirtual 126, 3) := by decide +kernel
theorem dm_oneMore_32 : mj_dec prog_14_method_40_code 32 = some (.istore_n 2, 1) := by decide +kernel
theorem dm_oneMore_33 : mj_dec prog_14_method_40_code 33 = some (.aload_n 0, 1) := by decide +kernel
theorem dm_oneMore_34 : mj_dec prog_14_method_40_code 34 = some (.getfield 8, 3) := by decide +kernel
theorem dm_oneMore_37 : mj_dec prog_14_method_40_code 37 = some (.aload_n 0, 1) := by decide +kernel
theorem dm_oneMore_38 : mj_dec prog_14_method_40_code 38 = some (.getfield 15, 3) := by decide +kernel
theorem dm_oneMore_41 : mj_dec prog_14_method_40_code 41 = some (.iload_n 2, 1) := by decide +kernel
theorem dm_oneMore_42 : mj_dec prog_14_method_40_code 42 = some (.iaload, 1) := by decide +kernel
theorem dm_oneMore_43 : mj_dec prog_14_method_40_code 43 = some (.aload_n 0, 1) := by decide +kernel
theorem dm_oneMore_44 : mj_dec prog_14_method_40_code 44 = some (.iload_n 1, 1) := by decide +kernel
theorem dm_oneMore_45 : mj_dec prog_14_method_40_code 45 = some (.invokevirtual 162, 3) := by decide +kernel
theorem dm_oneMore_48 : mj_dec prog_14_method_40_code 48 = some (.ifCond .eq 12, 3) := by decide +kernel
theorem dm_oneMore_51 : mj_dec prog_14_method_40_code 51 = some (.aload_n 0, 1) := by decide +kernel
theorem dm_oneMore_52 : mj_dec prog_14_method_40_code 52 = some (.iload_n 1, 1) := by decide +kernel
theorem dm_oneMore_53 : mj_dec prog_14_method_40_code 53 = some (.iconst 0, 1) := by decide +kernel
theorem dm_oneMore_54 : mj_dec prog_14_method_40_code 54 = some (.invokevirtual 138, 3) := by decide +kernel
theorem dm_oneMore_57 : mj_dec prog_14_method_40_code 57 = some (.goto 5, 3) := by decide +kernel
theorem dm_oneMore_60 : mj_dec prog_14_method_40_code 60 = some (.iload_n 1, 1) := by decide +kernel
theorem dm_oneMore_61 : mj_dec prog_14_method_40_code 61 = some (.i2l, 1) := by decide +kernel
theorem dm_oneMore_62 : mj_dec prog_14_method_40_code 62 = some (.lastore, 1) := by decide +kernel
theorem dm_oneMore_63 : mj_dec prog_14_method_40_code 63 = some (.aload_n 0, 1) := by decide +kernel
theorem dm_oneMore_64 : mj_dec prog_14_method_40_code 64 = some (.iload_n 2, 1) := by decide +kernel
theorem dm_oneMore_65 : mj_dec prog_14_method_40_code 65 = some (.invokevirtual 146, 3) := by decide +kernel
theorem dm_oneMore_68 : mj_dec prog_14_method_40_code 68 = some (.iconst 5, 1) := by decide +kernel
theorem dm_oneMore_69 : mj_dec prog_14_method_40_code 69 = some (.if_icmp .ne 11, 3) := by decide +kernel
theorem dm_oneMore_72 : mj_dec prog_14_method_40_code 72 = some (.aload_n 0, 1) := by decide +kernel
theorem dm_oneMore_73 : mj_dec prog_14_method_40_code 73 = some (.iload_n 2, 1) := by decide +kernel
theorem dm_oneMore_74 : mj_dec prog_14_method_40_code 74 = some (.invokevirtual 205, 3) := by decide +kernel
theorem dm_oneMore_77 : mj_dec prog_14_method_40_code 77 = some (.goto 4, 3) := by decide +kernel
theorem dm_oneMore_80 : mj_dec prog_14_method_40_code 80 = some (.iload_n 2, 1) := by decide +kernel
theorem dm_oneMore_81 : mj_dec prog_14_method_40_code 81 = some (.ireturn, 1) := by decide +kernel
def lp_oneMore : Nat → Nat → (Nat → Int32) → (Nat → Int64) → (Nat → Nat → Int32) → (Nat → Nat → Int64) → (Nat → Int32) → (Nat → Int64) → Int32 × (Nat → Int32) × (Nat → Int64) × (Nat → Nat → Int32) × (Nat → Nat → Int64)
  | 0, _, i, l, I, J, _, _ => (0, i, l, I, J)
  | n + 1, hd, i, l, I, J, v, w => match hd with
    | 63 => (if mj_cnd .ne (a_kindOf i l I J (v 2)) (5 : Int32) = true then ((v 2), i, l, I, J) else (((s_settled n i l I J (v 2)).1), ((s_settled n i l I J (v 2)).2.1), ((s_settled n i l I J (v 2)).2.2.1), ((s_settled n i l I J (v 2)).2.2.2.1), ((s_settled n i l I J (v 2)).2.2.2.2)))
    | _ => (0, i, l, I, J)
theorem lb_oneMore_63 (n : Nat) (i : Nat → Int32) (l : Nat → Int64) (I : Nat → Nat → Int32) (J : Nat → Nat → Int64) (v : Nat → Int32) (w : Nat → Int64) : lp_oneMore (n + 1) 63 i l I J v w = (if mj_cnd .ne (a_kindOf i l I J (v 2)) (5 : Int32) = true then ((v 2), i, l, I, J) else (((s_settled n i l I J (v 2)).1), ((s_settled n i l I J (v 2)).2.1), ((s_settled n i l I J (v 2)).2.2.1), ((s_settled n i l I J (v 2)).2.2.2.1), ((s_settled n i l I J (v 2)).2.2.2.2))) := rfl
def okl_oneMore : Nat → Nat → (Nat → Int32) → (Nat → Int64) → (Nat → Nat → Int32) → (Nat → Nat → Int64) → (Nat → Int32) → (Nat → Int64) → Prop
  | 0, _, _, _, _, _, _, _ => False
  | n + 1, hd, i, l, I, J, v, w => match hd with
    | 63 => (ok_kindOf i l I J (v 2) ∧ (if mj_cnd .ne (a_kindOf i l I J (v 2)) (5 : Int32) = true then True else (ok_settled n i l I J (v 2) ∧ True)))
    | _ => False
def s_oneMore (n : Nat) (i : Nat → Int32) (l : Nat → Int64) (I : Nat → Nat → Int32) (J : Nat → Nat → Int64) (p0 : Int32) : Int32 × (Nat → Int32) × (Nat → Int64) × (Nat → Nat → Int32) × (Nat → Nat → Int64) := (if mj_cnd .ne (a_kindOf i l I J p0) (0 : Int32) = true then (if mj_cnd .ne (a_kindOf i l I J p0) (1 : Int32) = true then (if mj_cnd .eq (a_isOne (si_row i l I J (7 : Int32) (1 : Int32)) l (sI_row i l I J (7 : Int32) (1 : Int32)) J p0) (0 : Int32) = true then lp_oneMore n 63 (si_row i l I J (7 : Int32) (1 : Int32)) l (sI_row i l I J (7 : Int32) (1 : Int32)) (va_up J 0 (vp_updL (J 0) (((sI_row i l I J (7 : Int32) (1 : Int32)) 1 ((a_row i l I J (7 : Int32) (1 : Int32))).toNatClampNeg)).toNatClampNeg (p0).toInt64)) (upd (fun _ => 0) 2 (a_row i l I J (7 : Int32) (1 : Int32))) (fun _ => 0) else lp_oneMore n 63 (si_row i l I J (7 : Int32) (1 : Int32)) l (sI_row i l I J (7 : Int32) (1 : Int32)) (va_up J 0 (vp_updL (J 0) (((sI_row i l I J (7 : Int32) (1 : Int32)) 1 ((a_row i l I J (7 : Int32) (1 : Int32))).toNatClampNeg)).toNatClampNeg (a_number (si_row i l I J (7 : Int32) (1 : Int32)) l (sI_row i l I J (7 : Int32) (1 : Int32)) J p0 (0 : Int32)))) (upd (fun _ => 0) 2 (a_row i l I J (7 : Int32) (1 : Int32))) (fun _ => 0)) else (if mj_cnd .eq (a_isOne (si_row i l I J (3 : Int32) (1 : Int32)) l (sI_row i l I J (3 : Int32) (1 : Int32)) J p0) (0 : Int32) = true then lp_oneMore n 63 (si_row i l I J (3 : Int32) (1 : Int32)) l (sI_row i l I J (3 : Int32) (1 : Int32)) (va_up J 0 (vp_updL (J 0) (((sI_row i l I J (3 : Int32) (1 : Int32)) 1 ((a_row i l I J (3 : Int32) (1 : Int32))).toNatClampNeg)).toNatClampNeg (p0).toInt64)) (upd (fun _ => 0) 2 (a_row i l I J (3 : Int32) (1 : Int32))) (fun _ => 0) else lp_oneMore n 63 (si_row i l I J (3 : Int32) (1 : Int32)) l (sI_row i l I J (3 : Int32) (1 : Int32)) (va_up J 0 (vp_updL (J 0) (((sI_row i l I J (3 : Int32) (1 : Int32)) 1 ((a_row i l I J (3 : Int32) (1 : Int32))).toNatClampNeg)).toNatClampNeg (a_number (si_row i l I J (3 : Int32) (1 : Int32)) l (sI_row i l I J (3 : Int32) (1 : Int32)) J p0 (0 : Int32)))) (upd (fun _ => 0) 2 (a_row i l I J (3 : Int32) (1 : Int32))) (fun _ => 0))) else (if mj_cnd .eq (a_isOne (si_row i l I J (5 : Int32) (1 : Int32)) l (sI_row i l I J (5 : Int32) (1 : Int32)) J p0) (0 : Int32) = true then lp_oneMore n 63 (si_row i l I J (5 : Int32) (1 : Int32)) l (sI_row i l I J (5 : Int32) (1 : Int32)) (va_up J 0 (vp_updL (J 0) (((sI_row i l I J (5 : Int32) (1 : Int32)) 1 ((a_row i l I J (5 : Int32) (1 : Int32))).toNatClampNeg)).toNatClampNeg (p0).toInt64)) (upd (fun _ => 0) 2 (a_row i l I J (5 : Int32) (1 : Int32))) (fun _ => 0) else lp_oneMore n 63 (si_row i l I J (5 : Int32) (1 : Int32)) l (sI_row i l I J (5 : Int32) (1 : Int32)) (va_up J 0 (vp_updL (J 0) (((sI_row i l I J (5 : Int32) (1 : Int32)) 1 ((a_row i l I J (5 : Int32) (1 : Int32))).toNatClampNeg)).toNatClampNeg (a_number (si_row i l I J (5 : Int32) (1 : Int32)) l (sI_row i l I J (5 : Int32) (1 : Int32)) J p0 (0 : Int32)))) (upd (fun _ => 0) 2 (a_row i l I J (5 : Int32) (1 : Int32))) (fun _ => 0)))
def ok_oneMore (n : Nat) (i : Nat → Int32) (l : Nat → Int64) (I : Nat → Nat → Int32) (J : Nat → Nat → Int64) (p0 : Int32) : Prop := (ok_kindOf i l I J p0 ∧ (if mj_cnd .ne (a_kindOf i l I J p0) (0 : Int32) = true then (ok_kindOf i l I J p0 ∧ (if mj_cnd .ne (a_kindOf i l I J p0) (1 : Int32) = true then (ok_row i l I J (7 : Int32) (1 : Int32) ∧ (¬ ((a_row i l I J (7 : Int32) (1 : Int32)) < 0 ∨ 310000 ≤ ((a_row i l I J (7 : Int32) (1 : Int32))).toNatClampNeg) ∧ (ok_isOne (si_row i l I J (7 : Int32) (1 : Int32)) l (sI_row i l I J (7 : Int32) (1 : Int32)) J p0 ∧ (if mj_cnd .eq (a_isOne (si_row i l I J (7 : Int32) (1 : Int32)) l (sI_row i l I J (7 : Int32) (1 : Int32)) J p0) (0 : Int32) = true then (¬ (((sI_row i l I J (7 : Int32) (1 : Int32)) 1 ((a_row i l I J (7 : Int32) (1 : Int32))).toNatClampNeg) < 0 ∨ 820000 ≤ (((sI_row i l I J (7 : Int32) (1 : Int32)) 1 ((a_row i l I J (7 : Int32) (1 : Int32))).toNatClampNeg)).toNatClampNeg) ∧ okl_oneMore n 63 (si_row i l I J (7 : Int32) (1 : Int32)) l (sI_row i l I J (7 : Int32) (1 : Int32)) (va_up J 0 (vp_updL (J 0) (((sI_row i l I J (7 : Int32) (1 : Int32)) 1 ((a_row i l I J (7 : Int32) (1 : Int32))).toNatClampNeg)).toNatClampNeg (p0).toInt64)) (upd (fun _ => 0) 2 (a_row i l I J (7 : Int32) (1 : Int32))) (fun _ => 0)) else (ok_number (si_row i l I J (7 : Int32) (1 : Int32)) l (sI_row i l I J (7 : Int32) (1 : Int32)) J p0 (0 : Int32) ∧ (¬ (((sI_row i l I J (7 : Int32) (1 : Int32)) 1 ((a_row i l I J (7 : Int32) (1 : Int32))).toNatClampNeg) < 0 ∨ 820000 ≤ (((sI_row i l I J (7 : Int32) (1 : Int32)) 1 ((a_row i l I J (7 : Int32) (1 : Int32))).toNatClampNeg)).toNatClampNeg) ∧ okl_oneMore n 63 (si_row i l I J (7 : Int32) (1 : Int32)) l (sI_row i l I J (7 : Int32) (1 : Int32)) (va_up J 0 (vp_updL (J 0) (((sI_row i l I J (7 : Int32) (1 : Int32)) 1 ((a_row i l I J (7 : Int32) (1 : Int32))).toNatClampNeg)).toNatClampNeg (a_number (si_row i l I J (7 : Int32) (1 : Int32)) l (sI_row i l I J (7 : Int32) (1 : Int32)) J p0 (0 : Int32)))) (upd (fun _ => 0) 2 (a_row i l I J (7 : Int32) (1 : Int32))) (fun _ => 0))))))) else (ok_row i l I J (3 : Int32) (1 : Int32) ∧ (¬ ((a_row i l I J (3 : Int32) (1 : Int32)) < 0 ∨ 310000 ≤ ((a_row i l I J (3 : Int32) (1 : Int32))).toNatClampNeg) ∧ (ok_isOne (si_row i l I J (3 : Int32) (1 : Int32)) l (sI_row i l I J (3 : Int32) (1 : Int32)) J p0 ∧ (if mj_cnd .eq (a_isOne (si_row i l I J (3 : Int32) (1 : Int32)) l (sI_row i l I J (3 : Int32) (1 : Int32)) J p0) (0 : Int32) = true then (¬ (((sI_row i l I J (3 : Int32) (1 : Int32)) 1 ((a_row i l I J (3 : Int32) (1 : Int32))).toNatClampNeg) < 0 ∨ 820000 ≤ (((sI_row i l I J (3 : Int32) (1 : Int32)) 1 ((a_row i l I J (3 : Int32) (1 : Int32))).toNatClampNeg)).toNatClampNeg) ∧ okl_oneMore n 63 (si_row i l I J (3 : Int32) (1 : Int32)) l (sI_row i l I J (3 : Int32) (1 : Int32)) (va_up J 0 (vp_updL (J 0) (((sI_row i l I J (3 : Int32) (1 : Int32)) 1 ((a_row i l I J (3 : Int32) (1 : Int32))).toNatClampNeg)).toNatClampNeg (p0).toInt64)) (upd (fun _ => 0) 2 (a_row i l I J (3 : Int32) (1 : Int32))) (fun _ => 0)) else (ok_number (si_row i l I J (3 : Int32) (1 : Int32)) l (sI_row i l I J (3 : Int32) (1 : Int32)) J p0 (0 : Int32) ∧ (¬ (((sI_row i l I J (3 : Int32) (1 : Int32)) 1 ((a_row i l I J (3 : Int32) (1 : Int32))).toNatClampNeg) < 0 ∨ 820000 ≤ (((sI_row i l I J (3 : Int32) (1 : Int32)) 1 ((a_row i l I J (3 : Int32) (1 : Int32))).toNatClampNeg)).toNatClampNeg) ∧ okl_oneMore n 63 (si_row i l I J (3 : Int32) (1 : Int32)) l (sI_row i l I J (3 : Int32) (1 : Int32)) (va_up J 0 (vp_updL (J 0) (((sI_row i l I J (3 : Int32) (1 : Int32)) 1 ((a_row i l I J (3 : Int32) (1 : Int32))).toNatClampNeg)).toNatClampNeg (a_number (si_row i l I J (3 : Int32) (1 : Int32)) l (sI_row i l I J (3 : Int32) (1 : Int32)) J p0 (0 : Int32)))) (upd (fun _ => 0) 2 (a_row i l I J (3 : Int32) (1 : Int32))) (fun _ => 0))))))))) else (ok_row i l I J (5 : Int32) (1 : Int32) ∧ (¬ ((a_row i l I J (5 : Int32) (1 : Int32)) < 0 ∨ 310000 ≤ ((a_row i l I J (5 : Int32) (1 : Int32))).toNatClampNeg) ∧ (ok_isOne (si_row i l I J (5 : Int32) (1 : Int32)) l (sI_row i l I J (5 : Int32) (1 : Int32)) J p0 ∧ (if mj_cnd .eq (a_isOne (si_row i l I J (5 : Int32) (1 : Int32)) l (sI_row i l I J (5 : Int32) (1 : Int32)) J p0) (0 : Int32) = true then (¬ (((sI_row i l I J (5 : Int32) (1 : Int32)) 1 ((a_row i l I J (5 : Int32) (1 : Int32))).toNatClampNeg) < 0 ∨ 820000 ≤ (((sI_row i l I J (5 : Int32) (1 : Int32)) 1 ((a_row i l I J (5 : Int32) (1 : Int32))).toNatClampNeg)).toNatClampNeg) ∧ okl_oneMore n 63 (si_row i l I J (5 : Int32) (1 : Int32)) l (sI_row i l I J (5 : Int32) (1 : Int32)) (va_up J 0 (vp_updL (J 0) (((sI_row i l I J (5 : Int32) (1 : Int32)) 1 ((a_row i l I J (5 : Int32) (1 : Int32))).toNatClampNeg)).toNatClampNeg (p0).toInt64)) (upd (fun _ => 0) 2 (a_row i l I J (5 : Int32) (1 : Int32))) (fun _ => 0)) else (ok_number (si_row i l I J (5 : Int32) (1 : Int32)) l (sI_row i l I J (5 : Int32) (1 : Int32)) J p0 (0 : Int32) ∧ (¬ (((sI_row i l I J (5 : Int32) (1 : Int32)) 1 ((a_row i l I J (5 : Int32) (1 : Int32))).toNatClampNeg) < 0 ∨ 820000 ≤ (((sI_row i l I J (5 : Int32) (1 : Int32)) 1 ((a_row i l I J (5 : Int32) (1 : Int32))).toNatClampNeg)).toNatClampNeg) ∧ okl_oneMore n 63 (si_row i l I J (5 : Int32) (1 : Int32)) l (sI_row i l I J (5 : Int32) (1 : Int32)) (va_up J 0 (vp_updL (J 0) (((sI_row i l I J (5 : Int32) (1 : Int32)) 1 ((a_row i l I J (5 : Int32) (1 : Int32))).toNatClampNeg)).toNatClampNeg (a_number (si_row i l I J (5 : Int32) (1 : Int32)) l (sI_row i l I J (5 : Int32) (1 : Int32)) J p0 (0 : Int32)))) (upd (fun _ => 0) 2 (a_row i l I J (5 : Int32) (1 : Int32))) (fun _ => 0)))))))))
set_option maxRecDepth 20000 in
theorem ql_oneMore {xt : mj_X} {pre post : mj_H} {m : Nat} {d : Nat} (hm : pre.length = m) (h2 : 2 ≤ m) : ∀ n : Nat, (∀ i l I J v w, okl_oneMore n 63 i l I J v w → mjR (fun N => mj_call (mj_mmof pg_ms) (mj_TTof pg_TL) xt pg_tl 2 (d + 3) N) (mj_TTof pg_TL 12).1 (mj_TTof pg_TL 12).2 xt pg_tl 2 3 (d + 3) false (Option.some Jvm.ClassFile.FieldType.int) (mj_dec prog_14_method_40_code) 63 [(0, .ref m), (2, .int (v 2))] [] (rH pre post m i l I J) (some (.int (lp_oneMore n 63 i l I J v w).1)) (rH pre post m (lp_oneMore n 63 i l I J v w).2.1 (lp_oneMore n 63 i l I J v w).2.2.1 (lp_oneMore n 63 i l I J v w).2.2.2.1 (lp_oneMore n 63 i l I J v w).2.2.2.2)) := by
  intro n
  induction n with
  | zero => exact fun i l I J v w h => absurd h id
  | succ n ih =>
    · intro i l I J v w hok
      have hok : (ok_kindOf i l I J (v 2) ∧ (if mj_cnd .ne (a_kindOf i l I J (v 2)) (5 : Int32) = true then True else (ok_settled n i l I J (v 2) ∧ True))) := hok
      refine ms1 dm_oneMore_63 rfl rfl rfl rfl ?_
      refine ms1 dm_oneMore_64 rfl rfl rfl rfl ?_
      obtain ⟨ho, hok⟩ := hok
      refine ms4 dm_oneMore_65 rfl (r_inv (As := [.int (v 2)]) hm h2 rfl rfl rfl) (q_kindOf hm h2 ho) rfl rfl rfl ?_
      refine ms0 (S' := .int (5 : Int32) :: _) dm_oneMore_68 rfl rfl rfl rfl ?_
      refine ms_2c dm_oneMore_69 rfl rfl (fun hb1 => ?_) (fun hb1 => ?_)
      · have hb1 : mj_cnd .ne (a_kindOf i l I J (v 2)) (5 : Int32) = true := hb1
        rw [if_pos hb1] at hok
        refine ms1 dm_oneMore_80 rfl rfl rfl rfl ?_
        have he : lp_oneMore (n + 1) 63 i l I J v w = ((v 2), i, l, I, J) := by
          rw [lb_oneMore_63]
          simp only [hb1, Bool.false_eq_true, if_true, if_false]
        rw [he]
        exact ms5 dm_oneMore_81 rfl rfl rfl
      · have hb1 : ¬ (mj_cnd .ne (a_kindOf i l I J (v 2)) (5 : Int32) = true) := hb1
        rw [if_neg hb1] at hok
        refine ms1 dm_oneMore_72 rfl rfl rfl rfl ?_
        refine ms1 dm_oneMore_73 rfl rfl rfl rfl ?_
        obtain ⟨ho, hok⟩ := hok
        refine ms4 dm_oneMore_74 rfl (r_inv (As := [.int (v 2)]) hm h2 rfl rfl rfl) (q_settled hm h2 ho) rfl rfl rfl ?_
        refine ms2 dm_oneMore_77 rfl rfl rfl ?_
        have he : lp_oneMore (n + 1) 63 i l I J v w = (((s_settled n i l I J (v 2)).1), ((s_settled n i l I J (v 2)).2.1), ((s_settled n i l I J (v 2)).2.2.1), ((s_settled n i l I J (v 2)).2.2.2.1), ((s_settled n i l I J (v 2)).2.2.2.2)) := by
          rw [lb_oneMore_63]
          simp only [hb1, Bool.false_eq_true, if_true, if_false]
        rw [he]
        exact ms5 dm_oneMore_81 rfl rfl rfl
set_option maxRecDepth 20000 in
theorem q_oneMore {xt : mj_X} {pre post : mj_H} {m : Nat} {i : Nat → Int32} {l : Nat → Int64} {I : Nat → Nat → Int32} {J : Nat → Nat → Int64} {d : Nat} (hm : pre.length = m) (h2 : 2 ≤ m) {p0 : Int32} {n : Nat} (hok : ok_oneMore n i l I J p0) : pgC xt (d + 4) k_oneMore (.ref m :: [.int p0]) (rH pre post m i l I J) (some (.int (s_oneMore n i l I J p0).1)) (rH pre post m (s_oneMore n i l I J p0).2.1 (s_oneMore n i l I J p0).2.2.1 (s_oneMore n i l I J p0).2.2.2.1 (s_oneMore n i l I J p0).2.2.2.2) := by
  unfold ok_oneMore at hok
  refine ms_call pm_oneMore (Nat.le_of_ble_eq_true rfl) ?_
  dsimp only
  refine ms1 dm_oneMore_0 rfl rfl rfl rfl ?_
  refine ms1 dm_oneMore_1 rfl rfl rfl rfl ?_
  refine ms1 dm_oneMore_2 rfl rfl rfl rfl ?_
  obtain ⟨ho, hok⟩ := hok
  refine ms4 dm_oneMore_3 rfl (r_inv (As := [.int p0]) hm h2 rfl rfl rfl) (q_kindOf hm h2 ho) rfl rfl rfl ?_
  refine ms_1c dm_oneMore_6 rfl rfl (fun hb1 => ?_) (fun hb1 => ?_)
  · have hb1 : mj_cnd .ne (a_kindOf i l I J p0) (0 : Int32) = true := hb1
    rw [if_pos hb1] at hok
    refine ms1 dm_oneMore_13 rfl rfl rfl rfl ?_
    refine ms1 dm_oneMore_14 rfl rfl rfl rfl ?_
    obtain ⟨ho, hok⟩ := hok
    refine ms4 dm_oneMore_15 rfl (r_inv (As := [.int p0]) hm h2 rfl rfl rfl) (q_kindOf hm h2 ho) rfl rfl rfl ?_
    refine ms0 (S' := .int (1 : Int32) :: _) dm_oneMore_18 rfl rfl rfl rfl ?_
    refine ms_2c dm_oneMore_19 rfl rfl (fun hb2 => ?_) (fun hb2 => ?_)
    · have hb2 : mj_cnd .ne (a_kindOf i l I J p0) (1 : Int32) = true := hb2
      rw [if_pos hb2] at hok
      refine ms0 (S' := .int (7 : Int32) :: _) dm_oneMore_26 rfl rfl rfl rfl ?_
      refine ms0 (S' := .int (1 : Int32) :: _) dm_oneMore_28 rfl rfl rfl rfl ?_
      obtain ⟨ho, hok⟩ := hok
      refine ms4 dm_oneMore_29 rfl (r_inv (As := [.int (7 : Int32), .int (1 : Int32)]) hm h2 rfl rfl rfl) (q_row hm h2 ho) rfl rfl rfl ?_
      refine ms1 dm_oneMore_32 rfl rfl rfl rfl ?_
      refine ms1 dm_oneMore_33 rfl rfl rfl rfl ?_
      refine ms3 dm_oneMore_34 (r_get hm h2 rfl (rg_0 _ _ _)) rfl rfl rfl ?_
      refine ms1 dm_oneMore_37 rfl rfl rfl rfl ?_
      refine ms3 dm_oneMore_38 (r_get hm h2 rfl (rg_1 _ _ _)) rfl rfl rfl ?_
      refine ms1 dm_oneMore_41 rfl rfl rfl rfl ?_
      obtain ⟨ho, hok⟩ := hok
      refine ms3 dm_oneMore_42 (r_iald hm h2 (rc_1 _ _ _ _ _) rfl ho) rfl rfl rfl ?_
      refine ms1 dm_oneMore_43 rfl rfl rfl rfl ?_
      refine ms1 dm_oneMore_44 rfl rfl rfl rfl ?_
      obtain ⟨ho, hok⟩ := hok
      refine ms4 dm_oneMore_45 rfl (r_inv (As := [.int p0]) hm h2 rfl rfl rfl) (q_isOne hm h2 ho) rfl rfl rfl ?_
      refine ms_1c dm_oneMore_48 rfl rfl (fun hb3 => ?_) (fun hb3 => ?_)
      · have hb3 : mj_cnd .eq (a_isOne (si_row i l I J (7 : Int32) (1 : Int32)) l (sI_row i l I J (7 : Int32) (1 : Int32)) J p0) (0 : Int32) = true := hb3
        rw [if_pos hb3] at hok
        refine ms1 dm_oneMore_60 rfl rfl rfl rfl ?_
        refine ms0 dm_oneMore_61 rfl rfl rfl rfl ?_
        obtain ⟨ho, hok⟩ := hok
        refine ms3 dm_oneMore_62 (r_lastk (k := 0) hm h2 (rc_0 _ _ _ _ _) rfl ho (rs_0 _ _ _ _ _ _)) rfl rfl rfl ?_
        have he : s_oneMore n i l I J p0 = lp_oneMore n 63 (si_row i l I J (7 : Int32) (1 : Int32)) l (sI_row i l I J (7 : Int32) (1 : Int32)) (va_up J 0 (vp_updL (J 0) (((sI_row i l I J (7 : Int32) (1 : Int32)) 1 ((a_row i l I J (7 : Int32) (1 : Int32))).toNatClampNeg)).toNatClampNeg (p0).toInt64)) (upd (fun _ => 0) 2 (a_row i l I J (7 : Int32) (1 : Int32))) (fun _ => 0) := by
          unfold s_oneMore
          simp only [hb1, hb2, hb3, Bool.false_eq_true, if_true, if_false]
        rw [he]
        exact mjR_sub rfl rfl rfl ((ql_oneMore hm h2 n) _ _ _ _ _ _ hok)
      · have hb3 : ¬ (mj_cnd .eq (a_isOne (si_row i l I J (7 : Int32) (1 : Int32)) l (sI_row i l I J (7 : Int32) (1 : Int32)) J p0) (0 : Int32) = true) := hb3
        rw [if_neg hb3] at hok
        refine ms1 dm_oneMore_51 rfl rfl rfl rfl ?_
        refine ms1 dm_oneMore_52 rfl rfl rfl rfl ?_
        refine ms0 (S' := .int (0 : Int32) :: _) dm_oneMore_53 rfl rfl rfl rfl ?_
        obtain ⟨ho, hok⟩ := hok
        refine ms4 dm_oneMore_54 rfl (r_inv (As := [.int p0, .int (0 : Int32)]) hm h2 rfl rfl rfl) (q_number hm h2 ho) rfl rfl rfl ?_
        refine ms2 dm_oneMore_57 rfl rfl rfl ?_
        obtain ⟨ho, hok⟩ := hok
        refine ms3 dm_oneMore_62 (r_lastk (k := 0) hm h2 (rc_0 _ _ _ _ _) rfl ho (rs_0 _ _ _ _ _ _)) rfl rfl rfl ?_
        have he : s_oneMore n i l I J p0 = lp_oneMore n 63 (si_row i l I J (7 : Int32) (1 : Int32)) l (sI_row i l I J (7 : Int32) (1 : Int32)) (va_up J 0 (vp_updL (J 0) (((sI_row i l I J (7 : Int32) (1 : Int32)) 1 ((a_row i l I J (7 : Int32) (1 : Int32))).toNatClampNeg)).toNatClampNeg (a_number (si_row i l I J (7 : Int32) (1 : Int32)) l (sI_row i l I J (7 : Int32) (1 : Int32)) J p0 (0 : Int32)))) (upd (fun _ => 0) 2 (a_row i l I J (7 : Int32) (1 : Int32))) (fun _ => 0) := by
          unfold s_oneMore
          simp only [hb1, hb2, hb3, Bool.false_eq_true, if_true, if_false]
        rw [he]
        exact mjR_sub rfl rfl rfl ((ql_oneMore hm h2 n) _ _ _ _ _ _ hok)
    · have hb2 : ¬ (mj_cnd .ne (a_kindOf i l I J p0) (1 : Int32) = true) := hb2
      rw [if_neg hb2] at hok
      refine ms0 (S' := .int (3 : Int32) :: _) dm_oneMore_22 rfl rfl rfl rfl ?_
      refine ms2 dm_oneMore_23 rfl rfl rfl ?_
      refine ms0 (S' := .int (1 : Int32) :: _) dm_oneMore_28 rfl rfl rfl rfl ?_
      obtain ⟨ho, hok⟩ := hok
      refine ms4 dm_oneMore_29 rfl (r_inv (As := [.int (3 : Int32), .int (1 : Int32)]) hm h2 rfl rfl rfl) (q_row hm h2 ho) rfl rfl rfl ?_
      refine ms1 dm_oneMore_32 rfl rfl rfl rfl ?_
      refine ms1 dm_oneMore_33 rfl rfl rfl rfl ?_
      refine ms3 dm_oneMore_34 (r_get hm h2 rfl (rg_0 _ _ _)) rfl rfl rfl ?_
      refine ms1 dm_oneMore_37 rfl rfl rfl rfl ?_
      refine ms3 dm_oneMore_38 (r_get hm h2 rfl (rg_1 _ _ _)) rfl rfl rfl ?_
      refine ms1 dm_oneMore_41 rfl rfl rfl rfl ?_
      obtain ⟨ho, hok⟩ := hok
      refine ms3 dm_oneMore_42 (r_iald hm h2 (rc_1 _ _ _ _ _) rfl ho) rfl rfl rfl ?_
      refine ms1 dm_oneMore_43 rfl rfl rfl rfl ?_
      refine ms1 dm_oneMore_44 rfl rfl rfl rfl ?_
      obtain ⟨ho, hok⟩ := hok
      refine ms4 dm_oneMore_45 rfl (r_inv (As := [.int p0]) hm h2 rfl rfl rfl) (q_isOne hm h2 ho) rfl rfl rfl ?_
      refine ms_1c dm_oneMore_48 rfl rfl (fun hb4 => ?_) (fun hb4 => ?_)
      · have hb4 : mj_cnd .eq (a_isOne (si_row i l I J (3 : Int32) (1 : Int32)) l (sI_row i l I J (3 : Int32) (1 : Int32)) J p0) (0 : Int32) = true := hb4
        rw [if_pos hb4] at hok
        refine ms1 dm_oneMore_60 rfl rfl rfl rfl ?_
        refine ms0 dm_oneMore_61 rfl rfl rfl rfl ?_
        obtain ⟨ho, hok⟩ := hok
        refine ms3 dm_oneMore_62 (r_lastk (k := 0) hm h2 (rc_0 _ _ _ _ _) rfl ho (rs_0 _ _ _ _ _ _)) rfl rfl rfl ?_
        have he : s_oneMore n i l I J p0 = lp_oneMore n 63 (si_row i l I J (3 : Int32) (1 : Int32)) l (sI_row i l I J (3 : Int32) (1 : Int32)) (va_up J 0 (vp_updL (J 0) (((sI_row i l I J (3 : Int32) (1 : Int32)) 1 ((a_row i l I J (3 : Int32) (1 : Int32))).toNatClampNeg)).toNatClampNeg (p0).toInt64)) (upd (fun _ => 0) 2 (a_row i l I J (3 : Int32) (1 : Int32))) (fun _ => 0) := by
          unfold s_oneMore
          simp only [hb1, hb2, hb4, Bool.false_eq_true, if_true, if_false]
        rw [he]
        exact mjR_sub rfl rfl rfl ((ql_oneMore hm h2 n) _ _ _ _ _ _ hok)
      · have hb4 : ¬ (mj_cnd .eq (a_isOne (si_row i l I J (3 : Int32) (1 : Int32)) l (sI_row i l I J (3 : Int32) (1 : Int32)) J p0) (0 : Int32) = true) := hb4
        rw [if_neg hb4] at hok
        refine ms1 dm_oneMore_51 rfl rfl rfl rfl ?_
        refine ms1 dm_oneMore_52 rfl rfl rfl rfl ?_
        refine ms0 (S' := .int (0 : Int32) :: _) dm_oneMore_53 rfl rfl rfl rfl ?_
        obtain ⟨ho, hok⟩ := hok
        refine ms4 dm_oneMore_54 rfl (r_inv (As := [.int p0, .int (0 : Int32)]) hm h2 rfl rfl rfl) (q_number hm h2 ho) rfl rfl rfl ?_
        refine ms2 dm_oneMore_57 rfl rfl rfl ?_
        obtain ⟨ho, hok⟩ := hok
        refine ms3 dm_oneMore_62 (r_lastk (k := 0) hm h2 (rc_0 _ _ _ _ _) rfl ho (rs_0 _ _ _ _ _ _)) rfl rfl rfl ?_
        have he : s_oneMore n i l I J p0 = lp_oneMore n 63 (si_row i l I J (3 : Int32) (1 : Int32)) l (sI_row i l I J (3 : Int32) (1 : Int32)) (va_up J 0 (vp_updL (J 0) (((sI_row i l I J (3 : Int32) (1 : Int32)) 1 ((a_row i l I J (3 : Int32) (1 : Int32))).toNatClampNeg)).toNatClampNeg (a_number (si_row i l I J (3 : Int32) (1 : Int32)) l (sI_row i l I J (3 : Int32) (1 : Int32)) J p0 (0 : Int32)))) (upd (fun _ => 0) 2 (a_row i l I J (3 : Int32) (1 : Int32))) (fun _ => 0) := by
          unfold s_oneMore
          simp only [hb1, hb2, hb4, Bool.false_eq_true, if_true, if_false]
        rw [he]
        exact mjR_sub rfl rfl rfl ((ql_oneMore hm h2 n) _ _ _ _ _ _ hok)
  · have hb1 : ¬ (mj_cnd .ne (a_kindOf i l I J p0) (0 : Int32) = true) := hb1
    rw [if_neg hb1] at hok
    refine ms0 (S' := .int (5 : Int32) :: _) dm_oneMore_9 rfl rfl rfl rfl ?_
    refine ms2 dm_oneMore_10 rfl rfl rfl ?_
    refine ms0 (S' := .int (1 : Int32) :: _) dm_oneMore_28 rfl rfl rfl rfl ?_
    obtain ⟨ho, hok⟩ := hok
    refine ms4 dm_oneMore_29 rfl (r_inv (As := [.int (5 : Int32), .int (1 : Int32)]) hm h2 rfl rfl rfl) (q_row hm h2 ho) rfl rfl rfl ?_
    refine ms1 dm_oneMore_32 rfl rfl rfl rfl ?_
    refine ms1 dm_oneMore_33 rfl rfl rfl rfl ?_
    refine ms3 dm_oneMore_34 (r_get hm h2 rfl (rg_0 _ _ _)) rfl rfl rfl ?_
    refine ms1 dm_oneMore_37 rfl rfl rfl rfl ?_
    refine ms3 dm_oneMore_38 (r_get hm h2 rfl (rg_1 _ _ _)) rfl rfl rfl ?_
    refine ms1 dm_oneMore_41 rfl rfl rfl rfl ?_
    obtain ⟨ho, hok⟩ := hok
    refine ms3 dm_oneMore_42 (r_iald hm h2 (rc_1 _ _ _ _ _) rfl ho) rfl rfl rfl ?_
    refine ms1 dm_oneMore_43 rfl rfl rfl rfl ?_
    refine ms1 dm_oneMore_44 rfl rfl rfl rfl ?_
    obtain ⟨ho, hok⟩ := hok
    refine ms4 dm_oneMore_45 rfl (r_inv (As := [.int p0]) hm h2 rfl rfl rfl) (q_isOne hm h2 ho) rfl rfl rfl ?_
    refine ms_1c dm_oneMore_48 rfl rfl (fun hb5 => ?_) (fun hb5 => ?_)
    · have hb5 : mj_cnd .eq (a_isOne (si_row i l I J (5 : Int32) (1 : Int32)) l (sI_row i l I J (5 : Int32) (1 : Int32)) J p0) (0 : Int32) = true := hb5
      rw [if_pos hb5] at hok
      refine ms1 dm_oneMore_60 rfl rfl rfl rfl ?_
      refine ms0 dm_oneMore_61 rfl rfl rfl rfl ?_
      obtain ⟨ho, hok⟩ := hok
      refine ms3 dm_oneMore_62 (r_lastk (k := 0) hm h2 (rc_0 _ _ _ _ _) rfl ho (rs_0 _ _ _ _ _ _)) rfl rfl rfl ?_
      have he : s_oneMore n i l I J p0 = lp_oneMore n 63 (si_row i l I J (5 : Int32) (1 : Int32)) l (sI_row i l I J (5 : Int32) (1 : Int32)) (va_up J 0 (vp_updL (J 0) (((sI_row i l I J (5 : Int32) (1 : Int32)) 1 ((a_row i l I J (5 : Int32) (1 : Int32))).toNatClampNeg)).toNatClampNeg (p0).toInt64)) (upd (fun _ => 0) 2 (a_row i l I J (5 : Int32) (1 : Int32))) (fun _ => 0) := by
        unfold s_oneMore
        simp only [hb1, hb5, Bool.false_eq_true, if_true, if_false]
      rw [he]
      exact mjR_sub rfl rfl rfl ((ql_oneMore hm h2 n) _ _ _ _ _ _ hok)
    · have hb5 : ¬ (mj_cnd .eq (a_isOne (si_row i l I J (5 : Int32) (1 : Int32)) l (sI_row i l I J (5 : Int32) (1 : Int32)) J p0) (0 : Int32) = true) := hb5
      rw [if_neg hb5] at hok
      refine ms1 dm_oneMore_51 rfl rfl rfl rfl ?_
      refine ms1 dm_oneMore_52 rfl rfl rfl rfl ?_
      refine ms0 (S' := .int (0 : Int32) :: _) dm_oneMore_53 rfl rfl rfl rfl ?_
      obtain ⟨ho, hok⟩ := hok
      refine ms4 dm_oneMore_54 rfl (r_inv (As := [.int p0, .int (0 : Int32)]) hm h2 rfl rfl rfl) (q_number hm h2 ho) rfl rfl rfl ?_
      refine ms2 dm_oneMore_57 rfl rfl rfl ?_
      obtain ⟨ho, hok⟩ := hok
      refine ms3 dm_oneMore_62 (r_lastk (k := 0) hm h2 (rc_0 _ _ _ _ _) rfl ho (rs_0 _ _ _ _ _ _)) rfl rfl rfl ?_
      have he : s_oneMore n i l I J p0 = lp_oneMore n 63 (si_row i l I J (5 : Int32) (1 : Int32)) l (sI_row i l I J (5 : Int32) (1 : Int32)) (va_up J 0 (vp_updL (J 0) (((sI_row i l I J (5 : Int32) (1 : Int32)) 1 ((a_row i l I J (5 : Int32) (1 : Int32))).toNatClampNeg)).toNatClampNeg (a_number (si_row i l I J (5 : Int32) (1 : Int32)) l (sI_row i l I J (5 : Int32) (1 : Int32)) J p0 (0 : Int32)))) (upd (fun _ => 0) 2 (a_row i l I J (5 : Int32) (1 : Int32))) (fun _ => 0) := by
        unfold s_oneMore
        simp only [hb1, hb5, Bool.false_eq_true, if_true, if_false]
      rw [he]
      exact mjR_sub rfl rfl rfl ((ql_oneMore hm h2 n) _ _ _ _ _ _ hok)
def k_numbersIn : Nat := 287
set_option maxRecDepth 20000 in
theorem pm_numbersIn : mj_mmof pg_ms k_numbersIn = some ((⟨"ArrayCalculatorModel", "numbersIn", "(II)I"⟩, prog_14_method_41_code, 10, (Option.some Jvm.ClassFile.FieldType.int)), 12, false, mj_dec prog_14_method_41_code) := rfl
theorem dm_numbersIn_0 : mj_dec prog_14_method_41_code 0 = some (.aload_n 0, 1) := by decide +kernel
theorem dm_numbersIn_1 : mj_dec prog_14_method_41_code 1 = some (.iload_n 1, 1) := by decide +kernel
theorem dm_numbersIn_2 : mj_dec prog_14_method_41_code 2 = some (.invokevirtual 146, 3) := by decide +kernel
theorem dm_numbersIn_5 : mj_dec prog_14_method_41_code 5 = some (.iconst 1, 1) := by decide +kernel
theorem dm_numbersIn_6 : mj_dec prog_14_method_41_code 6 = some (.if_icmp .eq 19, 3) := by decide +kernel
theorem dm_numbersIn_9 : mj_dec prog_14_method_41_code 9 = some (.aload_n 0, 1) := by decide +kernel
theorem dm_numbersIn_10 : mj_dec prog_14_method_41_code 10 = some (.iload_n 1, 1) := by decide +kernel
theorem dm_numbersIn_11 : mj_dec prog_14_method_41_code 11 = some (.invokevirtual 146, 3) := by decide +kernel
theorem dm_numbersIn_14 : mj_dec prog_14_method_41_code 14 = some (.iconst 3, 1) := by decide +kernel
theorem dm_numbersIn_15 : mj_dec prog_14_method_41_code 15 = some (.if_icmp .eq 10, 3) := by decide +kernel
theorem dm_numbersIn_18 : mj_dec prog_14_method_41_code 18 = some (.aload_n 0, 1) := by decide +kernel
theorem dm_numbersIn_19 : mj_dec prog_14_method_41_code 19 = some (.iconst 3, 1) := by decide +kernel
theorem dm_numbersIn_20 : mj_dec prog_14_method_41_code 20 = some (.iload_n 2, 1) := by decide +kernel
theorem dm_numbersIn_21 : mj_dec prog_14_method_41_code 21 = some (.invokevirtual 190, 3) := by decide +kernel
theorem dm_numbersIn_24 : mj_dec prog_14_method_41_code 24 = some (.ireturn, 1) := by decide +kernel
theorem dm_numbersIn_25 : mj_dec prog_14_method_41_code 25 = some (.aload_n 0, 1) := by decide +kernel
theorem dm_numbersIn_26 : mj_dec prog_14_method_41_code 26 = some (.getfield 119, 3) := by decide +kernel
theorem dm_numbersIn_29 : mj_dec prog_14_method_41_code 29 = some (.istore_n 3, 1) := by decide +kernel
theorem dm_numbersIn_30 : mj_dec prog_14_method_41_code 30 = some (.iconst 0, 1) := by decide +kernel
theorem dm_numbersIn_31 : mj_dec prog_14_method_41_code 31 = some (.istore 4, 2) := by decide +kernel
theorem dm_numbersIn_33 : mj_dec prog_14_method_41_code 33 = some (.iconst 0, 1) := by decide +kernel
theorem dm_numbersIn_34 : mj_dec prog_14_method_41_code 34 = some (.istore 5, 2) := by decide +kernel
theorem dm_numbersIn_36 : mj_dec prog_14_method_41_code 36 = some (.iload 5, 2) := by decide +kernel
theorem dm_numbersIn_38 : mj_dec prog_14_method_41_code 38 = some (.aload_n 0, 1) := by decide +kernel
theorem dm_numbersIn_39 : mj_dec prog_14_method_41_code 39 = some (.iload_n 1, 1) := by decide +kernel
theorem dm_numbersIn_40 : mj_dec prog_14_method_41_code 40 = some (.invokevirtual 134, 3) := by decide +kernel
theorem dm_numbersIn_43 : mj_dec prog_14_method_41_code 43 = some (.if_icmp .ge 203, 3) := by decide +kernel
theorem dm_numbersIn_46 : mj_dec prog_14_method_41_code 46 = some (.aload_n 0, 1) := by decide +kernel
theorem dm_numbersIn_47 : mj_dec prog_14_method_41_code 47 = some (.iload_n 1, 1) := by decide +kernel
theorem dm_numbersIn_48 : mj_dec prog_14_method_41_code 48 = some (.iload 5, 2) := by decide +kernel
theorem dm_numbersIn_50 : mj_dec prog_14_method_41_code 50 = some (.invokevirtual 138, 3) := by decide +kernel
theorem dm_numbersIn_53 : mj_dec prog_14_method_41_code 53 = some (.ldc2_w 271, 3) := by decide +kernel
theorem dm_numbersIn_56 : mj_dec prog_14_method_41_code 56 = some (.lcmp, 1) := by decide +kernel
theorem dm_numbersIn_57 : mj_dec prog_14_method_41_code 57 = some (.ifCond .ne 9, 3) := by decide +kernel
theorem dm_numbersIn_60 : mj_dec prog_14_method_41_code 60 = some (.iinc 5 1, 3) := by decide +kernel
theorem dm_numbersIn_63 : mj_dec prog_14_method_41_code 63 = some (.goto (-27), 3) := by decide +kernel
theorem dm_numbersIn_66 : mj_dec prog_14_method_41_code 66 = some (.aload_n 0, 1) := by decide +kernel
theorem dm_numbersIn_67 : mj_dec prog_14_method_41_code 67 = some (.iload_n 1, 1) := by decide +kernel
theorem dm_numbersIn_68 : mj_dec prog_14_method_41_code 68 = some (.iload 5, 2) := by decide +kernel
theorem dm_numbersIn_70 : mj_dec prog_14_method_41_code 70 = some (.invokevirtual 138, 3) := by decide +kernel
theorem dm_numbersIn_73 : mj_dec prog_14_method_41_code 73 = some (.ldc2_w 273, 3) := by decide +kernel
theorem dm_numbersIn_76 : mj_dec prog_14_method_41_code 76 = some (.lcmp, 1) := by decide +kernel
theorem dm_numbersIn_77 : mj_dec prog_14_method_41_code 77 = some (.ifCond .ne 7, 3) := by decide +kernel
theorem dm_numbersIn_80 : mj_dec prog_14_method_41_code 80 = some (.iconst 1, 1) := by decide +kernel
theorem dm_numbersIn_81 : mj_dec prog_14_method_41_code 81 = some (.goto 4, 3) := by decide +kernel
theorem dm_numbersIn_84 : mj_dec prog_14_method_41_code 84 = some (.iconst 0, 1) := by decide +kernel
theorem dm_numbersIn_85 : mj_dec prog_14_method_41_code 85 = some (.istore 6, 2) := by decide +kernel
theorem dm_numbersIn_87 : mj_dec prog_14_method_41_code 87 = some (.iload 6, 2) := by decide +kernel
theorem dm_numbersIn_89 : mj_dec prog_14_method_41_code 89 = some (.ifCond .eq 6, 3) := by decide +kernel
theorem dm_numbersIn_92 : mj_dec prog_14_method_41_code 92 = some (.iinc 5 1, 3) := by decide +kernel
theorem dm_numbersIn_95 : mj_dec prog_14_method_41_code 95 = some (.lconst 0, 1) := by decide +kernel
theorem dm_numbersIn_96 : mj_dec prog_14_method_41_code 96 = some (.lstore 7, 2) := by decide +kernel
theorem dm_numbersIn_98 : mj_dec prog_14_method_41_code 98 = some (.iconst 0, 1) := by decide +kernel
theorem dm_numbersIn_99 : mj_dec prog_14_method_41_code 99 = some (.istore 9, 2) := by decide +kernel
theorem dm_numbersIn_101 : mj_dec prog_14_method_41_code 101 = some (.iload 5, 2) := by decide +kernel
theorem dm_numbersIn_103 : mj_dec prog_14_method_41_code 103 = some (.aload_n 0, 1) := by decide +kernel
theorem dm_numbersIn_104 : mj_dec prog_14_method_41_code 104 = some (.iload_n 1, 1) := by decide +kernel
theorem dm_numbersIn_105 : mj_dec prog_14_method_41_code 105 = some (.invokevirtual 134, 3) := by decide +kernel
theorem dm_numbersIn_108 : mj_dec prog_14_method_41_code 108 = some (.if_icmp .ge 67, 3) := by decide +kernel
theorem dm_numbersIn_111 : mj_dec prog_14_method_41_code 111 = some (.aload_n 0, 1) := by decide +kernel
theorem dm_numbersIn_112 : mj_dec prog_14_method_41_code 112 = some (.iload_n 1, 1) := by decide +kernel
theorem dm_numbersIn_113 : mj_dec prog_14_method_41_code 113 = some (.iload 5, 2) := by decide +kernel
theorem dm_numbersIn_115 : mj_dec prog_14_method_41_code 115 = some (.invokevirtual 138, 3) := by decide +kernel
theorem dm_numbersIn_118 : mj_dec prog_14_method_41_code 118 = some (.ldc2_w 275, 3) := by decide +kernel
theorem dm_numbersIn_121 : mj_dec prog_14_method_41_code 121 = some (.lcmp, 1) := by decide +kernel
theorem dm_numbersIn_122 : mj_dec prog_14_method_41_code 122 = some (.ifCond .lt 53, 3) := by decide +kernel
theorem dm_numbersIn_125 : mj_dec prog_14_method_41_code 125 = some (.aload_n 0, 1) := by decide +kernel
theorem dm_numbersIn_126 : mj_dec prog_14_method_41_code 126 = some (.iload_n 1, 1) := by decide +kernel
theorem dm_numbersIn_127 : mj_dec prog_14_method_41_code 127 = some (.iload 5, 2) := by decide +kernel
theorem dm_numbersIn_129 : mj_dec prog_14_method_41_code 129 = some (.invokevirtual 138, 3) := by decide +kernel
theorem dm_numbersIn_132 : mj_dec prog_14_method_41_code 132 = some (.ldc2_w 277, 3) := by decide +kernel
theorem dm_numbersIn_135 : mj_dec prog_14_method_41_code 135 = some (.lcmp, 1) := by decide +kernel
theorem dm_numbersIn_136 : mj_dec prog_14_method_41_code 136 = some (.ifCond .gt 39, 3) := by decide +kernel
theorem dm_numbersIn_139 : mj_dec prog_14_method_41_code 139 = some (.iload 9, 2) := by decide +kernel
theorem dm_numbersIn_141 : mj_dec prog_14_method_41_code 141 = some (.bipush 19, 2) := by decide +kernel
theorem dm_numbersIn_143 : mj_dec prog_14_method_41_code 143 = some (.if_icmp .ge 32, 3) := by decide +kernel
theorem dm_numbersIn_146 : mj_dec prog_14_method_41_code 146 = some (.ldc2_w 279, 3) := by decide +kernel
theorem dm_numbersIn_149 : mj_dec prog_14_method_41_code 149 = some (.lload 7, 2) := by decide +kernel
theorem dm_numbersIn_151 : mj_dec prog_14_method_41_code 151 = some (.lmul, 1) := by decide +kernel
theorem dm_numbersIn_152 : mj_dec prog_14_method_41_code 152 = some (.aload_n 0, 1) := by decide +kernel
theorem dm_numbersIn_153 : mj_dec prog_14_method_41_code 153 = some (.iload_n 1, 1) := by decide +kernel
theorem dm_numbersIn_154 : mj_dec prog_14_method_41_code 154 = some (.iload 5, 2) := by decide +kernel
theorem dm_numbersIn_156 : mj_dec prog_14_method_41_code 156 = some (.invokevirtual 138, 3) := by decide +kernel
theorem dm_numbersIn_159 : mj_dec prog_14_method_41_code 159 = some (.ladd, 1) := by decide +kernel
theorem dm_numbersIn_160 : mj_dec prog_14_method_41_code 160 = some (.ldc2_w 275, 3) := by decide +kernel
theorem dm_numbersIn_163 : mj_dec prog_14_method_41_code 163 = some (.lsub, 1) := by decide +kernel
theorem dm_numbersIn_164 : mj_dec prog_14_method_41_code 164 = some (.lstore 7, 2) := by decide +kernel
theorem dm_numbersIn_166 : mj_dec prog_14_method_41_code 166 = some (.iinc 9 1, 3) := by decide +kernel
theorem dm_numbersIn_169 : mj_dec prog_14_method_41_code 169 = some (.iinc 5 1, 3) := by decide +kernel
theorem dm_numbersIn_172 : mj_dec prog_14_method_41_code 172 = some (.goto (-71), 3) := by decide +kernel
theorem dm_numbersIn_175 : mj_dec prog_14_method_41_code 175 = some (.iload 9, 2) := by decide +kernel
theorem dm_numbersIn_177 : mj_dec prog_14_method_41_code 177 = some (.ifCond .eq 34, 3) := by decide +kernel
theorem dm_numbersIn_180 : mj_dec prog_14_method_41_code 180 = some (.iload 9, 2) := by decide +kernel
theorem dm_numbersIn_182 : mj_dec prog_14_method_41_code 182 = some (.bipush 18, 2) := by decide +kernel
theorem dm_numbersIn_184 : mj_dec prog_14_method_41_code 184 = some (.if_icmp .gt 27, 3) := by decide +kernel
theorem dm_numbersIn_187 : mj_dec prog_14_method_41_code 187 = some (.iload 5, 2) := by decide +kernel
theorem dm_numbersIn_189 : mj_dec prog_14_method_41_code 189 = some (.aload_n 0, 1) := by decide +kernel
theorem dm_numbersIn_190 : mj_dec prog_14_method_41_code 190 = some (.iload_n 1, 1) := by decide +kernel
theorem dm_numbersIn_191 : mj_dec prog_14_method_41_code 191 = some (.invokevirtual 134, 3) := by decide +kernel
theorem dm_numbersIn_194 : mj_dec prog_14_method_41_code 194 = some (.if_icmp .ge 24, 3) := by decide +kernel
theorem dm_numbersIn_197 : mj_dec prog_14_method_41_code 197 = some (.aload_n 0, 1) := by decide +kernel
theorem dm_numbersIn_198 : mj_dec prog_14_method_41_code 198 = some (.iload_n 1, 1) := by decide +kernel
theorem dm_numbersIn_199 : mj_dec prog_14_method_41_code 199 = some (.iload 5, 2) := by decide +kernel
theorem dm_numbersIn_201 : mj_dec prog_14_method_41_code 201 = some (.invokevirtual 138, 3) := by decide +kernel
theorem dm_numbersIn_204 : mj_dec prog_14_method_41_code 204 = some (.ldc2_w 271, 3) := by decide +kernel
theorem dm_numbersIn_207 : mj_dec prog_14_method_41_code 207 = some (.lcmp, 1) := by decide +kernel
theorem dm_numbersIn_208 : mj_dec prog_14_method_41_code 208 = some (.ifCond .eq 10, 3) := by decide +kernel
theorem dm_numbersIn_211 : mj_dec prog_14_method_41_code 211 = some (.aload_n 0, 1) := by decide +kernel
theorem dm_numbersIn_212 : mj_dec prog_14_method_41_code 212 = some (.iconst 5, 1) := by decide +kernel
theorem dm_numbersIn_213 : mj_dec prog_14_method_41_code 213 = some (.iload_n 2, 1) := by decide +kernel
theorem dm_numbersIn_214 : mj_dec prog_14_method_41_code 214 = some (.invokevirtual 190, 3) := by decide +kernel
theorem dm_numbersIn_217 : mj_dec prog_14_method_41_code 217 = some (.ireturn, 1) := by decide +kernel
theorem dm_numbersIn_218 : mj_dec prog_14_method_41_code 218 = some (.aload_n 0, 1) := by decide +kernel
theorem dm_numbersIn_219 : mj_dec prog_14_method_41_code 219 = some (.getfield 8, 3) := by decide +kernel
theorem dm_numbersIn_222 : mj_dec prog_14_method_41_code 222 = some (.iload_n 3, 1) := by decide +kernel
theorem dm_numbersIn_223 : mj_dec prog_14_method_41_code 223 = some (.iload 4, 2) := by decide +kernel
theorem dm_numbersIn_225 : mj_dec prog_14_method_41_code 225 = some (.iadd, 1) := by decide +kernel
theorem dm_numbersIn_226 : mj_dec prog_14_method_41_code 226 = some (.iload 6, 2) := by decide +kernel
theorem dm_numbersIn_228 : mj_dec prog_14_method_41_code 228 = some (.ifCond .eq 9, 3) := by decide +kernel
theorem dm_numbersIn_231 : mj_dec prog_14_method_41_code 231 = some (.lload 7, 2) := by decide +kernel
theorem dm_numbersIn_233 : mj_dec prog_14_method_41_code 233 = some (.lneg, 1) := by decide +kernel
theorem dm_numbersIn_234 : mj_dec prog_14_method_41_code 234 = some (.goto 5, 3) := by decide +kernel
theorem dm_numbersIn_237 : mj_dec prog_14_method_41_code 237 = some (.lload 7, 2) := by decide +kernel
theorem dm_numbersIn_239 : mj_dec prog_14_method_41_code 239 = some (.lastore, 1) := by decide +kernel
theorem dm_numbersIn_240 : mj_dec prog_14_method_41_code 240 = some (.iinc 4 1, 3) := by decide +kernel
theorem dm_numbersIn_243 : mj_dec prog_14_method_41_code 243 = some (.goto (-207), 3) := by decide +kernel
theorem dm_numbersIn_246 : mj_dec prog_14_method_41_code 246 = some (.aload_n 0, 1) := by decide +kernel
theorem dm_numbersIn_247 : mj_dec prog_14_method_41_code 247 = some (.aload_n 0, 1) := by decide +kernel
theorem dm_numbersIn_248 : mj_dec prog_14_method_41_code 248 = some (.iconst 5, 1) := by decide +kernel
theorem dm_numbersIn_249 : mj_dec prog_14_method_41_code 249 = some (.iload 4, 2) := by decide +kernel
theorem dm_numbersIn_251 : mj_dec prog_14_method_41_code 251 = some (.invokevirtual 126, 3) := by decide +kernel
theorem dm_numbersIn_254 : mj_dec prog_14_method_41_code 254 = some (.invokevirtual 205, 3) := by decide +kernel
theorem dm_numbersIn_257 : mj_dec prog_14_method_41_code 257 = some (.ireturn, 1) := by decide +kernel
def lp_numbersIn : Nat → Nat → (Nat → Int32) → (Nat → Int64) → (Nat → Nat → Int32) → (Nat → Nat → Int64) → (Nat → Int32) → (Nat → Int64) → Int32 × (Nat → Int32) × (Nat → Int64) × (Nat → Nat → Int32) × (Nat → Nat → Int64)
  | 0, _, i, l, I, J, _, _ => (0, i, l, I, J)
  | n + 1, hd, i, l, I, J, v, w => match hd with
    | 36 => (if mj_cnd .ge (v 5) (a_many i l I J (v 1)) = true then (((s_settled n (si_row i l I J (5 : Int32) (v 4)) l (sI_row i l I J (5 : Int32) (v 4)) J (a_row i l I J (5 : Int32) (v 4))).1), ((s_settled n (si_row i l I J (5 : Int32) (v 4)) l (sI_row i l I J (5 : Int32) (v 4)) J (a_row i l I J (5 : Int32) (v 4))).2.1), ((s_settled n (si_row i l I J (5 : Int32) (v 4)) l (sI_row i l I J (5 : Int32) (v 4)) J (a_row i l I J (5 : Int32) (v 4))).2.2.1), ((s_settled n (si_row i l I J (5 : Int32) (v 4)) l (sI_row i l I J (5 : Int32) (v 4)) J (a_row i l I J (5 : Int32) (v 4))).2.2.2.1), ((s_settled n (si_row i l I J (5 : Int32) (v 4)) l (sI_row i l I J (5 : Int32) (v 4)) J (a_row i l I J (5 : Int32) (v 4))).2.2.2.2)) else (if mj_cnd .ne (lg_cmp (a_number i l I J (v 1) (v 5)) (32 : Int64)) (0 : Int32) = true then (if mj_cnd .ne (lg_cmp (a_number i l I J (v 1) (v 5)) (95 : Int64)) (0 : Int32) = true then lp_numbersIn n 95 i l I J (upd v 6 (0 : Int32)) w else lp_numbersIn n 95 i l I J (upd (upd v 5 ((v 5) + Int32.ofInt (1))) 6 (1 : Int32)) w) else lp_numbersIn n 36 i l I J (upd v 5 ((v 5) + Int32.ofInt (1))) w))
    | 95 => lp_numbersIn n 101 i l I J (upd v 9 (0 : Int32)) (vp_updL w 7 (0 : Int64))
    | 101 => (if mj_cnd .ge (v 5) (a_many i l I J (v 1)) = true then (if mj_cnd .eq (v 9) (0 : Int32) = true then ((a_fail i l I J (5 : Int32) (v 2)), (si_fail i l I J (5 : Int32) (v 2)), l, I, J) else (if mj_cnd .gt (v 9) (18 : Int32) = true then ((a_fail i l I J (5 : Int32) (v 2)), (si_fail i l I J (5 : Int32) (v 2)), l, I, J) else lp_numbersIn n 218 i l I J v w)) else (if mj_cnd .lt (lg_cmp (a_number i l I J (v 1) (v 5)) (48 : Int64)) (0 : Int32) = true then (if mj_cnd .eq (v 9) (0 : Int32) = true then ((a_fail i l I J (5 : Int32) (v 2)), (si_fail i l I J (5 : Int32) (v 2)), l, I, J) else (if mj_cnd .gt (v 9) (18 : Int32) = true then ((a_fail i l I J (5 : Int32) (v 2)), (si_fail i l I J (5 : Int32) (v 2)), l, I, J) else (if mj_cnd .eq (lg_cmp (a_number i l I J (v 1) (v 5)) (32 : Int64)) (0 : Int32) = true then lp_numbersIn n 218 i l I J v w else ((a_fail i l I J (5 : Int32) (v 2)), (si_fail i l I J (5 : Int32) (v 2)), l, I, J)))) else (if mj_cnd .gt (lg_cmp (a_number i l I J (v 1) (v 5)) (57 : Int64)) (0 : Int32) = true then (if mj_cnd .eq (v 9) (0 : Int32) = true then ((a_fail i l I J (5 : Int32) (v 2)), (si_fail i l I J (5 : Int32) (v 2)), l, I, J) else (if mj_cnd .gt (v 9) (18 : Int32) = true then ((a_fail i l I J (5 : Int32) (v 2)), (si_fail i l I J (5 : Int32) (v 2)), l, I, J) else (if mj_cnd .eq (lg_cmp (a_number i l I J (v 1) (v 5)) (32 : Int64)) (0 : Int32) = true then lp_numbersIn n 218 i l I J v w else ((a_fail i l I J (5 : Int32) (v 2)), (si_fail i l I J (5 : Int32) (v 2)), l, I, J)))) else (if mj_cnd .ge (v 9) (19 : Int32) = true then (if mj_cnd .eq (v 9) (0 : Int32) = true then ((a_fail i l I J (5 : Int32) (v 2)), (si_fail i l I J (5 : Int32) (v 2)), l, I, J) else (if mj_cnd .gt (v 9) (18 : Int32) = true then ((a_fail i l I J (5 : Int32) (v 2)), (si_fail i l I J (5 : Int32) (v 2)), l, I, J) else (if mj_cnd .eq (lg_cmp (a_number i l I J (v 1) (v 5)) (32 : Int64)) (0 : Int32) = true then lp_numbersIn n 218 i l I J v w else ((a_fail i l I J (5 : Int32) (v 2)), (si_fail i l I J (5 : Int32) (v 2)), l, I, J)))) else lp_numbersIn n 101 i l I J (upd (upd v 5 ((v 5) + Int32.ofInt (1))) 9 ((v 9) + Int32.ofInt (1))) (vp_updL w 7 ((((10 : Int64) * (w 7)) + (a_number i l I J (v 1) (v 5))) - (48 : Int64)))))))
    | 218 => (if mj_cnd .eq (v 6) (0 : Int32) = true then lp_numbersIn n 36 i l I (va_up J 0 (vp_updL (J 0) (((v 3) + (v 4))).toNatClampNeg (w 7))) (upd v 4 ((v 4) + Int32.ofInt (1))) w else lp_numbersIn n 36 i l I (va_up J 0 (vp_updL (J 0) (((v 3) + (v 4))).toNatClampNeg (-(w 7)))) (upd v 4 ((v 4) + Int32.ofInt (1))) w)
    | _ => (0, i, l, I, J)
theorem lb_numbersIn_36 (n : Nat) (i : Nat → Int32) (l : Nat → Int64) (I : Nat → Nat → Int32) (J : Nat → Nat → Int64) (v : Nat → Int32) (w : Nat → Int64) : lp_numbersIn (n + 1) 36 i l I J v w = (if mj_cnd .ge (v 5) (a_many i l I J (v 1)) = true then (((s_settled n (si_row i l I J (5 : Int32) (v 4)) l (sI_row i l I J (5 : Int32) (v 4)) J (a_row i l I J (5 : Int32) (v 4))).1), ((s_settled n (si_row i l I J (5 : Int32) (v 4)) l (sI_row i l I J (5 : Int32) (v 4)) J (a_row i l I J (5 : Int32) (v 4))).2.1), ((s_settled n (si_row i l I J (5 : Int32) (v 4)) l (sI_row i l I J (5 : Int32) (v 4)) J (a_row i l I J (5 : Int32) (v 4))).2.2.1), ((s_settled n (si_row i l I J (5 : Int32) (v 4)) l (sI_row i l I J (5 : Int32) (v 4)) J (a_row i l I J (5 : Int32) (v 4))).2.2.2.1), ((s_settled n (si_row i l I J (5 : Int32) (v 4)) l (sI_row i l I J (5 : Int32) (v 4)) J (a_row i l I J (5 : Int32) (v 4))).2.2.2.2)) else (if mj_cnd .ne (lg_cmp (a_number i l I J (v 1) (v 5)) (32 : Int64)) (0 : Int32) = true then (if mj_cnd .ne (lg_cmp (a_number i l I J (v 1) (v 5)) (95 : Int64)) (0 : Int32) = true then lp_numbersIn n 95 i l I J (upd v 6 (0 : Int32)) w else lp_numbersIn n 95 i l I J (upd (upd v 5 ((v 5) + Int32.ofInt (1))) 6 (1 : Int32)) w) else lp_numbersIn n 36 i l I J (upd v 5 ((v 5) + Int32.ofInt (1))) w)) := rfl
theorem lb_numbersIn_95 (n : Nat) (i : Nat → Int32) (l : Nat → Int64) (I : Nat → Nat → Int32) (J : Nat → Nat → Int64) (v : Nat → Int32) (w : Nat → Int64) : lp_numbersIn (n + 1) 95 i l I J v w = lp_numbersIn n 101 i l I J (upd v 9 (0 : Int32)) (vp_updL w 7 (0 : Int64)) := rfl
theorem lb_numbersIn_101 (n : Nat) (i : Nat → Int32) (l : Nat → Int64) (I : Nat → Nat → Int32) (J : Nat → Nat → Int64) (v : Nat → Int32) (w : Nat → Int64) : lp_numbersIn (n + 1) 101 i l I J v w = (if mj_cnd .ge (v 5) (a_many i l I J (v 1)) = true then (if mj_cnd .eq (v 9) (0 : Int32) = true then ((a_fail i l I J (5 : Int32) (v 2)), (si_fail i l I J (5 : Int32) (v 2)), l, I, J) else (if mj_cnd .gt (v 9) (18 : Int32) = true then ((a_fail i l I J (5 : Int32) (v 2)), (si_fail i l I J (5 : Int32) (v 2)), l, I, J) else lp_numbersIn n 218 i l I J v w)) else (if mj_cnd .lt (lg_cmp (a_number i l I J (v 1) (v 5)) (48 : Int64)) (0 : Int32) = true then (if mj_cnd .eq (v 9) (0 : Int32) = true then ((a_fail i l I J (5 : Int32) (v 2)), (si_fail i l I J (5 : Int32) (v 2)), l, I, J) else (if mj_cnd .gt (v 9) (18 : Int32) = true then ((a_fail i l I J (5 : Int32) (v 2)), (si_fail i l I J (5 : Int32) (v 2)), l, I, J) else (if mj_cnd .eq (lg_cmp (a_number i l I J (v 1) (v 5)) (32 : Int64)) (0 : Int32) = true then lp_numbersIn n 218 i l I J v w else ((a_fail i l I J (5 : Int32) (v 2)), (si_fail i l I J (5 : Int32) (v 2)), l, I, J)))) else (if mj_cnd .gt (lg_cmp (a_number i l I J (v 1) (v 5)) (57 : Int64)) (0 : Int32) = true then (if mj_cnd .eq (v 9) (0 : Int32) = true then ((a_fail i l I J (5 : Int32) (v 2)), (si_fail i l I J (5 : Int32) (v 2)), l, I, J) else (if mj_cnd .gt (v 9) (18 : Int32) = true then ((a_fail i l I J (5 : Int32) (v 2)), (si_fail i l I J (5 : Int32) (v 2)), l, I, J) else (if mj_cnd .eq (lg_cmp (a_number i l I J (v 1) (v 5)) (32 : Int64)) (0 : Int32) = true then lp_numbersIn n 218 i l I J v w else ((a_fail i l I J (5 : Int32) (v 2)), (si_fail i l I J (5 : Int32) (v 2)), l, I, J)))) else (if mj_cnd .ge (v 9) (19 : Int32) = true then (if mj_cnd .eq (v 9) (0 : Int32) = true then ((a_fail i l I J (5 : Int32) (v 2)), (si_fail i l I J (5 : Int32) (v 2)), l, I, J) else (if mj_cnd .gt (v 9) (18 : Int32) = true then ((a_fail i l I J (5 : Int32) (v 2)), (si_fail i l I J (5 : Int32) (v 2)), l, I, J) else (if mj_cnd .eq (lg_cmp (a_number i l I J (v 1) (v 5)) (32 : Int64)) (0 : Int32) = true then lp_numbersIn n 218 i l I J v w else ((a_fail i l I J (5 : Int32) (v 2)), (si_fail i l I J (5 : Int32) (v 2)), l, I, J)))) else lp_numbersIn n 101 i l I J (upd (upd v 5 ((v 5) + Int32.ofInt (1))) 9 ((v 9) + Int32.ofInt (1))) (vp_updL w 7 ((((10 : Int64) * (w 7)) + (a_number i l I J (v 1) (v 5))) - (48 : Int64))))))) := rfl
theorem lb_numbersIn_218 (n : Nat) (i : Nat → Int32) (l : Nat → Int64) (I : Nat → Nat → Int32) (J : Nat → Nat → Int64) (v : Nat → Int32) (w : Nat → Int64) : lp_numbersIn (n + 1) 218 i l I J v w = (if mj_cnd .eq (v 6) (0 : Int32) = true then lp_numbersIn n 36 i l I (va_up J 0 (vp_updL (J 0) (((v 3) + (v 4))).toNatClampNeg (w 7))) (upd v 4 ((v 4) + Int32.ofInt (1))) w else lp_numbersIn n 36 i l I (va_up J 0 (vp_updL (J 0) (((v 3) + (v 4))).toNatClampNeg (-(w 7)))) (upd v 4 ((v 4) + Int32.ofInt (1))) w) := rfl
def okl_numbersIn : Nat → Nat → (Nat → Int32) → (Nat → Int64) → (Nat → Nat → Int32) → (Nat → Nat → Int64) → (Nat → Int32) → (Nat → Int64) → Prop
  | 0, _, _, _, _, _, _, _ => False
  | n + 1, hd, i, l, I, J, v, w => match hd with
    | 36 => (ok_many i l I J (v 1) ∧ (if mj_cnd .ge (v 5) (a_many i l I J (v 1)) = true then (ok_row i l I J (5 : Int32) (v 4) ∧ (ok_settled n (si_row i l I J (5 : Int32) (v 4)) l (sI_row i l I J (5 : Int32) (v 4)) J (a_row i l I J (5 : Int32) (v 4)) ∧ True)) else (ok_number i l I J (v 1) (v 5) ∧ (if mj_cnd .ne (lg_cmp (a_number i l I J (v 1) (v 5)) (32 : Int64)) (0 : Int32) = true then (ok_number i l I J (v 1) (v 5) ∧ (if mj_cnd .ne (lg_cmp (a_number i l I J (v 1) (v 5)) (95 : Int64)) (0 : Int32) = true then okl_numbersIn n 95 i l I J (upd v 6 (0 : Int32)) w else okl_numbersIn n 95 i l I J (upd (upd v 5 ((v 5) + Int32.ofInt (1))) 6 (1 : Int32)) w)) else okl_numbersIn n 36 i l I J (upd v 5 ((v 5) + Int32.ofInt (1))) w))))
    | 95 => okl_numbersIn n 101 i l I J (upd v 9 (0 : Int32)) (vp_updL w 7 (0 : Int64))
    | 101 => (ok_many i l I J (v 1) ∧ (if mj_cnd .ge (v 5) (a_many i l I J (v 1)) = true then (if mj_cnd .eq (v 9) (0 : Int32) = true then (ok_fail i l I J (5 : Int32) (v 2) ∧ True) else (if mj_cnd .gt (v 9) (18 : Int32) = true then (ok_fail i l I J (5 : Int32) (v 2) ∧ True) else (ok_many i l I J (v 1) ∧ okl_numbersIn n 218 i l I J v w))) else (ok_number i l I J (v 1) (v 5) ∧ (if mj_cnd .lt (lg_cmp (a_number i l I J (v 1) (v 5)) (48 : Int64)) (0 : Int32) = true then (if mj_cnd .eq (v 9) (0 : Int32) = true then (ok_fail i l I J (5 : Int32) (v 2) ∧ True) else (if mj_cnd .gt (v 9) (18 : Int32) = true then (ok_fail i l I J (5 : Int32) (v 2) ∧ True) else (ok_many i l I J (v 1) ∧ (ok_number i l I J (v 1) (v 5) ∧ (if mj_cnd .eq (lg_cmp (a_number i l I J (v 1) (v 5)) (32 : Int64)) (0 : Int32) = true then okl_numbersIn n 218 i l I J v w else (ok_fail i l I J (5 : Int32) (v 2) ∧ True)))))) else (ok_number i l I J (v 1) (v 5) ∧ (if mj_cnd .gt (lg_cmp (a_number i l I J (v 1) (v 5)) (57 : Int64)) (0 : Int32) = true then (if mj_cnd .eq (v 9) (0 : Int32) = true then (ok_fail i l I J (5 : Int32) (v 2) ∧ True) else (if mj_cnd .gt (v 9) (18 : Int32) = true then (ok_fail i l I J (5 : Int32) (v 2) ∧ True) else (ok_many i l I J (v 1) ∧ (ok_number i l I J (v 1) (v 5) ∧ (if mj_cnd .eq (lg_cmp (a_number i l I J (v 1) (v 5)) (32 : Int64)) (0 : Int32) = true then okl_numbersIn n 218 i l I J v w else (ok_fail i l I J (5 : Int32) (v 2) ∧ True)))))) else (if mj_cnd .ge (v 9) (19 : Int32) = true then (if mj_cnd .eq (v 9) (0 : Int32) = true then (ok_fail i l I J (5 : Int32) (v 2) ∧ True) else (if mj_cnd .gt (v 9) (18 : Int32) = true then (ok_fail i l I J (5 : Int32) (v 2) ∧ True) else (ok_many i l I J (v 1) ∧ (ok_number i l I J (v 1) (v 5) ∧ (if mj_cnd .eq (lg_cmp (a_number i l I J (v 1) (v 5)) (32 : Int64)) (0 : Int32) = true then okl_numbersIn n 218 i l I J v w else (ok_fail i l I J (5 : Int32) (v 2) ∧ True)))))) else (ok_number i l I J (v 1) (v 5) ∧ okl_numbersIn n 101 i l I J (upd (upd v 5 ((v 5) + Int32.ofInt (1))) 9 ((v 9) + Int32.ofInt (1))) (vp_updL w 7 ((((10 : Int64) * (w 7)) + (a_number i l I J (v 1) (v 5))) - (48 : Int64)))))))))))
    | 218 => (if mj_cnd .eq (v 6) (0 : Int32) = true then (¬ (((v 3) + (v 4)) < 0 ∨ 820000 ≤ (((v 3) + (v 4))).toNatClampNeg) ∧ okl_numbersIn n 36 i l I (va_up J 0 (vp_updL (J 0) (((v 3) + (v 4))).toNatClampNeg (w 7))) (upd v 4 ((v 4) + Int32.ofInt (1))) w) else (¬ (((v 3) + (v 4)) < 0 ∨ 820000 ≤ (((v 3) + (v 4))).toNatClampNeg) ∧ okl_numbersIn n 36 i l I (va_up J 0 (vp_updL (J 0) (((v 3) + (v 4))).toNatClampNeg (-(w 7)))) (upd v 4 ((v 4) + Int32.ofInt (1))) w))
    | _ => False
def s_numbersIn (n : Nat) (i : Nat → Int32) (l : Nat → Int64) (I : Nat → Nat → Int32) (J : Nat → Nat → Int64) (p0 : Int32) (p1 : Int32) : Int32 × (Nat → Int32) × (Nat → Int64) × (Nat → Nat → Int32) × (Nat → Nat → Int64) := (if mj_cnd .eq (a_kindOf i l I J p0) (1 : Int32) = true then lp_numbersIn n 36 i l I J (upd (upd (upd (upd (upd (fun _ => 0) 1 p0) 2 p1) 3 (i 3)) 4 (0 : Int32)) 5 (0 : Int32)) (fun _ => 0) else (if mj_cnd .eq (a_kindOf i l I J p0) (3 : Int32) = true then lp_numbersIn n 36 i l I J (upd (upd (upd (upd (upd (fun _ => 0) 1 p0) 2 p1) 3 (i 3)) 4 (0 : Int32)) 5 (0 : Int32)) (fun _ => 0) else ((a_fail i l I J (3 : Int32) p1), (si_fail i l I J (3 : Int32) p1), l, I, J)))
def ok_numbersIn (n : Nat) (i : Nat → Int32) (l : Nat → Int64) (I : Nat → Nat → Int32) (J : Nat → Nat → Int64) (p0 : Int32) (p1 : Int32) : Prop := (ok_kindOf i l I J p0 ∧ (if mj_cnd .eq (a_kindOf i l I J p0) (1 : Int32) = true then okl_numbersIn n 36 i l I J (upd (upd (upd (upd (upd (fun _ => 0) 1 p0) 2 p1) 3 (i 3)) 4 (0 : Int32)) 5 (0 : Int32)) (fun _ => 0) else (ok_kindOf i l I J p0 ∧ (if mj_cnd .eq (a_kindOf i l I J p0) (3 : Int32) = true then okl_numbersIn n 36 i l I J (upd (upd (upd (upd (upd (fun _ => 0) 1 p0) 2 p1) 3 (i 3)) 4 (0 : Int32)) 5 (0 : Int32)) (fun _ => 0) else (ok_fail i l I J (3 : Int32) p1 ∧ True)))))
set_option maxRecDepth 20000 in
theorem ql_numbersIn {xt : mj_X} {pre post : mj_H} {m : Nat} {d : Nat} (hm : pre.length = m) (h2 : 2 ≤ m) : ∀ n : Nat, (∀ i l I J v w, okl_numbersIn n 36 i l I J v w → mjR (fun N => mj_call (mj_mmof pg_ms) (mj_TTof pg_TL) xt pg_tl 2 (d + 3) N) (mj_TTof pg_TL 12).1 (mj_TTof pg_TL 12).2 xt pg_tl 2 10 (d + 3) false (Option.some Jvm.ClassFile.FieldType.int) (mj_dec prog_14_method_41_code) 36 [(0, .ref m), (1, .int (v 1)), (2, .int (v 2)), (3, .int (v 3)), (4, .int (v 4)), (5, .int (v 5))] [] (rH pre post m i l I J) (some (.int (lp_numbersIn n 36 i l I J v w).1)) (rH pre post m (lp_numbersIn n 36 i l I J v w).2.1 (lp_numbersIn n 36 i l I J v w).2.2.1 (lp_numbersIn n 36 i l I J v w).2.2.2.1 (lp_numbersIn n 36 i l I J v w).2.2.2.2)) ∧ (∀ i l I J v w, okl_numbersIn n 95 i l I J v w → mjR (fun N => mj_call (mj_mmof pg_ms) (mj_TTof pg_TL) xt pg_tl 2 (d + 3) N) (mj_TTof pg_TL 12).1 (mj_TTof pg_TL 12).2 xt pg_tl 2 10 (d + 3) false (Option.some Jvm.ClassFile.FieldType.int) (mj_dec prog_14_method_41_code) 95 [(0, .ref m), (1, .int (v 1)), (2, .int (v 2)), (3, .int (v 3)), (4, .int (v 4)), (5, .int (v 5)), (6, .int (v 6))] [] (rH pre post m i l I J) (some (.int (lp_numbersIn n 95 i l I J v w).1)) (rH pre post m (lp_numbersIn n 95 i l I J v w).2.1 (lp_numbersIn n 95 i l I J v w).2.2.1 (lp_numbersIn n 95 i l I J v w).2.2.2.1 (lp_numbersIn n 95 i l I J v w).2.2.2.2)) ∧ (∀ i l I J v w, okl_numbersIn n 101 i l I J v w → mjR (fun N => mj_call (mj_mmof pg_ms) (mj_TTof pg_TL) xt pg_tl 2 (d + 3) N) (mj_TTof pg_TL 12).1 (mj_TTof pg_TL 12).2 xt pg_tl 2 10 (d + 3) false (Option.some Jvm.ClassFile.FieldType.int) (mj_dec prog_14_method_41_code) 101 [(0, .ref m), (1, .int (v 1)), (2, .int (v 2)), (3, .int (v 3)), (4, .int (v 4)), (5, .int (v 5)), (6, .int (v 6)), (7, .long (w 7)), (9, .int (v 9))] [] (rH pre post m i l I J) (some (.int (lp_numbersIn n 101 i l I J v w).1)) (rH pre post m (lp_numbersIn n 101 i l I J v w).2.1 (lp_numbersIn n 101 i l I J v w).2.2.1 (lp_numbersIn n 101 i l I J v w).2.2.2.1 (lp_numbersIn n 101 i l I J v w).2.2.2.2)) ∧ (∀ i l I J v w, okl_numbersIn n 218 i l I J v w → mjR (fun N => mj_call (mj_mmof pg_ms) (mj_TTof pg_TL) xt pg_tl 2 (d + 3) N) (mj_TTof pg_TL 12).1 (mj_TTof pg_TL 12).2 xt pg_tl 2 10 (d + 3) false (Option.some Jvm.ClassFile.FieldType.int) (mj_dec prog_14_method_41_code) 218 [(0, .ref m), (1, .int (v 1)), (2, .int (v 2)), (3, .int (v 3)), (4, .int (v 4)), (5, .int (v 5)), (6, .int (v 6)), (7, .long (w 7))] [] (rH pre post m i l I J) (some (.int (lp_numbersIn n 218 i l I J v w).1)) (rH pre post m (lp_numbersIn n 218 i l I J v w).2.1 (lp_numbersIn n 218 i l I J v w).2.2.1 (lp_numbersIn n 218 i l I J v w).2.2.2.1 (lp_numbersIn n 218 i l I J v w).2.2.2.2)) := by
  intro n
  induction n with
  | zero => exact ⟨fun i l I J v w h => absurd h id, fun i l I J v w h => absurd h id, fun i l I J v w h => absurd h id, fun i l I J v w h => absurd h id⟩
  | succ n ih =>
    refine ⟨?_, ?_, ?_, ?_⟩
    · intro i l I J v w hok
      have hok : (ok_many i l I J (v 1) ∧ (if mj_cnd .ge (v 5) (a_many i l I J (v 1)) = true then (ok_row i l I J (5 : Int32) (v 4) ∧ (ok_settled n (si_row i l I J (5 : Int32) (v 4)) l (sI_row i l I J (5 : Int32) (v 4)) J (a_row i l I J (5 : Int32) (v 4)) ∧ True)) else (ok_number i l I J (v 1) (v 5) ∧ (if mj_cnd .ne (lg_cmp (a_number i l I J (v 1) (v 5)) (32 : Int64)) (0 : Int32) = true then (ok_number i l I J (v 1) (v 5) ∧ (if mj_cnd .ne (lg_cmp (a_number i l I J (v 1) (v 5)) (95 : Int64)) (0 : Int32) = true then okl_numbersIn n 95 i l I J (upd v 6 (0 : Int32)) w else okl_numbersIn n 95 i l I J (upd (upd v 5 ((v 5) + Int32.ofInt (1))) 6 (1 : Int32)) w)) else okl_numbersIn n 36 i l I J (upd v 5 ((v 5) + Int32.ofInt (1))) w)))) := hok
      refine ms1 dm_numbersIn_36 rfl rfl rfl rfl ?_
      refine ms1 dm_numbersIn_38 rfl rfl rfl rfl ?_
      refine ms1 dm_numbersIn_39 rfl rfl rfl rfl ?_
      obtain ⟨ho, hok⟩ := hok
      refine ms4 dm_numbersIn_40 rfl (r_inv (As := [.int (v 1)]) hm h2 rfl rfl rfl) (q_many hm h2 ho) rfl rfl rfl ?_
      refine ms_2c dm_numbersIn_43 rfl rfl (fun hb1 => ?_) (fun hb1 => ?_)
      · have hb1 : mj_cnd .ge (v 5) (a_many i l I J (v 1)) = true := hb1
        rw [if_pos hb1] at hok
        refine ms1 dm_numbersIn_246 rfl rfl rfl rfl ?_
        refine ms1 dm_numbersIn_247 rfl rfl rfl rfl ?_
        refine ms0 (S' := .int (5 : Int32) :: _) dm_numbersIn_248 rfl rfl rfl rfl ?_
        refine ms1 dm_numbersIn_249 rfl rfl rfl rfl ?_
        obtain ⟨ho, hok⟩ := hok
        refine ms4 dm_numbersIn_251 rfl (r_inv (As := [.int (5 : Int32), .int (v 4)]) hm h2 rfl rfl rfl) (q_row hm h2 ho) rfl rfl rfl ?_
        obtain ⟨ho, hok⟩ := hok
        refine ms4 dm_numbersIn_254 rfl (r_inv (As := [.int (a_row i l I J (5 : Int32) (v 4))]) hm h2 rfl rfl rfl) (q_settled hm h2 ho) rfl rfl rfl ?_
        have he : lp_numbersIn (n + 1) 36 i l I J v w = (((s_settled n (si_row i l I J (5 : Int32) (v 4)) l (sI_row i l I J (5 : Int32) (v 4)) J (a_row i l I J (5 : Int32) (v 4))).1), ((s_settled n (si_row i l I J (5 : Int32) (v 4)) l (sI_row i l I J (5 : Int32) (v 4)) J (a_row i l I J (5 : Int32) (v 4))).2.1), ((s_settled n (si_row i l I J (5 : Int32) (v 4)) l (sI_row i l I J (5 : Int32) (v 4)) J (a_row i l I J (5 : Int32) (v 4))).2.2.1), ((s_settled n (si_row i l I J (5 : Int32) (v 4)) l (sI_row i l I J (5 : Int32) (v 4)) J (a_row i l I J (5 : Int32) (v 4))).2.2.2.1), ((s_settled n (si_row i l I J (5 : Int32) (v 4)) l (sI_row i l I J (5 : Int32) (v 4)) J (a_row i l I J (5 : Int32) (v 4))).2.2.2.2)) := by
          rw [lb_numbersIn_36]
          simp only [hb1, Bool.false_eq_true, if_true, if_false]
        rw [he]
        exact ms5 dm_numbersIn_257 rfl rfl rfl
      · have hb1 : ¬ (mj_cnd .ge (v 5) (a_many i l I J (v 1)) = true) := hb1
        rw [if_neg hb1] at hok
        refine ms1 dm_numbersIn_46 rfl rfl rfl rfl ?_
        refine ms1 dm_numbersIn_47 rfl rfl rfl rfl ?_
        refine ms1 dm_numbersIn_48 rfl rfl rfl rfl ?_
        obtain ⟨ho, hok⟩ := hok
        refine ms4 dm_numbersIn_50 rfl (r_inv (As := [.int (v 1), .int (v 5)]) hm h2 rfl rfl rfl) (q_number hm h2 ho) rfl rfl rfl ?_
        refine ms3 (S' := .long (32 : Int64) :: _) dm_numbersIn_53 rfl rfl rfl rfl ?_
        refine ms0 dm_numbersIn_56 rfl rfl rfl rfl ?_
        refine ms_1c dm_numbersIn_57 rfl rfl (fun hb2 => ?_) (fun hb2 => ?_)
        · have hb2 : mj_cnd .ne (lg_cmp (a_number i l I J (v 1) (v 5)) (32 : Int64)) (0 : Int32) = true := hb2
          rw [if_pos hb2] at hok
          refine ms1 dm_numbersIn_66 rfl rfl rfl rfl ?_
          refine ms1 dm_numbersIn_67 rfl rfl rfl rfl ?_
          refine ms1 dm_numbersIn_68 rfl rfl rfl rfl ?_
          obtain ⟨ho, hok⟩ := hok
          refine ms4 dm_numbersIn_70 rfl (r_inv (As := [.int (v 1), .int (v 5)]) hm h2 rfl rfl rfl) (q_number hm h2 ho) rfl rfl rfl ?_
          refine ms3 (S' := .long (95 : Int64) :: _) dm_numbersIn_73 rfl rfl rfl rfl ?_
          refine ms0 dm_numbersIn_76 rfl rfl rfl rfl ?_
          refine ms_1c dm_numbersIn_77 rfl rfl (fun hb3 => ?_) (fun hb3 => ?_)
          · have hb3 : mj_cnd .ne (lg_cmp (a_number i l I J (v 1) (v 5)) (95 : Int64)) (0 : Int32) = true := hb3
            rw [if_pos hb3] at hok
            refine ms0 (S' := .int (0 : Int32) :: _) dm_numbersIn_84 rfl rfl rfl rfl ?_
            refine ms1 dm_numbersIn_85 rfl rfl rfl rfl ?_
            refine ms1 dm_numbersIn_87 rfl rfl rfl rfl ?_
            refine ms_1t dm_numbersIn_89 rfl rfl ?_
            have he : lp_numbersIn (n + 1) 36 i l I J v w = lp_numbersIn n 95 i l I J (upd v 6 (0 : Int32)) w := by
              rw [lb_numbersIn_36]
              simp only [hb1, hb2, hb3, Bool.false_eq_true, if_true, if_false]
            rw [he]
            exact mjR_sub rfl rfl rfl (ih.2.1 _ _ _ _ _ _ hok)
          · have hb3 : ¬ (mj_cnd .ne (lg_cmp (a_number i l I J (v 1) (v 5)) (95 : Int64)) (0 : Int32) = true) := hb3
            rw [if_neg hb3] at hok
            refine ms0 (S' := .int (1 : Int32) :: _) dm_numbersIn_80 rfl rfl rfl rfl ?_
            refine ms2 dm_numbersIn_81 rfl rfl rfl ?_
            refine ms1 dm_numbersIn_85 rfl rfl rfl rfl ?_
            refine ms1 dm_numbersIn_87 rfl rfl rfl rfl ?_
            refine ms_1f dm_numbersIn_89 rfl (by decide) rfl ?_
            refine ms1 dm_numbersIn_92 rfl rfl rfl rfl ?_
            have he : lp_numbersIn (n + 1) 36 i l I J v w = lp_numbersIn n 95 i l I J (upd (upd v 5 ((v 5) + Int32.ofInt (1))) 6 (1 : Int32)) w := by
              rw [lb_numbersIn_36]
              simp only [hb1, hb2, hb3, Bool.false_eq_true, if_true, if_false]
            rw [he]
            exact mjR_sub rfl rfl rfl (ih.2.1 _ _ _ _ _ _ hok)
        · have hb2 : ¬ (mj_cnd .ne (lg_cmp (a_number i l I J (v 1) (v 5)) (32 : Int64)) (0 : Int32) = true) := hb2
          rw [if_neg hb2] at hok
          refine ms1 dm_numbersIn_60 rfl rfl rfl rfl ?_
          refine ms2 dm_numbersIn_63 rfl rfl rfl ?_
          have he : lp_numbersIn (n + 1) 36 i l I J v w = lp_numbersIn n 36 i l I J (upd v 5 ((v 5) + Int32.ofInt (1))) w := by
            rw [lb_numbersIn_36]
            simp only [hb1, hb2, Bool.false_eq_true, if_true, if_false]
          rw [he]
          exact mjR_sub rfl rfl rfl (ih.1 _ _ _ _ _ _ hok)
    · intro i l I J v w hok
      have hok : okl_numbersIn n 101 i l I J (upd v 9 (0 : Int32)) (vp_updL w 7 (0 : Int64)) := hok
      refine ms0 (S' := .long (0 : Int64) :: _) dm_numbersIn_95 rfl rfl rfl rfl ?_
      refine ms1 dm_numbersIn_96 rfl rfl rfl rfl ?_
      refine ms0 (S' := .int (0 : Int32) :: _) dm_numbersIn_98 rfl rfl rfl rfl ?_
      refine ms1 dm_numbersIn_99 rfl rfl rfl rfl ?_
      have he : lp_numbersIn (n + 1) 95 i l I J v w = lp_numbersIn n 101 i l I J (upd v 9 (0 : Int32)) (vp_updL w 7 (0 : Int64)) := by
        rw [lb_numbersIn_95]
      rw [he]
      exact mjR_sub rfl rfl rfl (ih.2.2.1 _ _ _ _ _ _ hok)
    · intro i l I J v w hok
      have hok : (ok_many i l I J (v 1) ∧ (if mj_cnd .ge (v 5) (a_many i l I J (v 1)) = true then (if mj_cnd .eq (v 9) (0 : Int32) = true then (ok_fail i l I J (5 : Int32) (v 2) ∧ True) else (if mj_cnd .gt (v 9) (18 : Int32) = true then (ok_fail i l I J (5 : Int32) (v 2) ∧ True) else (ok_many i l I J (v 1) ∧ okl_numbersIn n 218 i l I J v w))) else (ok_number i l I J (v 1) (v 5) ∧ (if mj_cnd .lt (lg_cmp (a_number i l I J (v 1) (v 5)) (48 : Int64)) (0 : Int32) = true then (if mj_cnd .eq (v 9) (0 : Int32) = true then (ok_fail i l I J (5 : Int32) (v 2) ∧ True) else (if mj_cnd .gt (v 9) (18 : Int32) = true then (ok_fail i l I J (5 : Int32) (v 2) ∧ True) else (ok_many i l I J (v 1) ∧ (ok_number i l I J (v 1) (v 5) ∧ (if mj_cnd .eq (lg_cmp (a_number i l I J (v 1) (v 5)) (32 : Int64)) (0 : Int32) = true then okl_numbersIn n 218 i l I J v w else (ok_fail i l I J (5 : Int32) (v 2) ∧ True)))))) else (ok_number i l I J (v 1) (v 5) ∧ (if mj_cnd .gt (lg_cmp (a_number i l I J (v 1) (v 5)) (57 : Int64)) (0 : Int32) = true then (if mj_cnd .eq (v 9) (0 : Int32) = true then (ok_fail i l I J (5 : Int32) (v 2) ∧ True) else (if mj_cnd .gt (v 9) (18 : Int32) = true then (ok_fail i l I J (5 : Int32) (v 2) ∧ True) else (ok_many i l I J (v 1) ∧ (ok_number i l I J (v 1) (v 5) ∧ (if mj_cnd .eq (lg_cmp (a_number i l I J (v 1) (v 5)) (32 : Int64)) (0 : Int32) = true then okl_numbersIn n 218 i l I J v w else (ok_fail i l I J (5 : Int32) (v 2) ∧ True)))))) else (if mj_cnd .ge (v 9) (19 : Int32) = true then (if mj_cnd .eq (v 9) (0 : Int32) = true then (ok_fail i l I J (5 : Int32) (v 2) ∧ True) else (if mj_cnd .gt (v 9) (18 : Int32) = true then (ok_fail i l I J (5 : Int32) (v 2) ∧ True) else (ok_many i l I J (v 1) ∧ (ok_number i l I J (v 1) (v 5) ∧ (if mj_cnd .eq (lg_cmp (a_number i l I J (v 1) (v 5)) (32 : Int64)) (0 : Int32) = true then okl_numbersIn n 218 i l I J v w else (ok_fail i l I J (5 : Int32) (v 2) ∧ True)))))) else (ok_number i l I J (v 1) (v 5) ∧ okl_numbersIn n 101 i l I J (upd (upd v 5 ((v 5) + Int32.ofInt (1))) 9 ((v 9) + Int32.ofInt (1))) (vp_updL w 7 ((((10 : Int64) * (w 7)) + (a_number i l I J (v 1) (v 5))) - (48 : Int64))))))))))) := hok
      refine ms1 dm_numbersIn_101 rfl rfl rfl rfl ?_
      refine ms1 dm_numbersIn_103 rfl rfl rfl rfl ?_
      refine ms1 dm_numbersIn_104 rfl rfl rfl rfl ?_
      obtain ⟨ho, hok⟩ := hok
      refine ms4 dm_numbersIn_105 rfl (r_inv (As := [.int (v 1)]) hm h2 rfl rfl rfl) (q_many hm h2 ho) rfl rfl rfl ?_
      refine ms_2c dm_numbersIn_108 rfl rfl (fun hb1 => ?_) (fun hb1 => ?_)
      · have hb1 : mj_cnd .ge (v 5) (a_many i l I J (v 1)) = true := hb1
        rw [if_pos hb1] at hok
        refine ms1 dm_numbersIn_175 rfl rfl rfl rfl ?_
        refine ms_1c dm_numbersIn_177 rfl rfl (fun hb2 => ?_) (fun hb2 => ?_)
        · have hb2 : mj_cnd .eq (v 9) (0 : Int32) = true := hb2
          rw [if_pos hb2] at hok
          refine ms1 dm_numbersIn_211 rfl rfl rfl rfl ?_
          refine ms0 (S' := .int (5 : Int32) :: _) dm_numbersIn_212 rfl rfl rfl rfl ?_
          refine ms1 dm_numbersIn_213 rfl rfl rfl rfl ?_
          obtain ⟨ho, hok⟩ := hok
          refine ms4 dm_numbersIn_214 rfl (r_inv (As := [.int (5 : Int32), .int (v 2)]) hm h2 rfl rfl rfl) (q_fail hm h2 ho) rfl rfl rfl ?_
          have he : lp_numbersIn (n + 1) 101 i l I J v w = ((a_fail i l I J (5 : Int32) (v 2)), (si_fail i l I J (5 : Int32) (v 2)), l, I, J) := by
            rw [lb_numbersIn_101]
            simp only [hb1, hb2, Bool.false_eq_true, if_true, if_false]
          rw [he]
          exact ms5 dm_numbersIn_217 rfl rfl rfl
        · have hb2 : ¬ (mj_cnd .eq (v 9) (0 : Int32) = true) := hb2
          rw [if_neg hb2] at hok
          refine ms1 dm_numbersIn_180 rfl rfl rfl rfl ?_
          refine ms0 (S' := .int (18 : Int32) :: _) dm_numbersIn_182 rfl rfl rfl rfl ?_
          refine ms_2c dm_numbersIn_184 rfl rfl (fun hb3 => ?_) (fun hb3 => ?_)
          · have hb3 : mj_cnd .gt (v 9) (18 : Int32) = true := hb3
            rw [if_pos hb3] at hok
            refine ms1 dm_numbersIn_211 rfl rfl rfl rfl ?_
            refine ms0 (S' := .int (5 : Int32) :: _) dm_numbersIn_212 rfl rfl rfl rfl ?_
            refine ms1 dm_numbersIn_213 rfl rfl rfl rfl ?_
            obtain ⟨ho, hok⟩ := hok
            refine ms4 dm_numbersIn_214 rfl (r_inv (As := [.int (5 : Int32), .int (v 2)]) hm h2 rfl rfl rfl) (q_fail hm h2 ho) rfl rfl rfl ?_
            have he : lp_numbersIn (n + 1) 101 i l I J v w = ((a_fail i l I J (5 : Int32) (v 2)), (si_fail i l I J (5 : Int32) (v 2)), l, I, J) := by
              rw [lb_numbersIn_101]
              simp only [hb1, hb2, hb3, Bool.false_eq_true, if_true, if_false]
            rw [he]
            exact ms5 dm_numbersIn_217 rfl rfl rfl
          · have hb3 : ¬ (mj_cnd .gt (v 9) (18 : Int32) = true) := hb3
            rw [if_neg hb3] at hok
            refine ms1 dm_numbersIn_187 rfl rfl rfl rfl ?_
            refine ms1 dm_numbersIn_189 rfl rfl rfl rfl ?_
            refine ms1 dm_numbersIn_190 rfl rfl rfl rfl ?_
            obtain ⟨ho, hok⟩ := hok
            refine ms4 dm_numbersIn_191 rfl (r_inv (As := [.int (v 1)]) hm h2 rfl rfl rfl) (q_many hm h2 ho) rfl rfl rfl ?_
            refine ms_2t dm_numbersIn_194 rfl hb1 ?_
            have he : lp_numbersIn (n + 1) 101 i l I J v w = lp_numbersIn n 218 i l I J v w := by
              rw [lb_numbersIn_101]
              simp only [hb1, hb2, hb3, Bool.false_eq_true, if_true, if_false]
            rw [he]
            exact mjR_sub rfl rfl rfl (ih.2.2.2 _ _ _ _ _ _ hok)
      · have hb1 : ¬ (mj_cnd .ge (v 5) (a_many i l I J (v 1)) = true) := hb1
        rw [if_neg hb1] at hok
        refine ms1 dm_numbersIn_111 rfl rfl rfl rfl ?_
        refine ms1 dm_numbersIn_112 rfl rfl rfl rfl ?_
        refine ms1 dm_numbersIn_113 rfl rfl rfl rfl ?_
        obtain ⟨ho, hok⟩ := hok
        refine ms4 dm_numbersIn_115 rfl (r_inv (As := [.int (v 1), .int (v 5)]) hm h2 rfl rfl rfl) (q_number hm h2 ho) rfl rfl rfl ?_
        refine ms3 (S' := .long (48 : Int64) :: _) dm_numbersIn_118 rfl rfl rfl rfl ?_
        refine ms0 dm_numbersIn_121 rfl rfl rfl rfl ?_
        refine ms_1c dm_numbersIn_122 rfl rfl (fun hb4 => ?_) (fun hb4 => ?_)
        · have hb4 : mj_cnd .lt (lg_cmp (a_number i l I J (v 1) (v 5)) (48 : Int64)) (0 : Int32) = true := hb4
          rw [if_pos hb4] at hok
          refine ms1 dm_numbersIn_175 rfl rfl rfl rfl ?_
          refine ms_1c dm_numbersIn_177 rfl rfl (fun hb5 => ?_) (fun hb5 => ?_)
          · have hb5 : mj_cnd .eq (v 9) (0 : Int32) = true := hb5
            rw [if_pos hb5] at hok
            refine ms1 dm_numbersIn_211 rfl rfl rfl rfl ?_
            refine ms0 (S' := .int (5 : Int32) :: _) dm_numbersIn_212 rfl rfl rfl rfl ?_
            refine ms1 dm_numbersIn_213 rfl rfl rfl rfl ?_
            obtain ⟨ho, hok⟩ := hok
            refine ms4 dm_numbersIn_214 rfl (r_inv (As := [.int (5 : Int32), .int (v 2)]) hm h2 rfl rfl rfl) (q_fail hm h2 ho) rfl rfl rfl ?_
            have he : lp_numbersIn (n + 1) 101 i l I J v w = ((a_fail i l I J (5 : Int32) (v 2)), (si_fail i l I J (5 : Int32) (v 2)), l, I, J) := by
              rw [lb_numbersIn_101]
              simp only [hb1, hb4, hb5, Bool.false_eq_true, if_true, if_false]
            rw [he]
            exact ms5 dm_numbersIn_217 rfl rfl rfl
          · have hb5 : ¬ (mj_cnd .eq (v 9) (0 : Int32) = true) := hb5
            rw [if_neg hb5] at hok
            refine ms1 dm_numbersIn_180 rfl rfl rfl rfl ?_
            refine ms0 (S' := .int (18 : Int32) :: _) dm_numbersIn_182 rfl rfl rfl rfl ?_
            refine ms_2c dm_numbersIn_184 rfl rfl (fun hb6 => ?_) (fun hb6 => ?_)
            · have hb6 : mj_cnd .gt (v 9) (18 : Int32) = true := hb6
              rw [if_pos hb6] at hok
              refine ms1 dm_numbersIn_211 rfl rfl rfl rfl ?_
              refine ms0 (S' := .int (5 : Int32) :: _) dm_numbersIn_212 rfl rfl rfl rfl ?_
              refine ms1 dm_numbersIn_213 rfl rfl rfl rfl ?_
              obtain ⟨ho, hok⟩ := hok
              refine ms4 dm_numbersIn_214 rfl (r_inv (As := [.int (5 : Int32), .int (v 2)]) hm h2 rfl rfl rfl) (q_fail hm h2 ho) rfl rfl rfl ?_
              have he : lp_numbersIn (n + 1) 101 i l I J v w = ((a_fail i l I J (5 : Int32) (v 2)), (si_fail i l I J (5 : Int32) (v 2)), l, I, J) := by
                rw [lb_numbersIn_101]
                simp only [hb1, hb4, hb5, hb6, Bool.false_eq_true, if_true, if_false]
              rw [he]
              exact ms5 dm_numbersIn_217 rfl rfl rfl
            · have hb6 : ¬ (mj_cnd .gt (v 9) (18 : Int32) = true) := hb6
              rw [if_neg hb6] at hok
              refine ms1 dm_numbersIn_187 rfl rfl rfl rfl ?_
              refine ms1 dm_numbersIn_189 rfl rfl rfl rfl ?_
              refine ms1 dm_numbersIn_190 rfl rfl rfl rfl ?_
              obtain ⟨ho, hok⟩ := hok
              refine ms4 dm_numbersIn_191 rfl (r_inv (As := [.int (v 1)]) hm h2 rfl rfl rfl) (q_many hm h2 ho) rfl rfl rfl ?_
              refine ms_2f dm_numbersIn_194 rfl hb1 rfl ?_
              refine ms1 dm_numbersIn_197 rfl rfl rfl rfl ?_
              refine ms1 dm_numbersIn_198 rfl rfl rfl rfl ?_
              refine ms1 dm_numbersIn_199 rfl rfl rfl rfl ?_
              obtain ⟨ho, hok⟩ := hok
              refine ms4 dm_numbersIn_201 rfl (r_inv (As := [.int (v 1), .int (v 5)]) hm h2 rfl rfl rfl) (q_number hm h2 ho) rfl rfl rfl ?_
              refine ms3 (S' := .long (32 : Int64) :: _) dm_numbersIn_204 rfl rfl rfl rfl ?_
              refine ms0 dm_numbersIn_207 rfl rfl rfl rfl ?_
              refine ms_1c dm_numbersIn_208 rfl rfl (fun hb7 => ?_) (fun hb7 => ?_)
              · have hb7 : mj_cnd .eq (lg_cmp (a_number i l I J (v 1) (v 5)) (32 : Int64)) (0 : Int32) = true := hb7
                rw [if_pos hb7] at hok
                have he : lp_numbersIn (n + 1) 101 i l I J v w = lp_numbersIn n 218 i l I J v w := by
                  rw [lb_numbersIn_101]
                  simp only [hb1, hb4, hb5, hb6, hb7, Bool.false_eq_true, if_true, if_false]
                rw [he]
                exact mjR_sub rfl rfl rfl (ih.2.2.2 _ _ _ _ _ _ hok)
              · have hb7 : ¬ (mj_cnd .eq (lg_cmp (a_number i l I J (v 1) (v 5)) (32 : Int64)) (0 : Int32) = true) := hb7
                rw [if_neg hb7] at hok
                refine ms1 dm_numbersIn_211 rfl rfl rfl rfl ?_
                refine ms0 (S' := .int (5 : Int32) :: _) dm_numbersIn_212 rfl rfl rfl rfl ?_
                refine ms1 dm_numbersIn_213 rfl rfl rfl rfl ?_
                obtain ⟨ho, hok⟩ := hok
                refine ms4 dm_numbersIn_214 rfl (r_inv (As := [.int (5 : Int32), .int (v 2)]) hm h2 rfl rfl rfl) (q_fail hm h2 ho) rfl rfl rfl ?_
                have he : lp_numbersIn (n + 1) 101 i l I J v w = ((a_fail i l I J (5 : Int32) (v 2)), (si_fail i l I J (5 : Int32) (v 2)), l, I, J) := by
                  rw [lb_numbersIn_101]
                  simp only [hb1, hb4, hb5, hb6, hb7, Bool.false_eq_true, if_true, if_false]
                rw [he]
                exact ms5 dm_numbersIn_217 rfl rfl rfl
        · have hb4 : ¬ (mj_cnd .lt (lg_cmp (a_number i l I J (v 1) (v 5)) (48 : Int64)) (0 : Int32) = true) := hb4
          rw [if_neg hb4] at hok
          refine ms1 dm_numbersIn_125 rfl rfl rfl rfl ?_
          refine ms1 dm_numbersIn_126 rfl rfl rfl rfl ?_
          refine ms1 dm_numbersIn_127 rfl rfl rfl rfl ?_
          obtain ⟨ho, hok⟩ := hok
          refine ms4 dm_numbersIn_129 rfl (r_inv (As := [.int (v 1), .int (v 5)]) hm h2 rfl rfl rfl) (q_number hm h2 ho) rfl rfl rfl ?_
          refine ms3 (S' := .long (57 : Int64) :: _) dm_numbersIn_132 rfl rfl rfl rfl ?_
          refine ms0 dm_numbersIn_135 rfl rfl rfl rfl ?_
          refine ms_1c dm_numbersIn_136 rfl rfl (fun hb8 => ?_) (fun hb8 => ?_)
          · have hb8 : mj_cnd .gt (lg_cmp (a_number i l I J (v 1) (v 5)) (57 : Int64)) (0 : Int32) = true := hb8
            rw [if_pos hb8] at hok
            refine ms1 dm_numbersIn_175 rfl rfl rfl rfl ?_
            refine ms_1c dm_numbersIn_177 rfl rfl (fun hb9 => ?_) (fun hb9 => ?_)
            · have hb9 : mj_cnd .eq (v 9) (0 : Int32) = true := hb9
              rw [if_pos hb9] at hok
              refine ms1 dm_numbersIn_211 rfl rfl rfl rfl ?_
              refine ms0 (S' := .int (5 : Int32) :: _) dm_numbersIn_212 rfl rfl rfl rfl ?_
              refine ms1 dm_numbersIn_213 rfl rfl rfl rfl ?_
              obtain ⟨ho, hok⟩ := hok
              refine ms4 dm_numbersIn_214 rfl (r_inv (As := [.int (5 : Int32), .int (v 2)]) hm h2 rfl rfl rfl) (q_fail hm h2 ho) rfl rfl rfl ?_
              have he : lp_numbersIn (n + 1) 101 i l I J v w = ((a_fail i l I J (5 : Int32) (v 2)), (si_fail i l I J (5 : Int32) (v 2)), l, I, J) := by
                rw [lb_numbersIn_101]
                simp only [hb1, hb4, hb8, hb9, Bool.false_eq_true, if_true, if_false]
              rw [he]
              exact ms5 dm_numbersIn_217 rfl rfl rfl
            · have hb9 : ¬ (mj_cnd .eq (v 9) (0 : Int32) = true) := hb9
              rw [if_neg hb9] at hok
              refine ms1 dm_numbersIn_180 rfl rfl rfl rfl ?_
              refine ms0 (S' := .int (18 : Int32) :: _) dm_numbersIn_182 rfl rfl rfl rfl ?_
              refine ms_2c dm_numbersIn_184 rfl rfl (fun hb10 => ?_) (fun hb10 => ?_)
              · have hb10 : mj_cnd .gt (v 9) (18 : Int32) = true := hb10
                rw [if_pos hb10] at hok
                refine ms1 dm_numbersIn_211 rfl rfl rfl rfl ?_
                refine ms0 (S' := .int (5 : Int32) :: _) dm_numbersIn_212 rfl rfl rfl rfl ?_
                refine ms1 dm_numbersIn_213 rfl rfl rfl rfl ?_
                obtain ⟨ho, hok⟩ := hok
                refine ms4 dm_numbersIn_214 rfl (r_inv (As := [.int (5 : Int32), .int (v 2)]) hm h2 rfl rfl rfl) (q_fail hm h2 ho) rfl rfl rfl ?_
                have he : lp_numbersIn (n + 1) 101 i l I J v w = ((a_fail i l I J (5 : Int32) (v 2)), (si_fail i l I J (5 : Int32) (v 2)), l, I, J) := by
                  rw [lb_numbersIn_101]
                  simp only [hb1, hb4, hb8, hb9, hb10, Bool.false_eq_true, if_true, if_false]
                rw [he]
                exact ms5 dm_numbersIn_217 rfl rfl rfl
              · have hb10 : ¬ (mj_cnd .gt (v 9) (18 : Int32) = true) := hb10
                rw [if_neg hb10] at hok
                refine ms1 dm_numbersIn_187 rfl rfl rfl rfl ?_
                refine ms1 dm_numbersIn_189 rfl rfl rfl rfl ?_
                refine ms1 dm_numbersIn_190 rfl rfl rfl rfl ?_
                obtain ⟨ho, hok⟩ := hok
                refine ms4 dm_numbersIn_191 rfl (r_inv (As := [.int (v 1)]) hm h2 rfl rfl rfl) (q_many hm h2 ho) rfl rfl rfl ?_
                refine ms_2f dm_numbersIn_194 rfl hb1 rfl ?_
                refine ms1 dm_numbersIn_197 rfl rfl rfl rfl ?_
                refine ms1 dm_numbersIn_198 rfl rfl rfl rfl ?_
                refine ms1 dm_numbersIn_199 rfl rfl rfl rfl ?_
                obtain ⟨ho, hok⟩ := hok
                refine ms4 dm_numbersIn_201 rfl (r_inv (As := [.int (v 1), .int (v 5)]) hm h2 rfl rfl rfl) (q_number hm h2 ho) rfl rfl rfl ?_
                refine ms3 (S' := .long (32 : Int64) :: _) dm_numbersIn_204 rfl rfl rfl rfl ?_
                refine ms0 dm_numbersIn_207 rfl rfl rfl rfl ?_
                refine ms_1c dm_numbersIn_208 rfl rfl (fun hb11 => ?_) (fun hb11 => ?_)
                · have hb11 : mj_cnd .eq (lg_cmp (a_number i l I J (v 1) (v 5)) (32 : Int64)) (0 : Int32) = true := hb11
                  rw [if_pos hb11] at hok
                  have he : lp_numbersIn (n + 1) 101 i l I J v w = lp_numbersIn n 218 i l I J v w := by
                    rw [lb_numbersIn_101]
                    simp only [hb1, hb4, hb8, hb9, hb10, hb11, Bool.false_eq_true, if_true, if_false]
                  rw [he]
                  exact mjR_sub rfl rfl rfl (ih.2.2.2 _ _ _ _ _ _ hok)
                · have hb11 : ¬ (mj_cnd .eq (lg_cmp (a_number i l I J (v 1) (v 5)) (32 : Int64)) (0 : Int32) = true) := hb11
                  rw [if_neg hb11] at hok
                  refine ms1 dm_numbersIn_211 rfl rfl rfl rfl ?_
                  refine ms0 (S' := .int (5 : Int32) :: _) dm_numbersIn_212 rfl rfl rfl rfl ?_
                  refine ms1 dm_numbersIn_213 rfl rfl rfl rfl ?_
                  obtain ⟨ho, hok⟩ := hok
                  refine ms4 dm_numbersIn_214 rfl (r_inv (As := [.int (5 : Int32), .int (v 2)]) hm h2 rfl rfl rfl) (q_fail hm h2 ho) rfl rfl rfl ?_
                  have he : lp_numbersIn (n + 1) 101 i l I J v w = ((a_fail i l I J (5 : Int32) (v 2)), (si_fail i l I J (5 : Int32) (v 2)), l, I, J) := by
                    rw [lb_numbersIn_101]
                    simp only [hb1, hb4, hb8, hb9, hb10, hb11, Bool.false_eq_true, if_true, if_false]
                  rw [he]
                  exact ms5 dm_numbersIn_217 rfl rfl rfl
          · have hb8 : ¬ (mj_cnd .gt (lg_cmp (a_number i l I J (v 1) (v 5)) (57 : Int64)) (0 : Int32) = true) := hb8
            rw [if_neg hb8] at hok
            refine ms1 dm_numbersIn_139 rfl rfl rfl rfl ?_
            refine ms0 (S' := .int (19 : Int32) :: _) dm_numbersIn_141 rfl rfl rfl rfl ?_
            refine ms_2c dm_numbersIn_143 rfl rfl (fun hb12 => ?_) (fun hb12 => ?_)
            · have hb12 : mj_cnd .ge (v 9) (19 : Int32) = true := hb12
              rw [if_pos hb12] at hok
              refine ms1 dm_numbersIn_175 rfl rfl rfl rfl ?_
              refine ms_1c dm_numbersIn_177 rfl rfl (fun hb13 => ?_) (fun hb13 => ?_)
              · have hb13 : mj_cnd .eq (v 9) (0 : Int32) = true := hb13
                rw [if_pos hb13] at hok
                refine ms1 dm_numbersIn_211 rfl rfl rfl rfl ?_
                refine ms0 (S' := .int (5 : Int32) :: _) dm_numbersIn_212 rfl rfl rfl rfl ?_
                refine ms1 dm_numbersIn_213 rfl rfl rfl rfl ?_
                obtain ⟨ho, hok⟩ := hok
                refine ms4 dm_numbersIn_214 rfl (r_inv (As := [.int (5 : Int32), .int (v 2)]) hm h2 rfl rfl rfl) (q_fail hm h2 ho) rfl rfl rfl ?_
                have he : lp_numbersIn (n + 1) 101 i l I J v w = ((a_fail i l I J (5 : Int32) (v 2)), (si_fail i l I J (5 : Int32) (v 2)), l, I, J) := by
                  rw [lb_numbersIn_101]
                  simp only [hb1, hb4, hb8, hb12, hb13, Bool.false_eq_true, if_true, if_false]
                rw [he]
                exact ms5 dm_numbersIn_217 rfl rfl rfl
              · have hb13 : ¬ (mj_cnd .eq (v 9) (0 : Int32) = true) := hb13
                rw [if_neg hb13] at hok
                refine ms1 dm_numbersIn_180 rfl rfl rfl rfl ?_
                refine ms0 (S' := .int (18 : Int32) :: _) dm_numbersIn_182 rfl rfl rfl rfl ?_
                refine ms_2c dm_numbersIn_184 rfl rfl (fun hb14 => ?_) (fun hb14 => ?_)
                · have hb14 : mj_cnd .gt (v 9) (18 : Int32) = true := hb14
                  rw [if_pos hb14] at hok
                  refine ms1 dm_numbersIn_211 rfl rfl rfl rfl ?_
                  refine ms0 (S' := .int (5 : Int32) :: _) dm_numbersIn_212 rfl rfl rfl rfl ?_
                  refine ms1 dm_numbersIn_213 rfl rfl rfl rfl ?_
                  obtain ⟨ho, hok⟩ := hok
                  refine ms4 dm_numbersIn_214 rfl (r_inv (As := [.int (5 : Int32), .int (v 2)]) hm h2 rfl rfl rfl) (q_fail hm h2 ho) rfl rfl rfl ?_
                  have he : lp_numbersIn (n + 1) 101 i l I J v w = ((a_fail i l I J (5 : Int32) (v 2)), (si_fail i l I J (5 : Int32) (v 2)), l, I, J) := by
                    rw [lb_numbersIn_101]
                    simp only [hb1, hb4, hb8, hb12, hb13, hb14, Bool.false_eq_true, if_true, if_false]
                  rw [he]
                  exact ms5 dm_numbersIn_217 rfl rfl rfl
                · have hb14 : ¬ (mj_cnd .gt (v 9) (18 : Int32) = true) := hb14
                  rw [if_neg hb14] at hok
                  refine ms1 dm_numbersIn_187 rfl rfl rfl rfl ?_
                  refine ms1 dm_numbersIn_189 rfl rfl rfl rfl ?_
                  refine ms1 dm_numbersIn_190 rfl rfl rfl rfl ?_
                  obtain ⟨ho, hok⟩ := hok
                  refine ms4 dm_numbersIn_191 rfl (r_inv (As := [.int (v 1)]) hm h2 rfl rfl rfl) (q_many hm h2 ho) rfl rfl rfl ?_
                  refine ms_2f dm_numbersIn_194 rfl hb1 rfl ?_
                  refine ms1 dm_numbersIn_197 rfl rfl rfl rfl ?_
                  refine ms1 dm_numbersIn_198 rfl rfl rfl rfl ?_
                  refine ms1 dm_numbersIn_199 rfl rfl rfl rfl ?_
                  obtain ⟨ho, hok⟩ := hok
                  refine ms4 dm_numbersIn_201 rfl (r_inv (As := [.int (v 1), .int (v 5)]) hm h2 rfl rfl rfl) (q_number hm h2 ho) rfl rfl rfl ?_
                  refine ms3 (S' := .long (32 : Int64) :: _) dm_numbersIn_204 rfl rfl rfl rfl ?_
                  refine ms0 dm_numbersIn_207 rfl rfl rfl rfl ?_
                  refine ms_1c dm_numbersIn_208 rfl rfl (fun hb15 => ?_) (fun hb15 => ?_)
                  · have hb15 : mj_cnd .eq (lg_cmp (a_number i l I J (v 1) (v 5)) (32 : Int64)) (0 : Int32) = true := hb15
                    rw [if_pos hb15] at hok
                    have he : lp_numbersIn (n + 1) 101 i l I J v w = lp_numbersIn n 218 i l I J v w := by
                      rw [lb_numbersIn_101]
                      simp only [hb1, hb4, hb8, hb12, hb13, hb14, hb15, Bool.false_eq_true, if_true, if_false]
                    rw [he]
                    exact mjR_sub rfl rfl rfl (ih.2.2.2 _ _ _ _ _ _ hok)
                  · have hb15 : ¬ (mj_cnd .eq (lg_cmp (a_number i l I J (v 1) (v 5)) (32 : Int64)) (0 : Int32) = true) := hb15
                    rw [if_neg hb15] at hok
                    refine ms1 dm_numbersIn_211 rfl rfl rfl rfl ?_
                    refine ms0 (S' := .int (5 : Int32) :: _) dm_numbersIn_212 rfl rfl rfl rfl ?_
                    refine ms1 dm_numbersIn_213 rfl rfl rfl rfl ?_
                    obtain ⟨ho, hok⟩ := hok
                    refine ms4 dm_numbersIn_214 rfl (r_inv (As := [.int (5 : Int32), .int (v 2)]) hm h2 rfl rfl rfl) (q_fail hm h2 ho) rfl rfl rfl ?_
                    have he : lp_numbersIn (n + 1) 101 i l I J v w = ((a_fail i l I J (5 : Int32) (v 2)), (si_fail i l I J (5 : Int32) (v 2)), l, I, J) := by
                      rw [lb_numbersIn_101]
                      simp only [hb1, hb4, hb8, hb12, hb13, hb14, hb15, Bool.false_eq_true, if_true, if_false]
                    rw [he]
                    exact ms5 dm_numbersIn_217 rfl rfl rfl
            · have hb12 : ¬ (mj_cnd .ge (v 9) (19 : Int32) = true) := hb12
              rw [if_neg hb12] at hok
              refine ms3 (S' := .long (10 : Int64) :: _) dm_numbersIn_146 rfl rfl rfl rfl ?_
              refine ms1 dm_numbersIn_149 rfl rfl rfl rfl ?_
              refine ms0 dm_numbersIn_151 rfl rfl rfl rfl ?_
              refine ms1 dm_numbersIn_152 rfl rfl rfl rfl ?_
              refine ms1 dm_numbersIn_153 rfl rfl rfl rfl ?_
              refine ms1 dm_numbersIn_154 rfl rfl rfl rfl ?_
              obtain ⟨ho, hok⟩ := hok
              refine ms4 dm_numbersIn_156 rfl (r_inv (As := [.int (v 1), .int (v 5)]) hm h2 rfl rfl rfl) (q_number hm h2 ho) rfl rfl rfl ?_
              refine ms0 dm_numbersIn_159 rfl rfl rfl rfl ?_
              refine ms3 (S' := .long (48 : Int64) :: _) dm_numbersIn_160 rfl rfl rfl rfl ?_
              refine ms0 dm_numbersIn_163 rfl rfl rfl rfl ?_
              refine ms1 dm_numbersIn_164 rfl rfl rfl rfl ?_
              refine ms1 dm_numbersIn_166 rfl rfl rfl rfl ?_
              refine ms1 dm_numbersIn_169 rfl rfl rfl rfl ?_
              refine ms2 dm_numbersIn_172 rfl rfl rfl ?_
              have he : lp_numbersIn (n + 1) 101 i l I J v w = lp_numbersIn n 101 i l I J (upd (upd v 5 ((v 5) + Int32.ofInt (1))) 9 ((v 9) + Int32.ofInt (1))) (vp_updL w 7 ((((10 : Int64) * (w 7)) + (a_number i l I J (v 1) (v 5))) - (48 : Int64))) := by
                rw [lb_numbersIn_101]
                simp only [hb1, hb4, hb8, hb12, Bool.false_eq_true, if_true, if_false]
              rw [he]
              exact mjR_sub rfl rfl rfl (ih.2.2.1 _ _ _ _ _ _ hok)
    · intro i l I J v w hok
      have hok : (if mj_cnd .eq (v 6) (0 : Int32) = true then (¬ (((v 3) + (v 4)) < 0 ∨ 820000 ≤ (((v 3) + (v 4))).toNatClampNeg) ∧ okl_numbersIn n 36 i l I (va_up J 0 (vp_updL (J 0) (((v 3) + (v 4))).toNatClampNeg (w 7))) (upd v 4 ((v 4) + Int32.ofInt (1))) w) else (¬ (((v 3) + (v 4)) < 0 ∨ 820000 ≤ (((v 3) + (v 4))).toNatClampNeg) ∧ okl_numbersIn n 36 i l I (va_up J 0 (vp_updL (J 0) (((v 3) + (v 4))).toNatClampNeg (-(w 7)))) (upd v 4 ((v 4) + Int32.ofInt (1))) w)) := hok
      refine ms1 dm_numbersIn_218 rfl rfl rfl rfl ?_
      refine ms3 dm_numbersIn_219 (r_get hm h2 rfl (rg_0 _ _ _)) rfl rfl rfl ?_
      refine ms1 dm_numbersIn_222 rfl rfl rfl rfl ?_
      refine ms1 dm_numbersIn_223 rfl rfl rfl rfl ?_
      refine ms0 dm_numbersIn_225 rfl rfl rfl rfl ?_
      refine ms1 dm_numbersIn_226 rfl rfl rfl rfl ?_
      refine ms_1c dm_numbersIn_228 rfl rfl (fun hb1 => ?_) (fun hb1 => ?_)
      · have hb1 : mj_cnd .eq (v 6) (0 : Int32) = true := hb1
        rw [if_pos hb1] at hok
        refine ms1 dm_numbersIn_237 rfl rfl rfl rfl ?_
        obtain ⟨ho, hok⟩ := hok
        refine ms3 dm_numbersIn_239 (r_lastk (k := 0) hm h2 (rc_0 _ _ _ _ _) rfl ho (rs_0 _ _ _ _ _ _)) rfl rfl rfl ?_
        refine ms1 dm_numbersIn_240 rfl rfl rfl rfl ?_
        refine ms2 dm_numbersIn_243 rfl rfl rfl ?_
        have he : lp_numbersIn (n + 1) 218 i l I J v w = lp_numbersIn n 36 i l I (va_up J 0 (vp_updL (J 0) (((v 3) + (v 4))).toNatClampNeg (w 7))) (upd v 4 ((v 4) + Int32.ofInt (1))) w := by
          rw [lb_numbersIn_218]
          simp only [hb1, Bool.false_eq_true, if_true, if_false]
        rw [he]
        exact mjR_sub rfl rfl rfl (ih.1 _ _ _ _ _ _ hok)
      · have hb1 : ¬ (mj_cnd .eq (v 6) (0 : Int32) = true) := hb1
        rw [if_neg hb1] at hok
        refine ms1 dm_numbersIn_231 rfl rfl rfl rfl ?_
        refine ms0 dm_numbersIn_233 rfl rfl rfl rfl ?_
        refine ms2 dm_numbersIn_234 rfl rfl rfl ?_
        obtain ⟨ho, hok⟩ := hok
        refine ms3 dm_numbersIn_239 (r_lastk (k := 0) hm h2 (rc_0 _ _ _ _ _) rfl ho (rs_0 _ _ _ _ _ _)) rfl rfl rfl ?_
        refine ms1 dm_numbersIn_240 rfl rfl rfl rfl ?_
        refine ms2 dm_numbersIn_243 rfl rfl rfl ?_
        have he : lp_numbersIn (n + 1) 218 i l I J v w = lp_numbersIn n 36 i l I (va_up J 0 (vp_updL (J 0) (((v 3) + (v 4))).toNatClampNeg (-(w 7)))) (upd v 4 ((v 4) + Int32.ofInt (1))) w := by
          rw [lb_numbersIn_218]
          simp only [hb1, Bool.false_eq_true, if_true, if_false]
        rw [he]
        exact mjR_sub rfl rfl rfl (ih.1 _ _ _ _ _ _ hok)
set_option maxRecDepth 20000 in
theorem q_numbersIn {xt : mj_X} {pre post : mj_H} {m : Nat} {i : Nat → Int32} {l : Nat → Int64} {I : Nat → Nat → Int32} {J : Nat → Nat → Int64} {d : Nat} (hm : pre.length = m) (h2 : 2 ≤ m) {p0 : Int32} {p1 : Int32} {n : Nat} (hok : ok_numbersIn n i l I J p0 p1) : pgC xt (d + 4) k_numbersIn (.ref m :: [.int p0, .int p1]) (rH pre post m i l I J) (some (.int (s_numbersIn n i l I J p0 p1).1)) (rH pre post m (s_numbersIn n i l I J p0 p1).2.1 (s_numbersIn n i l I J p0 p1).2.2.1 (s_numbersIn n i l I J p0 p1).2.2.2.1 (s_numbersIn n i l I J p0 p1).2.2.2.2) := by
  unfold ok_numbersIn at hok
  refine ms_call pm_numbersIn (Nat.le_of_ble_eq_true rfl) ?_
  dsimp only
  refine ms1 dm_numbersIn_0 rfl rfl rfl rfl ?_
  refine ms1 dm_numbersIn_1 rfl rfl rfl rfl ?_
  obtain ⟨ho, hok⟩ := hok
  refine ms4 dm_numbersIn_2 rfl (r_inv (As := [.int p0]) hm h2 rfl rfl rfl) (q_kindOf hm h2 ho) rfl rfl rfl ?_
  refine ms0 (S' := .int (1 : Int32) :: _) dm_numbersIn_5 rfl rfl rfl rfl ?_
  refine ms_2c dm_numbersIn_6 rfl rfl (fun hb1 => ?_) (fun hb1 => ?_)
  · have hb1 : mj_cnd .eq (a_kindOf i l I J p0) (1 : Int32) = true := hb1
    rw [if_pos hb1] at hok
    refine ms1 dm_numbersIn_25 rfl rfl rfl rfl ?_
    refine ms3 dm_numbersIn_26 (r_get (v := .int (i 3)) hm h2 rfl (rg_3 _ _ _)) rfl rfl rfl ?_
    refine ms1 dm_numbersIn_29 rfl rfl rfl rfl ?_
    refine ms0 (S' := .int (0 : Int32) :: _) dm_numbersIn_30 rfl rfl rfl rfl ?_
    refine ms1 dm_numbersIn_31 rfl rfl rfl rfl ?_
    refine ms0 (S' := .int (0 : Int32) :: _) dm_numbersIn_33 rfl rfl rfl rfl ?_
    refine ms1 dm_numbersIn_34 rfl rfl rfl rfl ?_
    have he : s_numbersIn n i l I J p0 p1 = lp_numbersIn n 36 i l I J (upd (upd (upd (upd (upd (fun _ => 0) 1 p0) 2 p1) 3 (i 3)) 4 (0 : Int32)) 5 (0 : Int32)) (fun _ => 0) := by
      unfold s_numbersIn
      simp only [hb1, Bool.false_eq_true, if_true, if_false]
    rw [he]
    exact mjR_sub rfl rfl rfl ((ql_numbersIn hm h2 n).1 _ _ _ _ _ _ hok)
  · have hb1 : ¬ (mj_cnd .eq (a_kindOf i l I J p0) (1 : Int32) = true) := hb1
    rw [if_neg hb1] at hok
    refine ms1 dm_numbersIn_9 rfl rfl rfl rfl ?_
    refine ms1 dm_numbersIn_10 rfl rfl rfl rfl ?_
    obtain ⟨ho, hok⟩ := hok
    refine ms4 dm_numbersIn_11 rfl (r_inv (As := [.int p0]) hm h2 rfl rfl rfl) (q_kindOf hm h2 ho) rfl rfl rfl ?_
    refine ms0 (S' := .int (3 : Int32) :: _) dm_numbersIn_14 rfl rfl rfl rfl ?_
    refine ms_2c dm_numbersIn_15 rfl rfl (fun hb2 => ?_) (fun hb2 => ?_)
    · have hb2 : mj_cnd .eq (a_kindOf i l I J p0) (3 : Int32) = true := hb2
      rw [if_pos hb2] at hok
      refine ms1 dm_numbersIn_25 rfl rfl rfl rfl ?_
      refine ms3 dm_numbersIn_26 (r_get (v := .int (i 3)) hm h2 rfl (rg_3 _ _ _)) rfl rfl rfl ?_
      refine ms1 dm_numbersIn_29 rfl rfl rfl rfl ?_
      refine ms0 (S' := .int (0 : Int32) :: _) dm_numbersIn_30 rfl rfl rfl rfl ?_
      refine ms1 dm_numbersIn_31 rfl rfl rfl rfl ?_
      refine ms0 (S' := .int (0 : Int32) :: _) dm_numbersIn_33 rfl rfl rfl rfl ?_
      refine ms1 dm_numbersIn_34 rfl rfl rfl rfl ?_
      have he : s_numbersIn n i l I J p0 p1 = lp_numbersIn n 36 i l I J (upd (upd (upd (upd (upd (fun _ => 0) 1 p0) 2 p1) 3 (i 3)) 4 (0 : Int32)) 5 (0 : Int32)) (fun _ => 0) := by
        unfold s_numbersIn
        simp only [hb1, hb2, Bool.false_eq_true, if_true, if_false]
      rw [he]
      exact mjR_sub rfl rfl rfl ((ql_numbersIn hm h2 n).1 _ _ _ _ _ _ hok)
    · have hb2 : ¬ (mj_cnd .eq (a_kindOf i l I J p0) (3 : Int32) = true) := hb2
      rw [if_neg hb2] at hok
      refine ms1 dm_numbersIn_18 rfl rfl rfl rfl ?_
      refine ms0 (S' := .int (3 : Int32) :: _) dm_numbersIn_19 rfl rfl rfl rfl ?_
      refine ms1 dm_numbersIn_20 rfl rfl rfl rfl ?_
      obtain ⟨ho, hok⟩ := hok
      refine ms4 dm_numbersIn_21 rfl (r_inv (As := [.int (3 : Int32), .int p1]) hm h2 rfl rfl rfl) (q_fail hm h2 ho) rfl rfl rfl ?_
      have he : s_numbersIn n i l I J p0 p1 = ((a_fail i l I J (3 : Int32) p1), (si_fail i l I J (3 : Int32) p1), l, I, J) := by
        unfold s_numbersIn
        simp only [hb1, hb2, Bool.false_eq_true, if_true, if_false]
      rw [he]
      exact ms5 dm_numbersIn_24 rfl rfl rfl
def k_shaped : Nat := 288
set_option maxRecDepth 20000 in
theorem pm_shaped : mj_mmof pg_ms k_shaped = some ((⟨"ArrayCalculatorModel", "shaped", "(I)I"⟩, prog_14_method_42_code, 2, (Option.some Jvm.ClassFile.FieldType.int)), 12, false, mj_dec prog_14_method_42_code) := rfl
theorem dm_shaped_0 : mj_dec prog_14_method_42_code 0 = some (.aload_n 0, 1) := by decide +kernel
theorem dm_shaped_1 : mj_dec prog_14_method_42_code 1 = some (.getfield 33, 3) := by decide +kernel
theorem dm_shaped_4 : mj_dec prog_14_method_42_code 4 = some (.iconst 0, 1) := by decide +kernel
theorem dm_shaped_5 : mj_dec prog_14_method_42_code 5 = some (.aload_n 0, 1) := by decide +kernel
theorem dm_shaped_6 : mj_dec prog_14_method_42_code 6 = some (.iload_n 1, 1) := by decide +kernel
theorem dm_shaped_7 : mj_dec prog_14_method_42_code 7 = some (.invokevirtual 134, 3) := by decide +kernel
theorem dm_shaped_10 : mj_dec prog_14_method_42_code 10 = some (.iastore, 1) := by decide +kernel
theorem dm_shaped_11 : mj_dec prog_14_method_42_code 11 = some (.aload_n 0, 1) := by decide +kernel
theorem dm_shaped_12 : mj_dec prog_14_method_42_code 12 = some (.getfield 33, 3) := by decide +kernel
theorem dm_shaped_15 : mj_dec prog_14_method_42_code 15 = some (.iconst 1, 1) := by decide +kernel
theorem dm_shaped_16 : mj_dec prog_14_method_42_code 16 = some (.aload_n 0, 1) := by decide +kernel
theorem dm_shaped_17 : mj_dec prog_14_method_42_code 17 = some (.iload_n 1, 1) := by decide +kernel
theorem dm_shaped_18 : mj_dec prog_14_method_42_code 18 = some (.invokevirtual 156, 3) := by decide +kernel
theorem dm_shaped_21 : mj_dec prog_14_method_42_code 21 = some (.iastore, 1) := by decide +kernel
theorem dm_shaped_22 : mj_dec prog_14_method_42_code 22 = some (.aload_n 0, 1) := by decide +kernel
theorem dm_shaped_23 : mj_dec prog_14_method_42_code 23 = some (.aload_n 0, 1) := by decide +kernel
theorem dm_shaped_24 : mj_dec prog_14_method_42_code 24 = some (.iload_n 1, 1) := by decide +kernel
theorem dm_shaped_25 : mj_dec prog_14_method_42_code 25 = some (.invokevirtual 162, 3) := by decide +kernel
theorem dm_shaped_28 : mj_dec prog_14_method_42_code 28 = some (.ifCond .eq 7, 3) := by decide +kernel
theorem dm_shaped_31 : mj_dec prog_14_method_42_code 31 = some (.iconst 0, 1) := by decide +kernel
theorem dm_shaped_32 : mj_dec prog_14_method_42_code 32 = some (.goto 18, 3) := by decide +kernel
theorem dm_shaped_35 : mj_dec prog_14_method_42_code 35 = some (.aload_n 0, 1) := by decide +kernel
theorem dm_shaped_36 : mj_dec prog_14_method_42_code 36 = some (.iload_n 1, 1) := by decide +kernel
theorem dm_shaped_37 : mj_dec prog_14_method_42_code 37 = some (.invokevirtual 146, 3) := by decide +kernel
theorem dm_shaped_40 : mj_dec prog_14_method_42_code 40 = some (.bipush 6, 2) := by decide +kernel
theorem dm_shaped_42 : mj_dec prog_14_method_42_code 42 = some (.if_icmp .ne 7, 3) := by decide +kernel
theorem dm_shaped_45 : mj_dec prog_14_method_42_code 45 = some (.iconst 2, 1) := by decide +kernel
theorem dm_shaped_46 : mj_dec prog_14_method_42_code 46 = some (.goto 4, 3) := by decide +kernel
theorem dm_shaped_49 : mj_dec prog_14_method_42_code 49 = some (.iconst 1, 1) := by decide +kernel
theorem dm_shaped_50 : mj_dec prog_14_method_42_code 50 = some (.invokevirtual 230, 3) := by decide +kernel
theorem dm_shaped_53 : mj_dec prog_14_method_42_code 53 = some (.ireturn, 1) := by decide +kernel
def lp_shaped : Nat → Nat → (Nat → Int32) → (Nat → Int64) → (Nat → Nat → Int32) → (Nat → Nat → Int64) → (Nat → Int32) → (Nat → Int64) → Int32 × (Nat → Int32) × (Nat → Int64) × (Nat → Nat → Int32) × (Nat → Nat → Int64)
  | 0, _, i, l, I, J, _, _ => (0, i, l, I, J)
  | n + 1, hd, i, l, I, J, v, w => match hd with
    | 22 => (if mj_cnd .eq (a_isOne i l I J (v 1)) (0 : Int32) = true then (if mj_cnd .ne (a_kindOf i l I J (v 1)) (6 : Int32) = true then (((s_places n i l I J (1 : Int32)).1), ((s_places n i l I J (1 : Int32)).2.1), ((s_places n i l I J (1 : Int32)).2.2.1), ((s_places n i l I J (1 : Int32)).2.2.2.1), ((s_places n i l I J (1 : Int32)).2.2.2.2)) else (((s_places n i l I J (2 : Int32)).1), ((s_places n i l I J (2 : Int32)).2.1), ((s_places n i l I J (2 : Int32)).2.2.1), ((s_places n i l I J (2 : Int32)).2.2.2.1), ((s_places n i l I J (2 : Int32)).2.2.2.2))) else (((s_places n i l I J (0 : Int32)).1), ((s_places n i l I J (0 : Int32)).2.1), ((s_places n i l I J (0 : Int32)).2.2.1), ((s_places n i l I J (0 : Int32)).2.2.2.1), ((s_places n i l I J (0 : Int32)).2.2.2.2)))
    | _ => (0, i, l, I, J)
theorem lb_shaped_22 (n : Nat) (i : Nat → Int32) (l : Nat → Int64) (I : Nat → Nat → Int32) (J : Nat → Nat → Int64) (v : Nat → Int32) (w : Nat → Int64) : lp_shaped (n + 1) 22 i l I J v w = (if mj_cnd .eq (a_isOne i l I J (v 1)) (0 : Int32) = true then (if mj_cnd .ne (a_kindOf i l I J (v 1)) (6 : Int32) = true then (((s_places n i l I J (1 : Int32)).1), ((s_places n i l I J (1 : Int32)).2.1), ((s_places n i l I J (1 : Int32)).2.2.1), ((s_places n i l I J (1 : Int32)).2.2.2.1), ((s_places n i l I J (1 : Int32)).2.2.2.2)) else (((s_places n i l I J (2 : Int32)).1), ((s_places n i l I J (2 : Int32)).2.1), ((s_places n i l I J (2 : Int32)).2.2.1), ((s_places n i l I J (2 : Int32)).2.2.2.1), ((s_places n i l I J (2 : Int32)).2.2.2.2))) else (((s_places n i l I J (0 : Int32)).1), ((s_places n i l I J (0 : Int32)).2.1), ((s_places n i l I J (0 : Int32)).2.2.1), ((s_places n i l I J (0 : Int32)).2.2.2.1), ((s_places n i l I J (0 : Int32)).2.2.2.2))) := rfl
def okl_shaped : Nat → Nat → (Nat → Int32) → (Nat → Int64) → (Nat → Nat → Int32) → (Nat → Nat → Int64) → (Nat → Int32) → (Nat → Int64) → Prop
  | 0, _, _, _, _, _, _, _ => False
  | n + 1, hd, i, l, I, J, v, w => match hd with
    | 22 => (ok_isOne i l I J (v 1) ∧ (if mj_cnd .eq (a_isOne i l I J (v 1)) (0 : Int32) = true then (ok_kindOf i l I J (v 1) ∧ (if mj_cnd .ne (a_kindOf i l I J (v 1)) (6 : Int32) = true then (ok_places n i l I J (1 : Int32) ∧ True) else (ok_places n i l I J (2 : Int32) ∧ True))) else (ok_places n i l I J (0 : Int32) ∧ True)))
    | _ => False
def s_shaped (n : Nat) (i : Nat → Int32) (l : Nat → Int64) (I : Nat → Nat → Int32) (J : Nat → Nat → Int64) (p0 : Int32) : Int32 × (Nat → Int32) × (Nat → Int64) × (Nat → Nat → Int32) × (Nat → Nat → Int64) := lp_shaped n 22 i l (va_up (va_up I 14 (upd (I 14) ((0 : Int32)).toNatClampNeg (a_many i l I J p0))) 14 (upd ((va_up I 14 (upd (I 14) ((0 : Int32)).toNatClampNeg (a_many i l I J p0))) 14) ((1 : Int32)).toNatClampNeg (a_columns i l (va_up I 14 (upd (I 14) ((0 : Int32)).toNatClampNeg (a_many i l I J p0))) J p0))) J (upd (fun _ => 0) 1 p0) (fun _ => 0)
def ok_shaped (n : Nat) (i : Nat → Int32) (l : Nat → Int64) (I : Nat → Nat → Int32) (J : Nat → Nat → Int64) (p0 : Int32) : Prop := (ok_many i l I J p0 ∧ (¬ ((0 : Int32) < 0 ∨ 260 ≤ ((0 : Int32)).toNatClampNeg) ∧ (ok_columns i l (va_up I 14 (upd (I 14) ((0 : Int32)).toNatClampNeg (a_many i l I J p0))) J p0 ∧ (¬ ((1 : Int32) < 0 ∨ 260 ≤ ((1 : Int32)).toNatClampNeg) ∧ okl_shaped n 22 i l (va_up (va_up I 14 (upd (I 14) ((0 : Int32)).toNatClampNeg (a_many i l I J p0))) 14 (upd ((va_up I 14 (upd (I 14) ((0 : Int32)).toNatClampNeg (a_many i l I J p0))) 14) ((1 : Int32)).toNatClampNeg (a_columns i l (va_up I 14 (upd (I 14) ((0 : Int32)).toNatClampNeg (a_many i l I J p0))) J p0))) J (upd (fun _ => 0) 1 p0) (fun _ => 0)))))
set_option maxRecDepth 20000 in
theorem ql_shaped {xt : mj_X} {pre post : mj_H} {m : Nat} {d : Nat} (hm : pre.length = m) (h2 : 2 ≤ m) : ∀ n : Nat, (∀ i l I J v w, okl_shaped n 22 i l I J v w → mjR (fun N => mj_call (mj_mmof pg_ms) (mj_TTof pg_TL) xt pg_tl 2 (d + 4) N) (mj_TTof pg_TL 12).1 (mj_TTof pg_TL 12).2 xt pg_tl 2 2 (d + 4) false (Option.some Jvm.ClassFile.FieldType.int) (mj_dec prog_14_method_42_code) 22 [(0, .ref m), (1, .int (v 1))] [] (rH pre post m i l I J) (some (.int (lp_shaped n 22 i l I J v w).1)) (rH pre post m (lp_shaped n 22 i l I J v w).2.1 (lp_shaped n 22 i l I J v w).2.2.1 (lp_shaped n 22 i l I J v w).2.2.2.1 (lp_shaped n 22 i l I J v w).2.2.2.2)) := by
  intro n
  induction n with
  | zero => exact fun i l I J v w h => absurd h id
  | succ n ih =>
    · intro i l I J v w hok
      have hok : (ok_isOne i l I J (v 1) ∧ (if mj_cnd .eq (a_isOne i l I J (v 1)) (0 : Int32) = true then (ok_kindOf i l I J (v 1) ∧ (if mj_cnd .ne (a_kindOf i l I J (v 1)) (6 : Int32) = true then (ok_places n i l I J (1 : Int32) ∧ True) else (ok_places n i l I J (2 : Int32) ∧ True))) else (ok_places n i l I J (0 : Int32) ∧ True))) := hok
      refine ms1 dm_shaped_22 rfl rfl rfl rfl ?_
      refine ms1 dm_shaped_23 rfl rfl rfl rfl ?_
      refine ms1 dm_shaped_24 rfl rfl rfl rfl ?_
      obtain ⟨ho, hok⟩ := hok
      refine ms4 dm_shaped_25 rfl (r_inv (As := [.int (v 1)]) hm h2 rfl rfl rfl) (q_isOne hm h2 ho) rfl rfl rfl ?_
      refine ms_1c dm_shaped_28 rfl rfl (fun hb1 => ?_) (fun hb1 => ?_)
      · have hb1 : mj_cnd .eq (a_isOne i l I J (v 1)) (0 : Int32) = true := hb1
        rw [if_pos hb1] at hok
        refine ms1 dm_shaped_35 rfl rfl rfl rfl ?_
        refine ms1 dm_shaped_36 rfl rfl rfl rfl ?_
        obtain ⟨ho, hok⟩ := hok
        refine ms4 dm_shaped_37 rfl (r_inv (As := [.int (v 1)]) hm h2 rfl rfl rfl) (q_kindOf hm h2 ho) rfl rfl rfl ?_
        refine ms0 (S' := .int (6 : Int32) :: _) dm_shaped_40 rfl rfl rfl rfl ?_
        refine ms_2c dm_shaped_42 rfl rfl (fun hb2 => ?_) (fun hb2 => ?_)
        · have hb2 : mj_cnd .ne (a_kindOf i l I J (v 1)) (6 : Int32) = true := hb2
          rw [if_pos hb2] at hok
          refine ms0 (S' := .int (1 : Int32) :: _) dm_shaped_49 rfl rfl rfl rfl ?_
          obtain ⟨ho, hok⟩ := hok
          refine ms4 dm_shaped_50 rfl (r_inv (As := [.int (1 : Int32)]) hm h2 rfl rfl rfl) (q_places hm h2 ho) rfl rfl rfl ?_
          have he : lp_shaped (n + 1) 22 i l I J v w = (((s_places n i l I J (1 : Int32)).1), ((s_places n i l I J (1 : Int32)).2.1), ((s_places n i l I J (1 : Int32)).2.2.1), ((s_places n i l I J (1 : Int32)).2.2.2.1), ((s_places n i l I J (1 : Int32)).2.2.2.2)) := by
            rw [lb_shaped_22]
            simp only [hb1, hb2, Bool.false_eq_true, if_true, if_false]
          rw [he]
          exact ms5 dm_shaped_53 rfl rfl rfl
        · have hb2 : ¬ (mj_cnd .ne (a_kindOf i l I J (v 1)) (6 : Int32) = true) := hb2
          rw [if_neg hb2] at hok
          refine ms0 (S' := .int (2 : Int32) :: _) dm_shaped_45 rfl rfl rfl rfl ?_
          refine ms2 dm_shaped_46 rfl rfl rfl ?_
          obtain ⟨ho, hok⟩ := hok
          refine ms4 dm_shaped_50 rfl (r_inv (As := [.int (2 : Int32)]) hm h2 rfl rfl rfl) (q_places hm h2 ho) rfl rfl rfl ?_
          have he : lp_shaped (n + 1) 22 i l I J v w = (((s_places n i l I J (2 : Int32)).1), ((s_places n i l I J (2 : Int32)).2.1), ((s_places n i l I J (2 : Int32)).2.2.1), ((s_places n i l I J (2 : Int32)).2.2.2.1), ((s_places n i l I J (2 : Int32)).2.2.2.2)) := by
            rw [lb_shaped_22]
            simp only [hb1, hb2, Bool.false_eq_true, if_true, if_false]
          rw [he]
          exact ms5 dm_shaped_53 rfl rfl rfl
      · have hb1 : ¬ (mj_cnd .eq (a_isOne i l I J (v 1)) (0 : Int32) = true) := hb1
        rw [if_neg hb1] at hok
        refine ms0 (S' := .int (0 : Int32) :: _) dm_shaped_31 rfl rfl rfl rfl ?_
        refine ms2 dm_shaped_32 rfl rfl rfl ?_
        obtain ⟨ho, hok⟩ := hok
        refine ms4 dm_shaped_50 rfl (r_inv (As := [.int (0 : Int32)]) hm h2 rfl rfl rfl) (q_places hm h2 ho) rfl rfl rfl ?_
        have he : lp_shaped (n + 1) 22 i l I J v w = (((s_places n i l I J (0 : Int32)).1), ((s_places n i l I J (0 : Int32)).2.1), ((s_places n i l I J (0 : Int32)).2.2.1), ((s_places n i l I J (0 : Int32)).2.2.2.1), ((s_places n i l I J (0 : Int32)).2.2.2.2)) := by
          rw [lb_shaped_22]
          simp only [hb1, Bool.false_eq_true, if_true, if_false]
        rw [he]
        exact ms5 dm_shaped_53 rfl rfl rfl
set_option maxRecDepth 20000 in
theorem q_shaped {xt : mj_X} {pre post : mj_H} {m : Nat} {i : Nat → Int32} {l : Nat → Int64} {I : Nat → Nat → Int32} {J : Nat → Nat → Int64} {d : Nat} (hm : pre.length = m) (h2 : 2 ≤ m) {p0 : Int32} {n : Nat} (hok : ok_shaped n i l I J p0) : pgC xt (d + 5) k_shaped (.ref m :: [.int p0]) (rH pre post m i l I J) (some (.int (s_shaped n i l I J p0).1)) (rH pre post m (s_shaped n i l I J p0).2.1 (s_shaped n i l I J p0).2.2.1 (s_shaped n i l I J p0).2.2.2.1 (s_shaped n i l I J p0).2.2.2.2) := by
  unfold ok_shaped at hok
  refine ms_call pm_shaped (Nat.le_of_ble_eq_true rfl) ?_
  dsimp only
  refine ms1 dm_shaped_0 rfl rfl rfl rfl ?_
  refine ms3 dm_shaped_1 (r_get hm h2 rfl (rg_14 _ _ _)) rfl rfl rfl ?_
  refine ms0 (S' := .int (0 : Int32) :: _) dm_shaped_4 rfl rfl rfl rfl ?_
  refine ms1 dm_shaped_5 rfl rfl rfl rfl ?_
  refine ms1 dm_shaped_6 rfl rfl rfl rfl ?_
  obtain ⟨ho, hok⟩ := hok
  refine ms4 dm_shaped_7 rfl (r_inv (As := [.int p0]) hm h2 rfl rfl rfl) (q_many hm h2 ho) rfl rfl rfl ?_
  obtain ⟨ho, hok⟩ := hok
  refine ms3 dm_shaped_10 (r_iastk (k := 14) hm h2 (rc_14 _ _ _ _ _) rfl ho (rs_14 _ _ _ _ _ _)) rfl rfl rfl ?_
  refine ms1 dm_shaped_11 rfl rfl rfl rfl ?_
  refine ms3 dm_shaped_12 (r_get hm h2 rfl (rg_14 _ _ _)) rfl rfl rfl ?_
  refine ms0 (S' := .int (1 : Int32) :: _) dm_shaped_15 rfl rfl rfl rfl ?_
  refine ms1 dm_shaped_16 rfl rfl rfl rfl ?_
  refine ms1 dm_shaped_17 rfl rfl rfl rfl ?_
  obtain ⟨ho, hok⟩ := hok
  refine ms4 dm_shaped_18 rfl (r_inv (As := [.int p0]) hm h2 rfl rfl rfl) (q_columns hm h2 ho) rfl rfl rfl ?_
  obtain ⟨ho, hok⟩ := hok
  refine ms3 dm_shaped_21 (r_iastk (k := 14) hm h2 (rc_14 _ _ _ _ _) rfl ho (rs_14 _ _ _ _ _ _)) rfl rfl rfl ?_
  have he : s_shaped n i l I J p0 = lp_shaped n 22 i l (va_up (va_up I 14 (upd (I 14) ((0 : Int32)).toNatClampNeg (a_many i l I J p0))) 14 (upd ((va_up I 14 (upd (I 14) ((0 : Int32)).toNatClampNeg (a_many i l I J p0))) 14) ((1 : Int32)).toNatClampNeg (a_columns i l (va_up I 14 (upd (I 14) ((0 : Int32)).toNatClampNeg (a_many i l I J p0))) J p0))) J (upd (fun _ => 0) 1 p0) (fun _ => 0) := by
    unfold s_shaped
    rfl
  rw [he]
  exact mjR_sub rfl rfl rfl ((ql_shaped hm h2 n) _ _ _ _ _ _ hok)
