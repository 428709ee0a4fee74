def k_put : Nat := 292
set_option maxRecDepth 20000 in
theorem pm_put : mj_mmof pg_ms k_put = some ((⟨"ArrayCalculatorModel", "put", "(I)V"⟩, prog_14_method_43_code, 2, (Option.none : Option Jvm.ClassFile.FieldType)), 12, false, mj_dec prog_14_method_43_code) := rfl
theorem dm_put_0 : mj_dec prog_14_method_43_code 0 = some (.aload_n 0, 1) := by decide +kernel
theorem dm_put_1 : mj_dec prog_14_method_43_code 1 = some (.getfield 281, 3) := by decide +kernel
theorem dm_put_4 : mj_dec prog_14_method_43_code 4 = some (.sipush 400, 3) := by decide +kernel
theorem dm_put_7 : mj_dec prog_14_method_43_code 7 = some (.if_icmp .ne 4, 3) := by decide +kernel
theorem dm_put_10 : mj_dec prog_14_method_43_code 10 = some (.return_, 1) := by decide +kernel
theorem dm_put_11 : mj_dec prog_14_method_43_code 11 = some (.aload_n 0, 1) := by decide +kernel
theorem dm_put_12 : mj_dec prog_14_method_43_code 12 = some (.getfield 36, 3) := by decide +kernel
theorem dm_put_15 : mj_dec prog_14_method_43_code 15 = some (.aload_n 0, 1) := by decide +kernel
theorem dm_put_16 : mj_dec prog_14_method_43_code 16 = some (.getfield 281, 3) := by decide +kernel
theorem dm_put_19 : mj_dec prog_14_method_43_code 19 = some (.iload_n 1, 1) := by decide +kernel
theorem dm_put_20 : mj_dec prog_14_method_43_code 20 = some (.i2b, 1) := by decide +kernel
theorem dm_put_21 : mj_dec prog_14_method_43_code 21 = some (.bastore, 1) := by decide +kernel
theorem dm_put_22 : mj_dec prog_14_method_43_code 22 = some (.aload_n 0, 1) := by decide +kernel
theorem dm_put_23 : mj_dec prog_14_method_43_code 23 = some (.dup, 1) := by decide +kernel
theorem dm_put_24 : mj_dec prog_14_method_43_code 24 = some (.getfield 281, 3) := by decide +kernel
theorem dm_put_27 : mj_dec prog_14_method_43_code 27 = some (.iconst 1, 1) := by decide +kernel
theorem dm_put_28 : mj_dec prog_14_method_43_code 28 = some (.iadd, 1) := by decide +kernel
theorem dm_put_29 : mj_dec prog_14_method_43_code 29 = some (.putfield 281, 3) := by decide +kernel
theorem dm_put_32 : mj_dec prog_14_method_43_code 32 = some (.return_, 1) := by decide +kernel
def si_put (i : Nat → Int32) (l : Nat → Int64) (I : Nat → Nat → Int32) (J : Nat → Nat → Int64) (p0 : Int32) : Nat → Int32 := (if mj_cnd .ne (i 17) (400 : Int32) = true then (upd i 17 ((i 17) + (1 : Int32))) else i)
def sI_put (i : Nat → Int32) (l : Nat → Int64) (I : Nat → Nat → Int32) (J : Nat → Nat → Int64) (p0 : Int32) : Nat → Nat → Int32 := (if mj_cnd .ne (i 17) (400 : Int32) = true then (va_up I 15 (upd (I 15) ((i 17)).toNatClampNeg (vp_nar .byte (p0).toInt8.toInt32))) else I)
def ok_put (i : Nat → Int32) (l : Nat → Int64) (I : Nat → Nat → Int32) (J : Nat → Nat → Int64) (p0 : Int32) : Prop := (if mj_cnd .ne (i 17) (400 : Int32) = true then (¬ ((i 17) < 0 ∨ 400 ≤ ((i 17)).toNatClampNeg) ∧ True) else True)
set_option maxRecDepth 20000 in
theorem q_put {xt : mj_X} {pre post : mj_H} {m : Nat} {i : Nat → Int32} {l : Nat → Int64} {I : Nat → Nat → Int32} {J : Nat → Nat → Int64} {d : Nat} (hm : pre.length = m) (h2 : 2 ≤ m) {p0 : Int32} (hok : ok_put i l I J p0) : pgC xt (d + 1) k_put (.ref m :: [.int p0]) (rH pre post m i l I J) none (rH pre post m (si_put i l I J p0) l (sI_put i l I J p0) J) := by
  unfold ok_put at hok
  refine ms_call pm_put (Nat.le_of_ble_eq_true rfl) ?_
  dsimp only
  refine ms1 dm_put_0 rfl rfl rfl rfl ?_
  refine ms3 dm_put_1 (r_get (v := .int (i 17)) hm h2 rfl (rg_17 _ _ _)) rfl rfl rfl ?_
  refine ms0 (S' := .int (400 : Int32) :: _) dm_put_4 rfl rfl rfl rfl ?_
  refine ms_2c dm_put_7 rfl rfl (fun hb1 => ?_) (fun hb1 => ?_)
  · have hb1 : mj_cnd .ne (i 17) (400 : Int32) = true := hb1
    rw [if_pos hb1] at hok
    refine ms1 dm_put_11 rfl rfl rfl rfl ?_
    refine ms3 dm_put_12 (r_get hm h2 rfl (rg_15 _ _ _)) rfl rfl rfl ?_
    refine ms1 dm_put_15 rfl rfl rfl rfl ?_
    refine ms3 dm_put_16 (r_get (v := .int (i 17)) hm h2 rfl (rg_17 _ _ _)) rfl rfl rfl ?_
    refine ms1 dm_put_19 rfl rfl rfl rfl ?_
    refine ms0 dm_put_20 rfl rfl rfl rfl ?_
    obtain ⟨ho, hok⟩ := hok
    refine ms3 dm_put_21 (r_bastk (k := 15) hm h2 (rc_15 _ _ _ _ _) rfl ho (rs_15 _ _ _ _ _ _)) rfl rfl rfl ?_
    refine ms1 dm_put_22 rfl rfl rfl rfl ?_
    refine ms0 dm_put_23 rfl rfl rfl rfl ?_
    refine ms3 dm_put_24 (r_get (v := .int (i 17)) hm h2 rfl (rg_17 _ _ _)) rfl rfl rfl ?_
    refine ms0 (S' := .int (1 : Int32) :: _) dm_put_27 rfl rfl rfl rfl ?_
    refine ms0 dm_put_28 rfl rfl rfl rfl ?_
    refine ms3 dm_put_29 (r_puti hm h2 rfl (rF_lt 17 rfl) (rf_17 _ _ _ _)) rfl rfl rfl ?_
    simp only [si_put, sI_put, hb1, Bool.false_eq_true, if_true, if_false]
    exact ms5 dm_put_32 rfl rfl rfl
  · have hb1 : ¬ (mj_cnd .ne (i 17) (400 : Int32) = true) := hb1
    rw [if_neg hb1] at hok
    simp only [si_put, sI_put, hb1, Bool.false_eq_true, if_true, if_false]
    exact ms5 dm_put_10 rfl rfl rfl
def k_means : Nat := 300
set_option maxRecDepth 20000 in
theorem pm_means : mj_mmof pg_ms k_means = some ((⟨"ArrayCalculatorModel", "means", "(JI)V"⟩, prog_14_method_66_code, 6, (Option.none : Option Jvm.ClassFile.FieldType)), 12, false, mj_dec prog_14_method_66_code) := rfl
theorem dm_means_0 : mj_dec prog_14_method_66_code 0 = some (.aload_n 0, 1) := by decide +kernel
theorem dm_means_1 : mj_dec prog_14_method_66_code 1 = some (.lload_n 1, 1) := by decide +kernel
theorem dm_means_2 : mj_dec prog_14_method_66_code 2 = some (.invokevirtual 363, 3) := by decide +kernel
theorem dm_means_5 : mj_dec prog_14_method_66_code 5 = some (.istore 4, 2) := by decide +kernel
theorem dm_means_7 : mj_dec prog_14_method_66_code 7 = some (.iload 4, 2) := by decide +kernel
theorem dm_means_9 : mj_dec prog_14_method_66_code 9 = some (.ifCond .lt 64, 3) := by decide +kernel
theorem dm_means_12 : mj_dec prog_14_method_66_code 12 = some (.aload_n 0, 1) := by decide +kernel
theorem dm_means_13 : mj_dec prog_14_method_66_code 13 = some (.dup, 1) := by decide +kernel
theorem dm_means_14 : mj_dec prog_14_method_66_code 14 = some (.getfield 360, 3) := by decide +kernel
theorem dm_means_17 : mj_dec prog_14_method_66_code 17 = some (.iconst 1, 1) := by decide +kernel
theorem dm_means_18 : mj_dec prog_14_method_66_code 18 = some (.isub, 1) := by decide +kernel
theorem dm_means_19 : mj_dec prog_14_method_66_code 19 = some (.putfield 360, 3) := by decide +kernel
theorem dm_means_22 : mj_dec prog_14_method_66_code 22 = some (.iload 4, 2) := by decide +kernel
theorem dm_means_24 : mj_dec prog_14_method_66_code 24 = some (.istore 5, 2) := by decide +kernel
theorem dm_means_26 : mj_dec prog_14_method_66_code 26 = some (.iload 5, 2) := by decide +kernel
theorem dm_means_28 : mj_dec prog_14_method_66_code 28 = some (.aload_n 0, 1) := by decide +kernel
theorem dm_means_29 : mj_dec prog_14_method_66_code 29 = some (.getfield 360, 3) := by decide +kernel
theorem dm_means_32 : mj_dec prog_14_method_66_code 32 = some (.if_icmp .ge 41, 3) := by decide +kernel
theorem dm_means_35 : mj_dec prog_14_method_66_code 35 = some (.aload_n 0, 1) := by decide +kernel
theorem dm_means_36 : mj_dec prog_14_method_66_code 36 = some (.getfield 46, 3) := by decide +kernel
theorem dm_means_39 : mj_dec prog_14_method_66_code 39 = some (.iload 5, 2) := by decide +kernel
theorem dm_means_41 : mj_dec prog_14_method_66_code 41 = some (.aload_n 0, 1) := by decide +kernel
theorem dm_means_42 : mj_dec prog_14_method_66_code 42 = some (.getfield 46, 3) := by decide +kernel
theorem dm_means_45 : mj_dec prog_14_method_66_code 45 = some (.iload 5, 2) := by decide +kernel
theorem dm_means_47 : mj_dec prog_14_method_66_code 47 = some (.iconst 1, 1) := by decide +kernel
theorem dm_means_48 : mj_dec prog_14_method_66_code 48 = some (.iadd, 1) := by decide +kernel
theorem dm_means_49 : mj_dec prog_14_method_66_code 49 = some (.laload, 1) := by decide +kernel
theorem dm_means_50 : mj_dec prog_14_method_66_code 50 = some (.lastore, 1) := by decide +kernel
theorem dm_means_51 : mj_dec prog_14_method_66_code 51 = some (.aload_n 0, 1) := by decide +kernel
theorem dm_means_52 : mj_dec prog_14_method_66_code 52 = some (.getfield 52, 3) := by decide +kernel
theorem dm_means_55 : mj_dec prog_14_method_66_code 55 = some (.iload 5, 2) := by decide +kernel
theorem dm_means_57 : mj_dec prog_14_method_66_code 57 = some (.aload_n 0, 1) := by decide +kernel
theorem dm_means_58 : mj_dec prog_14_method_66_code 58 = some (.getfield 52, 3) := by decide +kernel
theorem dm_means_61 : mj_dec prog_14_method_66_code 61 = some (.iload 5, 2) := by decide +kernel
theorem dm_means_63 : mj_dec prog_14_method_66_code 63 = some (.iconst 1, 1) := by decide +kernel
theorem dm_means_64 : mj_dec prog_14_method_66_code 64 = some (.iadd, 1) := by decide +kernel
theorem dm_means_65 : mj_dec prog_14_method_66_code 65 = some (.iaload, 1) := by decide +kernel
theorem dm_means_66 : mj_dec prog_14_method_66_code 66 = some (.iastore, 1) := by decide +kernel
theorem dm_means_67 : mj_dec prog_14_method_66_code 67 = some (.iinc 5 1, 3) := by decide +kernel
theorem dm_means_70 : mj_dec prog_14_method_66_code 70 = some (.goto (-44), 3) := by decide +kernel
theorem dm_means_73 : mj_dec prog_14_method_66_code 73 = some (.aload_n 0, 1) := by decide +kernel
theorem dm_means_74 : mj_dec prog_14_method_66_code 74 = some (.lload_n 1, 1) := by decide +kernel
theorem dm_means_75 : mj_dec prog_14_method_66_code 75 = some (.invokevirtual 367, 3) := by decide +kernel
theorem dm_means_78 : mj_dec prog_14_method_66_code 78 = some (.istore 5, 2) := by decide +kernel
theorem dm_means_80 : mj_dec prog_14_method_66_code 80 = some (.iload 5, 2) := by decide +kernel
theorem dm_means_82 : mj_dec prog_14_method_66_code 82 = some (.ifCond .ge 19, 3) := by decide +kernel
theorem dm_means_85 : mj_dec prog_14_method_66_code 85 = some (.aload_n 0, 1) := by decide +kernel
theorem dm_means_86 : mj_dec prog_14_method_66_code 86 = some (.getfield 357, 3) := by decide +kernel
theorem dm_means_89 : mj_dec prog_14_method_66_code 89 = some (.istore 5, 2) := by decide +kernel
theorem dm_means_91 : mj_dec prog_14_method_66_code 91 = some (.aload_n 0, 1) := by decide +kernel
theorem dm_means_92 : mj_dec prog_14_method_66_code 92 = some (.dup, 1) := by decide +kernel
theorem dm_means_93 : mj_dec prog_14_method_66_code 93 = some (.getfield 357, 3) := by decide +kernel
theorem dm_means_96 : mj_dec prog_14_method_66_code 96 = some (.iconst 1, 1) := by decide +kernel
theorem dm_means_97 : mj_dec prog_14_method_66_code 97 = some (.iadd, 1) := by decide +kernel
theorem dm_means_98 : mj_dec prog_14_method_66_code 98 = some (.putfield 357, 3) := by decide +kernel
theorem dm_means_101 : mj_dec prog_14_method_66_code 101 = some (.aload_n 0, 1) := by decide +kernel
theorem dm_means_102 : mj_dec prog_14_method_66_code 102 = some (.getfield 43, 3) := by decide +kernel
theorem dm_means_105 : mj_dec prog_14_method_66_code 105 = some (.iload 5, 2) := by decide +kernel
theorem dm_means_107 : mj_dec prog_14_method_66_code 107 = some (.lload_n 1, 1) := by decide +kernel
theorem dm_means_108 : mj_dec prog_14_method_66_code 108 = some (.lastore, 1) := by decide +kernel
theorem dm_means_109 : mj_dec prog_14_method_66_code 109 = some (.aload_n 0, 1) := by decide +kernel
theorem dm_means_110 : mj_dec prog_14_method_66_code 110 = some (.getfield 49, 3) := by decide +kernel
theorem dm_means_113 : mj_dec prog_14_method_66_code 113 = some (.iload 5, 2) := by decide +kernel
theorem dm_means_115 : mj_dec prog_14_method_66_code 115 = some (.iload_n 3, 1) := by decide +kernel
theorem dm_means_116 : mj_dec prog_14_method_66_code 116 = some (.iastore, 1) := by decide +kernel
theorem dm_means_117 : mj_dec prog_14_method_66_code 117 = some (.return_, 1) := by decide +kernel
def lp_means : Nat → Nat → (Nat → Int32) → (Nat → Int64) → (Nat → Nat → Int32) → (Nat → Nat → Int64) → (Nat → Int32) → (Nat → Int64) → Unit × (Nat → Int32) × (Nat → Int64) × (Nat → Nat → Int32) × (Nat → Nat → Int64)
  | 0, _, i, l, I, J, _, _ => ((), i, l, I, J)
  | n + 1, hd, i, l, I, J, v, w => match hd with
    | 22 => lp_means n 26 i l I J (upd v 5 (v 4)) w
    | 26 => (if mj_cnd .ge (v 5) (i 24) = true then lp_means n 80 ((s_valueNamed n i l I J (w 1)).2.1) ((s_valueNamed n i l I J (w 1)).2.2.1) ((s_valueNamed n i l I J (w 1)).2.2.2.1) ((s_valueNamed n i l I J (w 1)).2.2.2.2) (upd v 5 ((s_valueNamed n i l I J (w 1)).1)) w else lp_means n 51 i l I (va_up J 20 (vp_updL (J 20) ((v 5)).toNatClampNeg (J 20 (((v 5) + (1 : Int32))).toNatClampNeg))) v w)
    | 51 => lp_means n 67 i l (va_up I 22 (upd (I 22) ((v 5)).toNatClampNeg (I 22 (((v 5) + (1 : Int32))).toNatClampNeg))) J v w
    | 67 => lp_means n 26 i l I J (upd v 5 ((v 5) + Int32.ofInt (1))) w
    | 80 => (if mj_cnd .ge (v 5) (0 : Int32) = true then ((), i, l, (va_up I 21 (upd (I 21) ((v 5)).toNatClampNeg (v 3))), (va_up J 19 (vp_updL (J 19) ((v 5)).toNatClampNeg (w 1)))) else lp_means n 101 (upd i 23 ((i 23) + (1 : Int32))) l I J (upd v 5 (i 23)) w)
    | 101 => ((), i, l, (va_up I 21 (upd (I 21) ((v 5)).toNatClampNeg (v 3))), (va_up J 19 (vp_updL (J 19) ((v 5)).toNatClampNeg (w 1))))
    | _ => ((), i, l, I, J)
theorem lb_means_22 (n : Nat) (i : Nat → Int32) (l : Nat → Int64) (I : Nat → Nat → Int32) (J : Nat → Nat → Int64) (v : Nat → Int32) (w : Nat → Int64) : lp_means (n + 1) 22 i l I J v w = lp_means n 26 i l I J (upd v 5 (v 4)) w := rfl
theorem lb_means_26 (n : Nat) (i : Nat → Int32) (l : Nat → Int64) (I : Nat → Nat → Int32) (J : Nat → Nat → Int64) (v : Nat → Int32) (w : Nat → Int64) : lp_means (n + 1) 26 i l I J v w = (if mj_cnd .ge (v 5) (i 24) = true then lp_means n 80 ((s_valueNamed n i l I J (w 1)).2.1) ((s_valueNamed n i l I J (w 1)).2.2.1) ((s_valueNamed n i l I J (w 1)).2.2.2.1) ((s_valueNamed n i l I J (w 1)).2.2.2.2) (upd v 5 ((s_valueNamed n i l I J (w 1)).1)) w else lp_means n 51 i l I (va_up J 20 (vp_updL (J 20) ((v 5)).toNatClampNeg (J 20 (((v 5) + (1 : Int32))).toNatClampNeg))) v w) := rfl
theorem lb_means_51 (n : Nat) (i : Nat → Int32) (l : Nat → Int64) (I : Nat → Nat → Int32) (J : Nat → Nat → Int64) (v : Nat → Int32) (w : Nat → Int64) : lp_means (n + 1) 51 i l I J v w = lp_means n 67 i l (va_up I 22 (upd (I 22) ((v 5)).toNatClampNeg (I 22 (((v 5) + (1 : Int32))).toNatClampNeg))) J v w := rfl
theorem lb_means_67 (n : Nat) (i : Nat → Int32) (l : Nat → Int64) (I : Nat → Nat → Int32) (J : Nat → Nat → Int64) (v : Nat → Int32) (w : Nat → Int64) : lp_means (n + 1) 67 i l I J v w = lp_means n 26 i l I J (upd v 5 ((v 5) + Int32.ofInt (1))) w := rfl
theorem lb_means_80 (n : Nat) (i : Nat → Int32) (l : Nat → Int64) (I : Nat → Nat → Int32) (J : Nat → Nat → Int64) (v : Nat → Int32) (w : Nat → Int64) : lp_means (n + 1) 80 i l I J v w = (if mj_cnd .ge (v 5) (0 : Int32) = true then ((), i, l, (va_up I 21 (upd (I 21) ((v 5)).toNatClampNeg (v 3))), (va_up J 19 (vp_updL (J 19) ((v 5)).toNatClampNeg (w 1)))) else lp_means n 101 (upd i 23 ((i 23) + (1 : Int32))) l I J (upd v 5 (i 23)) w) := rfl
theorem lb_means_101 (n : Nat) (i : Nat → Int32) (l : Nat → Int64) (I : Nat → Nat → Int32) (J : Nat → Nat → Int64) (v : Nat → Int32) (w : Nat → Int64) : lp_means (n + 1) 101 i l I J v w = ((), i, l, (va_up I 21 (upd (I 21) ((v 5)).toNatClampNeg (v 3))), (va_up J 19 (vp_updL (J 19) ((v 5)).toNatClampNeg (w 1)))) := rfl
def okl_means : Nat → Nat → (Nat → Int32) → (Nat → Int64) → (Nat → Nat → Int32) → (Nat → Nat → Int64) → (Nat → Int32) → (Nat → Int64) → Prop
  | 0, _, _, _, _, _, _, _ => False
  | n + 1, hd, i, l, I, J, v, w => match hd with
    | 22 => okl_means n 26 i l I J (upd v 5 (v 4)) w
    | 26 => (if mj_cnd .ge (v 5) (i 24) = true then (ok_valueNamed n i l I J (w 1) ∧ okl_means n 80 ((s_valueNamed n i l I J (w 1)).2.1) ((s_valueNamed n i l I J (w 1)).2.2.1) ((s_valueNamed n i l I J (w 1)).2.2.2.1) ((s_valueNamed n i l I J (w 1)).2.2.2.2) (upd v 5 ((s_valueNamed n i l I J (w 1)).1)) w) else (¬ (((v 5) + (1 : Int32)) < 0 ∨ 40 ≤ (((v 5) + (1 : Int32))).toNatClampNeg) ∧ (¬ ((v 5) < 0 ∨ 40 ≤ ((v 5)).toNatClampNeg) ∧ okl_means n 51 i l I (va_up J 20 (vp_updL (J 20) ((v 5)).toNatClampNeg (J 20 (((v 5) + (1 : Int32))).toNatClampNeg))) v w)))
    | 51 => (¬ (((v 5) + (1 : Int32)) < 0 ∨ 40 ≤ (((v 5) + (1 : Int32))).toNatClampNeg) ∧ (¬ ((v 5) < 0 ∨ 40 ≤ ((v 5)).toNatClampNeg) ∧ okl_means n 67 i l (va_up I 22 (upd (I 22) ((v 5)).toNatClampNeg (I 22 (((v 5) + (1 : Int32))).toNatClampNeg))) J v w))
    | 67 => okl_means n 26 i l I J (upd v 5 ((v 5) + Int32.ofInt (1))) w
    | 80 => (if mj_cnd .ge (v 5) (0 : Int32) = true then (¬ ((v 5) < 0 ∨ 40 ≤ ((v 5)).toNatClampNeg) ∧ (¬ ((v 5) < 0 ∨ 40 ≤ ((v 5)).toNatClampNeg) ∧ True)) else okl_means n 101 (upd i 23 ((i 23) + (1 : Int32))) l I J (upd v 5 (i 23)) w)
    | 101 => (¬ ((v 5) < 0 ∨ 40 ≤ ((v 5)).toNatClampNeg) ∧ (¬ ((v 5) < 0 ∨ 40 ≤ ((v 5)).toNatClampNeg) ∧ True))
    | _ => False
def s_means (n : Nat) (i : Nat → Int32) (l : Nat → Int64) (I : Nat → Nat → Int32) (J : Nat → Nat → Int64) (p0 : Int64) (p1 : Int32) : Unit × (Nat → Int32) × (Nat → Int64) × (Nat → Nat → Int32) × (Nat → Nat → Int64) := (if mj_cnd .lt ((s_functionNamed n i l I J p0).1) (0 : Int32) = true then lp_means n 80 ((s_valueNamed n ((s_functionNamed n i l I J p0).2.1) ((s_functionNamed n i l I J p0).2.2.1) ((s_functionNamed n i l I J p0).2.2.2.1) ((s_functionNamed n i l I J p0).2.2.2.2) p0).2.1) ((s_valueNamed n ((s_functionNamed n i l I J p0).2.1) ((s_functionNamed n i l I J p0).2.2.1) ((s_functionNamed n i l I J p0).2.2.2.1) ((s_functionNamed n i l I J p0).2.2.2.2) p0).2.2.1) ((s_valueNamed n ((s_functionNamed n i l I J p0).2.1) ((s_functionNamed n i l I J p0).2.2.1) ((s_functionNamed n i l I J p0).2.2.2.1) ((s_functionNamed n i l I J p0).2.2.2.2) p0).2.2.2.1) ((s_valueNamed n ((s_functionNamed n i l I J p0).2.1) ((s_functionNamed n i l I J p0).2.2.1) ((s_functionNamed n i l I J p0).2.2.2.1) ((s_functionNamed n i l I J p0).2.2.2.2) p0).2.2.2.2) (upd (upd (fun _ => 0) 3 p1) 5 ((s_valueNamed n ((s_functionNamed n i l I J p0).2.1) ((s_functionNamed n i l I J p0).2.2.1) ((s_functionNamed n i l I J p0).2.2.2.1) ((s_functionNamed n i l I J p0).2.2.2.2) p0).1)) (vp_updL (fun _ => 0) 1 p0) else lp_means n 22 (upd ((s_functionNamed n i l I J p0).2.1) 24 ((((s_functionNamed n i l I J p0).2.1) 24) - (1 : Int32))) ((s_functionNamed n i l I J p0).2.2.1) ((s_functionNamed n i l I J p0).2.2.2.1) ((s_functionNamed n i l I J p0).2.2.2.2) (upd (upd (fun _ => 0) 3 p1) 4 ((s_functionNamed n i l I J p0).1)) (vp_updL (fun _ => 0) 1 p0))
def ok_means (n : Nat) (i : Nat → Int32) (l : Nat → Int64) (I : Nat → Nat → Int32) (J : Nat → Nat → Int64) (p0 : Int64) (p1 : Int32) : Prop := (ok_functionNamed n i l I J p0 ∧ (if mj_cnd .lt ((s_functionNamed n i l I J p0).1) (0 : Int32) = true then (ok_valueNamed n ((s_functionNamed n i l I J p0).2.1) ((s_functionNamed n i l I J p0).2.2.1) ((s_functionNamed n i l I J p0).2.2.2.1) ((s_functionNamed n i l I J p0).2.2.2.2) p0 ∧ okl_means n 80 ((s_valueNamed n ((s_functionNamed n i l I J p0).2.1) ((s_functionNamed n i l I J p0).2.2.1) ((s_functionNamed n i l I J p0).2.2.2.1) ((s_functionNamed n i l I J p0).2.2.2.2) p0).2.1) ((s_valueNamed n ((s_functionNamed n i l I J p0).2.1) ((s_functionNamed n i l I J p0).2.2.1) ((s_functionNamed n i l I J p0).2.2.2.1) ((s_functionNamed n i l I J p0).2.2.2.2) p0).2.2.1) ((s_valueNamed n ((s_functionNamed n i l I J p0).2.1) ((s_functionNamed n i l I J p0).2.2.1) ((s_functionNamed n i l I J p0).2.2.2.1) ((s_functionNamed n i l I J p0).2.2.2.2) p0).2.2.2.1) ((s_valueNamed n ((s_functionNamed n i l I J p0).2.1) ((s_functionNamed n i l I J p0).2.2.1) ((s_functionNamed n i l I J p0).2.2.2.1) ((s_functionNamed n i l I J p0).2.2.2.2) p0).2.2.2.2) (upd (upd (fun _ => 0) 3 p1) 5 ((s_valueNamed n ((s_functionNamed n i l I J p0).2.1) ((s_functionNamed n i l I J p0).2.2.1) ((s_functionNamed n i l I J p0).2.2.2.1) ((s_functionNamed n i l I J p0).2.2.2.2) p0).1)) (vp_updL (fun _ => 0) 1 p0)) else okl_means n 22 (upd ((s_functionNamed n i l I J p0).2.1) 24 ((((s_functionNamed n i l I J p0).2.1) 24) - (1 : Int32))) ((s_functionNamed n i l I J p0).2.2.1) ((s_functionNamed n i l I J p0).2.2.2.1) ((s_functionNamed n i l I J p0).2.2.2.2) (upd (upd (fun _ => 0) 3 p1) 4 ((s_functionNamed n i l I J p0).1)) (vp_updL (fun _ => 0) 1 p0)))
set_option maxRecDepth 20000 in
theorem ql_means {xt : mj_X} {pre post : mj_H} {m : Nat} {d : Nat} (hm : pre.length = m) (h2 : 2 ≤ m) : ∀ n : Nat, (∀ i l I J v w, okl_means n 22 i l I J v w → mjR (fun N => mj_call (mj_mmof pg_ms) (mj_TTof pg_TL) xt pg_tl 2 (d + 1) N) (mj_TTof pg_TL 12).1 (mj_TTof pg_TL 12).2 xt pg_tl 2 6 (d + 1) false (Option.none : Option Jvm.ClassFile.FieldType) (mj_dec prog_14_method_66_code) 22 [(0, .ref m), (1, .long (w 1)), (3, .int (v 3)), (4, .int (v 4))] [] (rH pre post m i l I J) none (rH pre post m (lp_means n 22 i l I J v w).2.1 (lp_means n 22 i l I J v w).2.2.1 (lp_means n 22 i l I J v w).2.2.2.1 (lp_means n 22 i l I J v w).2.2.2.2)) ∧ (∀ i l I J v w, okl_means n 26 i l I J v w → mjR (fun N => mj_call (mj_mmof pg_ms) (mj_TTof pg_TL) xt pg_tl 2 (d + 1) N) (mj_TTof pg_TL 12).1 (mj_TTof pg_TL 12).2 xt pg_tl 2 6 (d + 1) false (Option.none : Option Jvm.ClassFile.FieldType) (mj_dec prog_14_method_66_code) 26 [(0, .ref m), (1, .long (w 1)), (3, .int (v 3)), (5, .int (v 5))] [] (rH pre post m i l I J) none (rH pre post m (lp_means n 26 i l I J v w).2.1 (lp_means n 26 i l I J v w).2.2.1 (lp_means n 26 i l I J v w).2.2.2.1 (lp_means n 26 i l I J v w).2.2.2.2)) ∧ (∀ i l I J v w, okl_means n 51 i l I J v w → mjR (fun N => mj_call (mj_mmof pg_ms) (mj_TTof pg_TL) xt pg_tl 2 (d + 1) N) (mj_TTof pg_TL 12).1 (mj_TTof pg_TL 12).2 xt pg_tl 2 6 (d + 1) false (Option.none : Option Jvm.ClassFile.FieldType) (mj_dec prog_14_method_66_code) 51 [(0, .ref m), (1, .long (w 1)), (3, .int (v 3)), (5, .int (v 5))] [] (rH pre post m i l I J) none (rH pre post m (lp_means n 51 i l I J v w).2.1 (lp_means n 51 i l I J v w).2.2.1 (lp_means n 51 i l I J v w).2.2.2.1 (lp_means n 51 i l I J v w).2.2.2.2)) ∧ (∀ i l I J v w, okl_means n 67 i l I J v w → mjR (fun N => mj_call (mj_mmof pg_ms) (mj_TTof pg_TL) xt pg_tl 2 (d + 1) N) (mj_TTof pg_TL 12).1 (mj_TTof pg_TL 12).2 xt pg_tl 2 6 (d + 1) false (Option.none : Option Jvm.ClassFile.FieldType) (mj_dec prog_14_method_66_code) 67 [(0, .ref m), (1, .long (w 1)), (3, .int (v 3)), (5, .int (v 5))] [] (rH pre post m i l I J) none (rH pre post m (lp_means n 67 i l I J v w).2.1 (lp_means n 67 i l I J v w).2.2.1 (lp_means n 67 i l I J v w).2.2.2.1 (lp_means n 67 i l I J v w).2.2.2.2)) ∧ (∀ i l I J v w, okl_means n 80 i l I J v w → mjR (fun N => mj_call (mj_mmof pg_ms) (mj_TTof pg_TL) xt pg_tl 2 (d + 1) N) (mj_TTof pg_TL 12).1 (mj_TTof pg_TL 12).2 xt pg_tl 2 6 (d + 1) false (Option.none : Option Jvm.ClassFile.FieldType) (mj_dec prog_14_method_66_code) 80 [(0, .ref m), (1, .long (w 1)), (3, .int (v 3)), (5, .int (v 5))] [] (rH pre post m i l I J) none (rH pre post m (lp_means n 80 i l I J v w).2.1 (lp_means n 80 i l I J v w).2.2.1 (lp_means n 80 i l I J v w).2.2.2.1 (lp_means n 80 i l I J v w).2.2.2.2)) ∧ (∀ i l I J v w, okl_means n 101 i l I J v w → mjR (fun N => mj_call (mj_mmof pg_ms) (mj_TTof pg_TL) xt pg_tl 2 (d + 1) N) (mj_TTof pg_TL 12).1 (mj_TTof pg_TL 12).2 xt pg_tl 2 6 (d + 1) false (Option.none : Option Jvm.ClassFile.FieldType) (mj_dec prog_14_method_66_code) 101 [(0, .ref m), (1, .long (w 1)), (3, .int (v 3)), (5, .int (v 5))] [] (rH pre post m i l I J) none (rH pre post m (lp_means n 101 i l I J v w).2.1 (lp_means n 101 i l I J v w).2.2.1 (lp_means n 101 i l I J v w).2.2.2.1 (lp_means n 101 i l I J v w).2.2.2.2)) := by
  intro n
  induction n with
  | zero => exact ⟨fun i l I J v w h => absurd h id, fun i l I J v w h => absurd h id, fun i l I J v w h => absurd h id, fun i l I J v w h => absurd h id, fun i l I J v w h => absurd h id, fun i l I J v w h => absurd h id⟩
  | succ n ih =>
    refine ⟨?_, ?_, ?_, ?_, ?_, ?_⟩
    · intro i l I J v w hok
      have hok : okl_means n 26 i l I J (upd v 5 (v 4)) w := hok
      refine ms1 dm_means_22 rfl rfl rfl rfl ?_
      refine ms1 dm_means_24 rfl rfl rfl rfl ?_
      have he : lp_means (n + 1) 22 i l I J v w = lp_means n 26 i l I J (upd v 5 (v 4)) w := by
        rw [lb_means_22]
      rw [he]
      exact mjR_sub rfl rfl rfl (ih.2.1 _ _ _ _ _ _ hok)
    · intro i l I J v w hok
      have hok : (if mj_cnd .ge (v 5) (i 24) = true then (ok_valueNamed n i l I J (w 1) ∧ okl_means n 80 ((s_valueNamed n i l I J (w 1)).2.1) ((s_valueNamed n i l I J (w 1)).2.2.1) ((s_valueNamed n i l I J (w 1)).2.2.2.1) ((s_valueNamed n i l I J (w 1)).2.2.2.2) (upd v 5 ((s_valueNamed n i l I J (w 1)).1)) w) else (¬ (((v 5) + (1 : Int32)) < 0 ∨ 40 ≤ (((v 5) + (1 : Int32))).toNatClampNeg) ∧ (¬ ((v 5) < 0 ∨ 40 ≤ ((v 5)).toNatClampNeg) ∧ okl_means n 51 i l I (va_up J 20 (vp_updL (J 20) ((v 5)).toNatClampNeg (J 20 (((v 5) + (1 : Int32))).toNatClampNeg))) v w))) := hok
      refine ms1 dm_means_26 rfl rfl rfl rfl ?_
      refine ms1 dm_means_28 rfl rfl rfl rfl ?_
      refine ms3 dm_means_29 (r_get (v := .int (i 24)) hm h2 rfl (rg_24 _ _ _)) rfl rfl rfl ?_
      refine ms_2c dm_means_32 rfl rfl (fun hb1 => ?_) (fun hb1 => ?_)
      · have hb1 : mj_cnd .ge (v 5) (i 24) = true := hb1
        rw [if_pos hb1] at hok
        refine ms1 dm_means_73 rfl rfl rfl rfl ?_
        refine ms1 dm_means_74 rfl rfl rfl rfl ?_
        obtain ⟨ho, hok⟩ := hok
        refine ms4 dm_means_75 rfl (r_inv (As := [.long (w 1)]) hm h2 rfl rfl rfl) (q_valueNamed hm h2 ho) rfl rfl rfl ?_
        refine ms1 dm_means_78 rfl rfl rfl rfl ?_
        have he : lp_means (n + 1) 26 i l I J v w = lp_means n 80 ((s_valueNamed n i l I J (w 1)).2.1) ((s_valueNamed n i l I J (w 1)).2.2.1) ((s_valueNamed n i l I J (w 1)).2.2.2.1) ((s_valueNamed n i l I J (w 1)).2.2.2.2) (upd v 5 ((s_valueNamed n i l I J (w 1)).1)) w := by
          rw [lb_means_26]
          simp only [hb1, Bool.false_eq_true, if_true, if_false]
        rw [he]
        exact mjR_sub rfl rfl rfl (ih.2.2.2.2.1 _ _ _ _ _ _ hok)
      · have hb1 : ¬ (mj_cnd .ge (v 5) (i 24) = true) := hb1
        rw [if_neg hb1] at hok
        refine ms1 dm_means_35 rfl rfl rfl rfl ?_
        refine ms3 dm_means_36 (r_get hm h2 rfl (rg_20 _ _ _)) rfl rfl rfl ?_
        refine ms1 dm_means_39 rfl rfl rfl rfl ?_
        refine ms1 dm_means_41 rfl rfl rfl rfl ?_
        refine ms3 dm_means_42 (r_get hm h2 rfl (rg_20 _ _ _)) rfl rfl rfl ?_
        refine ms1 dm_means_45 rfl rfl rfl rfl ?_
        refine ms0 (S' := .int (1 : Int32) :: _) dm_means_47 rfl rfl rfl rfl ?_
        refine ms0 dm_means_48 rfl rfl rfl rfl ?_
        obtain ⟨ho, hok⟩ := hok
        refine ms3 dm_means_49 (r_lald hm h2 (rc_20 _ _ _ _ _) rfl ho) rfl rfl rfl ?_
        obtain ⟨ho, hok⟩ := hok
        refine ms3 dm_means_50 (r_lastk (k := 20) hm h2 (rc_20 _ _ _ _ _) rfl ho (rs_20 _ _ _ _ _ _)) rfl rfl rfl ?_
        have he : lp_means (n + 1) 26 i l I J v w = lp_means n 51 i l I (va_up J 20 (vp_updL (J 20) ((v 5)).toNatClampNeg (J 20 (((v 5) + (1 : Int32))).toNatClampNeg))) v w := by
          rw [lb_means_26]
          simp only [hb1, Bool.false_eq_true, if_true, if_false]
        rw [he]
        exact mjR_sub rfl rfl rfl (ih.2.2.1 _ _ _ _ _ _ hok)
    · intro i l I J v w hok
      have hok : (¬ (((v 5) + (1 : Int32)) < 0 ∨ 40 ≤ (((v 5) + (1 : Int32))).toNatClampNeg) ∧ (¬ ((v 5) < 0 ∨ 40 ≤ ((v 5)).toNatClampNeg) ∧ okl_means n 67 i l (va_up I 22 (upd (I 22) ((v 5)).toNatClampNeg (I 22 (((v 5) + (1 : Int32))).toNatClampNeg))) J v w)) := hok
      refine ms1 dm_means_51 rfl rfl rfl rfl ?_
      refine ms3 dm_means_52 (r_get hm h2 rfl (rg_22 _ _ _)) rfl rfl rfl ?_
      refine ms1 dm_means_55 rfl rfl rfl rfl ?_
      refine ms1 dm_means_57 rfl rfl rfl rfl ?_
      refine ms3 dm_means_58 (r_get hm h2 rfl (rg_22 _ _ _)) rfl rfl rfl ?_
      refine ms1 dm_means_61 rfl rfl rfl rfl ?_
      refine ms0 (S' := .int (1 : Int32) :: _) dm_means_63 rfl rfl rfl rfl ?_
      refine ms0 dm_means_64 rfl rfl rfl rfl ?_
      obtain ⟨ho, hok⟩ := hok
      refine ms3 dm_means_65 (r_iald hm h2 (rc_22 _ _ _ _ _) rfl ho) rfl rfl rfl ?_
      obtain ⟨ho, hok⟩ := hok
      refine ms3 dm_means_66 (r_iastk (k := 22) hm h2 (rc_22 _ _ _ _ _) rfl ho (rs_22 _ _ _ _ _ _)) rfl rfl rfl ?_
      have he : lp_means (n + 1) 51 i l I J v w = lp_means n 67 i l (va_up I 22 (upd (I 22) ((v 5)).toNatClampNeg (I 22 (((v 5) + (1 : Int32))).toNatClampNeg))) J v w := by
        rw [lb_means_51]
      rw [he]
      exact mjR_sub rfl rfl rfl (ih.2.2.2.1 _ _ _ _ _ _ hok)
    · intro i l I J v w hok
      have hok : okl_means n 26 i l I J (upd v 5 ((v 5) + Int32.ofInt (1))) w := hok
      refine ms1 dm_means_67 rfl rfl rfl rfl ?_
      refine ms2 dm_means_70 rfl rfl rfl ?_
      have he : lp_means (n + 1) 67 i l I J v w = lp_means n 26 i l I J (upd v 5 ((v 5) + Int32.ofInt (1))) w := by
        rw [lb_means_67]
      rw [he]
      exact mjR_sub rfl rfl rfl (ih.2.1 _ _ _ _ _ _ hok)
    · intro i l I J v w hok
      have hok : (if mj_cnd .ge (v 5) (0 : Int32) = true then (¬ ((v 5) < 0 ∨ 40 ≤ ((v 5)).toNatClampNeg) ∧ (¬ ((v 5) < 0 ∨ 40 ≤ ((v 5)).toNatClampNeg) ∧ True)) else okl_means n 101 (upd i 23 ((i 23) + (1 : Int32))) l I J (upd v 5 (i 23)) w) := hok
      refine ms1 dm_means_80 rfl rfl rfl rfl ?_
      refine ms_1c dm_means_82 rfl rfl (fun hb1 => ?_) (fun hb1 => ?_)
      · have hb1 : mj_cnd .ge (v 5) (0 : Int32) = true := hb1
        rw [if_pos hb1] at hok
        refine ms1 dm_means_101 rfl rfl rfl rfl ?_
        refine ms3 dm_means_102 (r_get hm h2 rfl (rg_19 _ _ _)) rfl rfl rfl ?_
        refine ms1 dm_means_105 rfl rfl rfl rfl ?_
        refine ms1 dm_means_107 rfl rfl rfl rfl ?_
        obtain ⟨ho, hok⟩ := hok
        refine ms3 dm_means_108 (r_lastk (k := 19) hm h2 (rc_19 _ _ _ _ _) rfl ho (rs_19 _ _ _ _ _ _)) rfl rfl rfl ?_
        refine ms1 dm_means_109 rfl rfl rfl rfl ?_
        refine ms3 dm_means_110 (r_get hm h2 rfl (rg_21 _ _ _)) rfl rfl rfl ?_
        refine ms1 dm_means_113 rfl rfl rfl rfl ?_
        refine ms1 dm_means_115 rfl rfl rfl rfl ?_
        obtain ⟨ho, hok⟩ := hok
        refine ms3 dm_means_116 (r_iastk (k := 21) hm h2 (rc_21 _ _ _ _ _) rfl ho (rs_21 _ _ _ _ _ _)) rfl rfl rfl ?_
        have he : lp_means (n + 1) 80 i l I J v w = ((), i, l, (va_up I 21 (upd (I 21) ((v 5)).toNatClampNeg (v 3))), (va_up J 19 (vp_updL (J 19) ((v 5)).toNatClampNeg (w 1)))) := by
          rw [lb_means_80]
          simp only [hb1, Bool.false_eq_true, if_true, if_false]
        rw [he]
        exact ms5 dm_means_117 rfl rfl rfl
      · have hb1 : ¬ (mj_cnd .ge (v 5) (0 : Int32) = true) := hb1
        rw [if_neg hb1] at hok
        refine ms1 dm_means_85 rfl rfl rfl rfl ?_
        refine ms3 dm_means_86 (r_get (v := .int (i 23)) hm h2 rfl (rg_23 _ _ _)) rfl rfl rfl ?_
        refine ms1 dm_means_89 rfl rfl rfl rfl ?_
        refine ms1 dm_means_91 rfl rfl rfl rfl ?_
        refine ms0 dm_means_92 rfl rfl rfl rfl ?_
        refine ms3 dm_means_93 (r_get (v := .int (i 23)) hm h2 rfl (rg_23 _ _ _)) rfl rfl rfl ?_
        refine ms0 (S' := .int (1 : Int32) :: _) dm_means_96 rfl rfl rfl rfl ?_
        refine ms0 dm_means_97 rfl rfl rfl rfl ?_
        refine ms3 dm_means_98 (r_puti hm h2 rfl (rF_lt 23 rfl) (rf_23 _ _ _ _)) rfl rfl rfl ?_
        have he : lp_means (n + 1) 80 i l I J v w = lp_means n 101 (upd i 23 ((i 23) + (1 : Int32))) l I J (upd v 5 (i 23)) w := by
          rw [lb_means_80]
          simp only [hb1, Bool.false_eq_true, if_true, if_false]
        rw [he]
        exact mjR_sub rfl rfl rfl (ih.2.2.2.2.2 _ _ _ _ _ _ hok)
    · intro i l I J v w hok
      have hok : (¬ ((v 5) < 0 ∨ 40 ≤ ((v 5)).toNatClampNeg) ∧ (¬ ((v 5) < 0 ∨ 40 ≤ ((v 5)).toNatClampNeg) ∧ True)) := hok
      refine ms1 dm_means_101 rfl rfl rfl rfl ?_
      refine ms3 dm_means_102 (r_get hm h2 rfl (rg_19 _ _ _)) rfl rfl rfl ?_
      refine ms1 dm_means_105 rfl rfl rfl rfl ?_
      refine ms1 dm_means_107 rfl rfl rfl rfl ?_
      obtain ⟨ho, hok⟩ := hok
      refine ms3 dm_means_108 (r_lastk (k := 19) hm h2 (rc_19 _ _ _ _ _) rfl ho (rs_19 _ _ _ _ _ _)) rfl rfl rfl ?_
      refine ms1 dm_means_109 rfl rfl rfl rfl ?_
      refine ms3 dm_means_110 (r_get hm h2 rfl (rg_21 _ _ _)) rfl rfl rfl ?_
      refine ms1 dm_means_113 rfl rfl rfl rfl ?_
      refine ms1 dm_means_115 rfl rfl rfl rfl ?_
      obtain ⟨ho, hok⟩ := hok
      refine ms3 dm_means_116 (r_iastk (k := 21) hm h2 (rc_21 _ _ _ _ _) rfl ho (rs_21 _ _ _ _ _ _)) rfl rfl rfl ?_
      have he : lp_means (n + 1) 101 i l I J v w = ((), i, l, (va_up I 21 (upd (I 21) ((v 5)).toNatClampNeg (v 3))), (va_up J 19 (vp_updL (J 19) ((v 5)).toNatClampNeg (w 1)))) := by
        rw [lb_means_101]
      rw [he]
      exact ms5 dm_means_117 rfl rfl rfl
set_option maxRecDepth 20000 in
theorem q_means {xt : mj_X} {pre post : mj_H} {m : Nat} {i : Nat → Int32} {l : Nat → Int64} {I : Nat → Nat → Int32} {J : Nat → Nat → Int64} {d : Nat} (hm : pre.length = m) (h2 : 2 ≤ m) {p0 : Int64} {p1 : Int32} {n : Nat} (hok : ok_means n i l I J p0 p1) : pgC xt (d + 2) k_means (.ref m :: [.long p0, .int p1]) (rH pre post m i l I J) none (rH pre post m (s_means n i l I J p0 p1).2.1 (s_means n i l I J p0 p1).2.2.1 (s_means n i l I J p0 p1).2.2.2.1 (s_means n i l I J p0 p1).2.2.2.2) := by
  unfold ok_means at hok
  refine ms_call pm_means (Nat.le_of_ble_eq_true rfl) ?_
  dsimp only
  refine ms1 dm_means_0 rfl rfl rfl rfl ?_
  refine ms1 dm_means_1 rfl rfl rfl rfl ?_
  obtain ⟨ho, hok⟩ := hok
  refine ms4 dm_means_2 rfl (r_inv (As := [.long p0]) hm h2 rfl rfl rfl) (q_functionNamed hm h2 ho) rfl rfl rfl ?_
  refine ms1 dm_means_5 rfl rfl rfl rfl ?_
  refine ms1 dm_means_7 rfl rfl rfl rfl ?_
  refine ms_1c dm_means_9 rfl rfl (fun hb1 => ?_) (fun hb1 => ?_)
  · have hb1 : mj_cnd .lt ((s_functionNamed n i l I J p0).1) (0 : Int32) = true := hb1
    rw [if_pos hb1] at hok
    refine ms1 dm_means_73 rfl rfl rfl rfl ?_
    refine ms1 dm_means_74 rfl rfl rfl rfl ?_
    obtain ⟨ho, hok⟩ := hok
    refine ms4 dm_means_75 rfl (r_inv (As := [.long p0]) hm h2 rfl rfl rfl) (q_valueNamed hm h2 ho) rfl rfl rfl ?_
    refine ms1 dm_means_78 rfl rfl rfl rfl ?_
    have he : s_means n i l I J p0 p1 = lp_means n 80 ((s_valueNamed n ((s_functionNamed n i l I J p0).2.1) ((s_functionNamed n i l I J p0).2.2.1) ((s_functionNamed n i l I J p0).2.2.2.1) ((s_functionNamed n i l I J p0).2.2.2.2) p0).2.1) ((s_valueNamed n ((s_functionNamed n i l I J p0).2.1) ((s_functionNamed n i l I J p0).2.2.1) ((s_functionNamed n i l I J p0).2.2.2.1) ((s_functionNamed n i l I J p0).2.2.2.2) p0).2.2.1) ((s_valueNamed n ((s_functionNamed n i l I J p0).2.1) ((s_functionNamed n i l I J p0).2.2.1) ((s_functionNamed n i l I J p0).2.2.2.1) ((s_functionNamed n i l I J p0).2.2.2.2) p0).2.2.2.1) ((s_valueNamed n ((s_functionNamed n i l I J p0).2.1) ((s_functionNamed n i l I J p0).2.2.1) ((s_functionNamed n i l I J p0).2.2.2.1) ((s_functionNamed n i l I J p0).2.2.2.2) p0).2.2.2.2) (upd (upd (fun _ => 0) 3 p1) 5 ((s_valueNamed n ((s_functionNamed n i l I J p0).2.1) ((s_functionNamed n i l I J p0).2.2.1) ((s_functionNamed n i l I J p0).2.2.2.1) ((s_functionNamed n i l I J p0).2.2.2.2) p0).1)) (vp_updL (fun _ => 0) 1 p0) := by
      unfold s_means
      simp only [hb1, Bool.false_eq_true, if_true, if_false]
    rw [he]
    exact mjR_sub rfl rfl rfl ((ql_means hm h2 n).2.2.2.2.1 _ _ _ _ _ _ hok)
  · have hb1 : ¬ (mj_cnd .lt ((s_functionNamed n i l I J p0).1) (0 : Int32) = true) := hb1
    rw [if_neg hb1] at hok
    refine ms1 dm_means_12 rfl rfl rfl rfl ?_
    refine ms0 dm_means_13 rfl rfl rfl rfl ?_
    refine ms3 dm_means_14 (r_get (v := .int (((s_functionNamed n i l I J p0).2.1) 24)) hm h2 rfl (rg_24 _ _ _)) rfl rfl rfl ?_
    refine ms0 (S' := .int (1 : Int32) :: _) dm_means_17 rfl rfl rfl rfl ?_
    refine ms0 dm_means_18 rfl rfl rfl rfl ?_
    refine ms3 dm_means_19 (r_puti hm h2 rfl (rF_lt 24 rfl) (rf_24 _ _ _ _)) rfl rfl rfl ?_
    have he : s_means n i l I J p0 p1 = lp_means n 22 (upd ((s_functionNamed n i l I J p0).2.1) 24 ((((s_functionNamed n i l I J p0).2.1) 24) - (1 : Int32))) ((s_functionNamed n i l I J p0).2.2.1) ((s_functionNamed n i l I J p0).2.2.2.1) ((s_functionNamed n i l I J p0).2.2.2.2) (upd (upd (fun _ => 0) 3 p1) 4 ((s_functionNamed n i l I J p0).1)) (vp_updL (fun _ => 0) 1 p0) := by
      unfold s_means
      simp only [hb1, Bool.false_eq_true, if_true, if_false]
    rw [he]
    exact mjR_sub rfl rfl rfl ((ql_means hm h2 n).1 _ _ _ _ _ _ hok)
def k_told : Nat := 301
set_option maxRecDepth 20000 in
theorem pm_told : mj_mmof pg_ms k_told = some ((⟨"ArrayCalculatorModel", "told", "(I)I"⟩, prog_14_method_112_code, 2, (Option.some Jvm.ClassFile.FieldType.int)), 12, false, mj_dec prog_14_method_112_code) := rfl
theorem dm_told_0 : mj_dec prog_14_method_112_code 0 = some (.iload_n 1, 1) := by decide +kernel
theorem dm_told_1 : mj_dec prog_14_method_112_code 1 = some (.tableswitch 51 0 3 #[31, 36, 41, 46], 31) := by decide +kernel
theorem dm_told_32 : mj_dec prog_14_method_112_code 32 = some (.aload_n 0, 1) := by decide +kernel
theorem dm_told_33 : mj_dec prog_14_method_112_code 33 = some (.getfield 181, 3) := by decide +kernel
theorem dm_told_36 : mj_dec prog_14_method_112_code 36 = some (.ireturn, 1) := by decide +kernel
theorem dm_told_37 : mj_dec prog_14_method_112_code 37 = some (.aload_n 0, 1) := by decide +kernel
theorem dm_told_38 : mj_dec prog_14_method_112_code 38 = some (.getfield 22, 3) := by decide +kernel
theorem dm_told_41 : mj_dec prog_14_method_112_code 41 = some (.ireturn, 1) := by decide +kernel
theorem dm_told_42 : mj_dec prog_14_method_112_code 42 = some (.aload_n 0, 1) := by decide +kernel
theorem dm_told_43 : mj_dec prog_14_method_112_code 43 = some (.getfield 193, 3) := by decide +kernel
theorem dm_told_46 : mj_dec prog_14_method_112_code 46 = some (.ireturn, 1) := by decide +kernel
theorem dm_told_47 : mj_dec prog_14_method_112_code 47 = some (.aload_n 0, 1) := by decide +kernel
theorem dm_told_48 : mj_dec prog_14_method_112_code 48 = some (.getfield 27, 3) := by decide +kernel
theorem dm_told_51 : mj_dec prog_14_method_112_code 51 = some (.ireturn, 1) := by decide +kernel
theorem dm_told_52 : mj_dec prog_14_method_112_code 52 = some (.iconst (-1), 1) := by decide +kernel
theorem dm_told_53 : mj_dec prog_14_method_112_code 53 = some (.ireturn, 1) := by decide +kernel
def a_told (i : Nat → Int32) (l : Nat → Int64) (I : Nat → Nat → Int32) (J : Nat → Nat → Int64) (p0 : Int32) : Int32 := (if mj_cnd .eq p0 (0 : Int32) = true then (i 5) else (if mj_cnd .eq p0 (1 : Int32) = true then (i 6) else (if mj_cnd .eq p0 (2 : Int32) = true then (i 7) else (if mj_cnd .eq p0 (3 : Int32) = true then (i 8) else (-1 : Int32)))))
def ok_told (i : Nat → Int32) (l : Nat → Int64) (I : Nat → Nat → Int32) (J : Nat → Nat → Int64) (p0 : Int32) : Prop := True
set_option maxRecDepth 20000 in
theorem q_told {xt : mj_X} {pre post : mj_H} {m : Nat} {i : Nat → Int32} {l : Nat → Int64} {I : Nat → Nat → Int32} {J : Nat → Nat → Int64} {d : Nat} (hm : pre.length = m) (h2 : 2 ≤ m) {p0 : Int32} (hok : ok_told i l I J p0) : pgC xt (d + 1) k_told (.ref m :: [.int p0]) (rH pre post m i l I J) (some (.int (a_told i l I J p0))) (rH pre post m i l I J) := by
  unfold ok_told at hok
  refine ms_call pm_told (Nat.le_of_ble_eq_true rfl) ?_
  dsimp only
  refine ms1 dm_told_0 rfl rfl rfl rfl ?_
  refine ms_sw (0 : Int32) dm_told_1 rfl rfl rfl (fun hb1 => ?_) (fun hb1 => ?_)
  · have hb1 : mj_cnd .eq p0 (0 : Int32) = true := hb1
    refine ms1 dm_told_32 rfl rfl rfl rfl ?_
    refine ms3 dm_told_33 (r_get (v := .int (i 5)) hm h2 rfl (rg_5 _ _ _)) rfl rfl rfl ?_
    simp only [a_told, hb1, Bool.false_eq_true, if_true, if_false]
    exact ms5 dm_told_36 rfl rfl rfl
  · have hb1 : ¬ (mj_cnd .eq p0 (0 : Int32) = true) := hb1
    refine ms_sw (1 : Int32) dm_told_1 rfl rfl rfl (fun hb2 => ?_) (fun hb2 => ?_)
    · have hb2 : mj_cnd .eq p0 (1 : Int32) = true := hb2
      refine ms1 dm_told_37 rfl rfl rfl rfl ?_
      refine ms3 dm_told_38 (r_get (v := .int (i 6)) hm h2 rfl (rg_6 _ _ _)) rfl rfl rfl ?_
      simp only [a_told, hb1, hb2, Bool.false_eq_true, if_true, if_false]
      exact ms5 dm_told_41 rfl rfl rfl
    · have hb2 : ¬ (mj_cnd .eq p0 (1 : Int32) = true) := hb2
      refine ms_sw (2 : Int32) dm_told_1 rfl rfl rfl (fun hb3 => ?_) (fun hb3 => ?_)
      · have hb3 : mj_cnd .eq p0 (2 : Int32) = true := hb3
        refine ms1 dm_told_42 rfl rfl rfl rfl ?_
        refine ms3 dm_told_43 (r_get (v := .int (i 7)) hm h2 rfl (rg_7 _ _ _)) rfl rfl rfl ?_
        simp only [a_told, hb1, hb2, hb3, Bool.false_eq_true, if_true, if_false]
        exact ms5 dm_told_46 rfl rfl rfl
      · have hb3 : ¬ (mj_cnd .eq p0 (2 : Int32) = true) := hb3
        refine ms_sw (3 : Int32) dm_told_1 rfl rfl rfl (fun hb4 => ?_) (fun hb4 => ?_)
        · have hb4 : mj_cnd .eq p0 (3 : Int32) = true := hb4
          refine ms1 dm_told_47 rfl rfl rfl rfl ?_
          refine ms3 dm_told_48 (r_get (v := .int (i 8)) hm h2 rfl (rg_8 _ _ _)) rfl rfl rfl ?_
          simp only [a_told, hb1, hb2, hb3, hb4, Bool.false_eq_true, if_true, if_false]
          exact ms5 dm_told_51 rfl rfl rfl
        · have hb4 : ¬ (mj_cnd .eq p0 (3 : Int32) = true) := hb4
          refine ms2 dm_told_1 (sw_tdef [0, 1, 2, 3] rfl rfl rfl ⟨hb1, hb2, hb3, hb4, trivial⟩) rfl rfl ?_
          refine ms0 (S' := .int (-1 : Int32) :: _) dm_told_52 rfl rfl rfl rfl ?_
          simp only [a_told, hb1, hb2, hb3, hb4, Bool.false_eq_true, if_true, if_false]
          exact ms5 dm_told_53 rfl rfl rfl
def k_point : Nat := 302
set_option maxRecDepth 20000 in
theorem pm_point : mj_mmof pg_ms k_point = some ((⟨"ArrayCalculatorModel", "point", "(II)Z"⟩, prog_14_method_113_code, 3, (Option.some Jvm.ClassFile.FieldType.boolean)), 12, false, mj_dec prog_14_method_113_code) := rfl
theorem dm_point_0 : mj_dec prog_14_method_113_code 0 = some (.iload_n 1, 1) := by decide +kernel
theorem dm_point_1 : mj_dec prog_14_method_113_code 1 = some (.ifCond .ne 13, 3) := by decide +kernel
theorem dm_point_4 : mj_dec prog_14_method_113_code 4 = some (.aload_n 0, 1) := by decide +kernel
theorem dm_point_5 : mj_dec prog_14_method_113_code 5 = some (.aload_n 0, 1) := by decide +kernel
theorem dm_point_6 : mj_dec prog_14_method_113_code 6 = some (.getfield 109, 3) := by decide +kernel
theorem dm_point_9 : mj_dec prog_14_method_113_code 9 = some (.putfield 112, 3) := by decide +kernel
theorem dm_point_12 : mj_dec prog_14_method_113_code 12 = some (.iconst 1, 1) := by decide +kernel
theorem dm_point_13 : mj_dec prog_14_method_113_code 13 = some (.ireturn, 1) := by decide +kernel
theorem dm_point_14 : mj_dec prog_14_method_113_code 14 = some (.iload_n 1, 1) := by decide +kernel
theorem dm_point_15 : mj_dec prog_14_method_113_code 15 = some (.iconst 1, 1) := by decide +kernel
theorem dm_point_16 : mj_dec prog_14_method_113_code 16 = some (.if_icmp .ne 29, 3) := by decide +kernel
theorem dm_point_19 : mj_dec prog_14_method_113_code 19 = some (.iload_n 2, 1) := by decide +kernel
theorem dm_point_20 : mj_dec prog_14_method_113_code 20 = some (.ifCond .lt 11, 3) := by decide +kernel
theorem dm_point_23 : mj_dec prog_14_method_113_code 23 = some (.iload_n 2, 1) := by decide +kernel
theorem dm_point_24 : mj_dec prog_14_method_113_code 24 = some (.aload_n 0, 1) := by decide +kernel
theorem dm_point_25 : mj_dec prog_14_method_113_code 25 = some (.getfield 357, 3) := by decide +kernel
theorem dm_point_28 : mj_dec prog_14_method_113_code 28 = some (.if_icmp .lt 5, 3) := by decide +kernel
theorem dm_point_31 : mj_dec prog_14_method_113_code 31 = some (.iconst 0, 1) := by decide +kernel
theorem dm_point_32 : mj_dec prog_14_method_113_code 32 = some (.ireturn, 1) := by decide +kernel
theorem dm_point_33 : mj_dec prog_14_method_113_code 33 = some (.aload_n 0, 1) := by decide +kernel
theorem dm_point_34 : mj_dec prog_14_method_113_code 34 = some (.aload_n 0, 1) := by decide +kernel
theorem dm_point_35 : mj_dec prog_14_method_113_code 35 = some (.getfield 49, 3) := by decide +kernel
theorem dm_point_38 : mj_dec prog_14_method_113_code 38 = some (.iload_n 2, 1) := by decide +kernel
theorem dm_point_39 : mj_dec prog_14_method_113_code 39 = some (.iaload, 1) := by decide +kernel
theorem dm_point_40 : mj_dec prog_14_method_113_code 40 = some (.putfield 112, 3) := by decide +kernel
theorem dm_point_43 : mj_dec prog_14_method_113_code 43 = some (.iconst 1, 1) := by decide +kernel
theorem dm_point_44 : mj_dec prog_14_method_113_code 44 = some (.ireturn, 1) := by decide +kernel
theorem dm_point_45 : mj_dec prog_14_method_113_code 45 = some (.iload_n 1, 1) := by decide +kernel
theorem dm_point_46 : mj_dec prog_14_method_113_code 46 = some (.iconst 2, 1) := by decide +kernel
theorem dm_point_47 : mj_dec prog_14_method_113_code 47 = some (.if_icmp .ne 32, 3) := by decide +kernel
theorem dm_point_50 : mj_dec prog_14_method_113_code 50 = some (.aload_n 0, 1) := by decide +kernel
theorem dm_point_51 : mj_dec prog_14_method_113_code 51 = some (.aload_n 0, 1) := by decide +kernel
theorem dm_point_52 : mj_dec prog_14_method_113_code 52 = some (.getfield 112, 3) := by decide +kernel
theorem dm_point_55 : mj_dec prog_14_method_113_code 55 = some (.invokevirtual 146, 3) := by decide +kernel
theorem dm_point_58 : mj_dec prog_14_method_113_code 58 = some (.bipush 6, 2) := by decide +kernel
theorem dm_point_60 : mj_dec prog_14_method_113_code 60 = some (.if_icmp .lt 19, 3) := by decide +kernel
theorem dm_point_63 : mj_dec prog_14_method_113_code 63 = some (.iload_n 2, 1) := by decide +kernel
theorem dm_point_64 : mj_dec prog_14_method_113_code 64 = some (.ifCond .lt 15, 3) := by decide +kernel
theorem dm_point_67 : mj_dec prog_14_method_113_code 67 = some (.iload_n 2, 1) := by decide +kernel
theorem dm_point_68 : mj_dec prog_14_method_113_code 68 = some (.aload_n 0, 1) := by decide +kernel
theorem dm_point_69 : mj_dec prog_14_method_113_code 69 = some (.aload_n 0, 1) := by decide +kernel
theorem dm_point_70 : mj_dec prog_14_method_113_code 70 = some (.getfield 112, 3) := by decide +kernel
theorem dm_point_73 : mj_dec prog_14_method_113_code 73 = some (.invokevirtual 134, 3) := by decide +kernel
theorem dm_point_76 : mj_dec prog_14_method_113_code 76 = some (.if_icmp .lt 5, 3) := by decide +kernel
theorem dm_point_79 : mj_dec prog_14_method_113_code 79 = some (.iconst 0, 1) := by decide +kernel
theorem dm_point_80 : mj_dec prog_14_method_113_code 80 = some (.ireturn, 1) := by decide +kernel
theorem dm_point_81 : mj_dec prog_14_method_113_code 81 = some (.aload_n 0, 1) := by decide +kernel
theorem dm_point_82 : mj_dec prog_14_method_113_code 82 = some (.aload_n 0, 1) := by decide +kernel
theorem dm_point_83 : mj_dec prog_14_method_113_code 83 = some (.aload_n 0, 1) := by decide +kernel
theorem dm_point_84 : mj_dec prog_14_method_113_code 84 = some (.getfield 112, 3) := by decide +kernel
theorem dm_point_87 : mj_dec prog_14_method_113_code 87 = some (.iload_n 2, 1) := by decide +kernel
theorem dm_point_88 : mj_dec prog_14_method_113_code 88 = some (.iconst 2, 1) := by decide +kernel
theorem dm_point_89 : mj_dec prog_14_method_113_code 89 = some (.invokevirtual 159, 3) := by decide +kernel
theorem dm_point_92 : mj_dec prog_14_method_113_code 92 = some (.putfield 112, 3) := by decide +kernel
theorem dm_point_95 : mj_dec prog_14_method_113_code 95 = some (.iconst 1, 1) := by decide +kernel
theorem dm_point_96 : mj_dec prog_14_method_113_code 96 = some (.ireturn, 1) := by decide +kernel
def a_point (i : Nat → Int32) (l : Nat → Int64) (I : Nat → Nat → Int32) (J : Nat → Nat → Int64) (p0 : Int32) (p1 : Int32) : Int32 := (if mj_cnd .ne p0 (0 : Int32) = true then (if mj_cnd .ne p0 (1 : Int32) = true then (if mj_cnd .ne p0 (2 : Int32) = true then (0 : Int32) else (if mj_cnd .lt (a_kindOf i l I J (i 31)) (6 : Int32) = true then (0 : Int32) else (if mj_cnd .lt p1 (0 : Int32) = true then (0 : Int32) else (if mj_cnd .lt p1 (a_many i l I J (i 31)) = true then (1 : Int32) else (0 : Int32))))) else (if mj_cnd .lt p1 (0 : Int32) = true then (0 : Int32) else (if mj_cnd .lt p1 (i 23) = true then (1 : Int32) else (0 : Int32)))) else (1 : Int32))
def si_point (i : Nat → Int32) (l : Nat → Int64) (I : Nat → Nat → Int32) (J : Nat → Nat → Int64) (p0 : Int32) (p1 : Int32) : Nat → Int32 := (if mj_cnd .ne p0 (0 : Int32) = true then (if mj_cnd .ne p0 (1 : Int32) = true then (if mj_cnd .ne p0 (2 : Int32) = true then i else (if mj_cnd .lt (a_kindOf i l I J (i 31)) (6 : Int32) = true then i else (if mj_cnd .lt p1 (0 : Int32) = true then i else (if mj_cnd .lt p1 (a_many i l I J (i 31)) = true then (upd i 31 (a_itemAt i l I J (i 31) p1 (2 : Int32))) else i)))) else (if mj_cnd .lt p1 (0 : Int32) = true then i else (if mj_cnd .lt p1 (i 23) = true then (upd i 31 (I 21 (p1).toNatClampNeg)) else i))) else (upd i 31 (i 30)))
def sI_point (i : Nat → Int32) (l : Nat → Int64) (I : Nat → Nat → Int32) (J : Nat → Nat → Int64) (p0 : Int32) (p1 : Int32) : Nat → Nat → Int32 := (if mj_cnd .ne p0 (0 : Int32) = true then (if mj_cnd .ne p0 (1 : Int32) = true then (if mj_cnd .ne p0 (2 : Int32) = true then I else (if mj_cnd .lt (a_kindOf i l I J (i 31)) (6 : Int32) = true then I else (if mj_cnd .lt p1 (0 : Int32) = true then I else (if mj_cnd .lt p1 (a_many i l I J (i 31)) = true then (sI_itemAt i l I J (i 31) p1 (2 : Int32)) else I)))) else (if mj_cnd .lt p1 (0 : Int32) = true then I else (if mj_cnd .lt p1 (i 23) = true then I else I))) else I)
def ok_point (i : Nat → Int32) (l : Nat → Int64) (I : Nat → Nat → Int32) (J : Nat → Nat → Int64) (p0 : Int32) (p1 : Int32) : Prop := (if mj_cnd .ne p0 (0 : Int32) = true then (if mj_cnd .ne p0 (1 : Int32) = true then (if mj_cnd .ne p0 (2 : Int32) = true then True else (ok_kindOf i l I J (i 31) ∧ (if mj_cnd .lt (a_kindOf i l I J (i 31)) (6 : Int32) = true then True else (if mj_cnd .lt p1 (0 : Int32) = true then True else (ok_many i l I J (i 31) ∧ (if mj_cnd .lt p1 (a_many i l I J (i 31)) = true then (ok_itemAt i l I J (i 31) p1 (2 : Int32) ∧ True) else True)))))) else (if mj_cnd .lt p1 (0 : Int32) = true then True else (if mj_cnd .lt p1 (i 23) = true then (¬ (p1 < 0 ∨ 40 ≤ (p1).toNatClampNeg) ∧ True) else True))) else True)
set_option maxRecDepth 20000 in
theorem q_point {xt : mj_X} {pre post : mj_H} {m : Nat} {i : Nat → Int32} {l : Nat → Int64} {I : Nat → Nat → Int32} {J : Nat → Nat → Int64} {d : Nat} (hm : pre.length = m) (h2 : 2 ≤ m) {p0 : Int32} {p1 : Int32} (hok : ok_point i l I J p0 p1) : pgC xt (d + 3) k_point (.ref m :: [.int p0, .int p1]) (rH pre post m i l I J) (some (.int (a_point i l I J p0 p1))) (rH pre post m (si_point i l I J p0 p1) l (sI_point i l I J p0 p1) J) := by
  unfold ok_point at hok
  refine ms_call pm_point (Nat.le_of_ble_eq_true rfl) ?_
  dsimp only
  refine ms1 dm_point_0 rfl rfl rfl rfl ?_
  refine ms_1c dm_point_1 rfl rfl (fun hb1 => ?_) (fun hb1 => ?_)
  · have hb1 : mj_cnd .ne p0 (0 : Int32) = true := hb1
    rw [if_pos hb1] at hok
    refine ms1 dm_point_14 rfl rfl rfl rfl ?_
    refine ms0 (S' := .int (1 : Int32) :: _) dm_point_15 rfl rfl rfl rfl ?_
    refine ms_2c dm_point_16 rfl rfl (fun hb2 => ?_) (fun hb2 => ?_)
    · have hb2 : mj_cnd .ne p0 (1 : Int32) = true := hb2
      rw [if_pos hb2] at hok
      refine ms1 dm_point_45 rfl rfl rfl rfl ?_
      refine ms0 (S' := .int (2 : Int32) :: _) dm_point_46 rfl rfl rfl rfl ?_
      refine ms_2c dm_point_47 rfl rfl (fun hb3 => ?_) (fun hb3 => ?_)
      · have hb3 : mj_cnd .ne p0 (2 : Int32) = true := hb3
        rw [if_pos hb3] at hok
        refine ms0 (S' := .int (0 : Int32) :: _) dm_point_79 rfl rfl rfl rfl ?_
        simp only [a_point, si_point, sI_point, hb1, hb2, hb3, Bool.false_eq_true, if_true, if_false]
        exact ms5 dm_point_80 rfl rfl rfl
      · have hb3 : ¬ (mj_cnd .ne p0 (2 : Int32) = true) := hb3
        rw [if_neg hb3] at hok
        refine ms1 dm_point_50 rfl rfl rfl rfl ?_
        refine ms1 dm_point_51 rfl rfl rfl rfl ?_
        refine ms3 dm_point_52 (r_get (v := .int (i 31)) hm h2 rfl (rg_31 _ _ _)) rfl rfl rfl ?_
        obtain ⟨ho, hok⟩ := hok
        refine ms4 dm_point_55 rfl (r_inv (As := [.int (i 31)]) hm h2 rfl rfl rfl) (q_kindOf hm h2 ho) rfl rfl rfl ?_
        refine ms0 (S' := .int (6 : Int32) :: _) dm_point_58 rfl rfl rfl rfl ?_
        refine ms_2c dm_point_60 rfl rfl (fun hb4 => ?_) (fun hb4 => ?_)
        · have hb4 : mj_cnd .lt (a_kindOf i l I J (i 31)) (6 : Int32) = true := hb4
          rw [if_pos hb4] at hok
          refine ms0 (S' := .int (0 : Int32) :: _) dm_point_79 rfl rfl rfl rfl ?_
          simp only [a_point, si_point, sI_point, hb1, hb2, hb3, hb4, Bool.false_eq_true, if_true, if_false]
          exact ms5 dm_point_80 rfl rfl rfl
        · have hb4 : ¬ (mj_cnd .lt (a_kindOf i l I J (i 31)) (6 : Int32) = true) := hb4
          rw [if_neg hb4] at hok
          refine ms1 dm_point_63 rfl rfl rfl rfl ?_
          refine ms_1c dm_point_64 rfl rfl (fun hb5 => ?_) (fun hb5 => ?_)
          · have hb5 : mj_cnd .lt p1 (0 : Int32) = true := hb5
            rw [if_pos hb5] at hok
            refine ms0 (S' := .int (0 : Int32) :: _) dm_point_79 rfl rfl rfl rfl ?_
            simp only [a_point, si_point, sI_point, hb1, hb2, hb3, hb4, hb5, Bool.false_eq_true, if_true, if_false]
            exact ms5 dm_point_80 rfl rfl rfl
          · have hb5 : ¬ (mj_cnd .lt p1 (0 : Int32) = true) := hb5
            rw [if_neg hb5] at hok
            refine ms1 dm_point_67 rfl rfl rfl rfl ?_
            refine ms1 dm_point_68 rfl rfl rfl rfl ?_
            refine ms1 dm_point_69 rfl rfl rfl rfl ?_
            refine ms3 dm_point_70 (r_get (v := .int (i 31)) hm h2 rfl (rg_31 _ _ _)) rfl rfl rfl ?_
            obtain ⟨ho, hok⟩ := hok
            refine ms4 dm_point_73 rfl (r_inv (As := [.int (i 31)]) hm h2 rfl rfl rfl) (q_many hm h2 ho) rfl rfl rfl ?_
            refine ms_2c dm_point_76 rfl rfl (fun hb6 => ?_) (fun hb6 => ?_)
            · have hb6 : mj_cnd .lt p1 (a_many i l I J (i 31)) = true := hb6
              rw [if_pos hb6] at hok
              refine ms1 dm_point_81 rfl rfl rfl rfl ?_
              refine ms1 dm_point_82 rfl rfl rfl rfl ?_
              refine ms1 dm_point_83 rfl rfl rfl rfl ?_
              refine ms3 dm_point_84 (r_get (v := .int (i 31)) hm h2 rfl (rg_31 _ _ _)) rfl rfl rfl ?_
              refine ms1 dm_point_87 rfl rfl rfl rfl ?_
              refine ms0 (S' := .int (2 : Int32) :: _) dm_point_88 rfl rfl rfl rfl ?_
              obtain ⟨ho, hok⟩ := hok
              refine ms4 dm_point_89 rfl (r_inv (As := [.int (i 31), .int p1, .int (2 : Int32)]) hm h2 rfl rfl rfl) (q_itemAt hm h2 ho) rfl rfl rfl ?_
              refine ms3 dm_point_92 (r_puti hm h2 rfl (rF_lt 31 rfl) (rf_31 _ _ _ _)) rfl rfl rfl ?_
              refine ms0 (S' := .int (1 : Int32) :: _) dm_point_95 rfl rfl rfl rfl ?_
              simp only [a_point, si_point, sI_point, hb1, hb2, hb3, hb4, hb5, hb6, Bool.false_eq_true, if_true, if_false]
              exact ms5 dm_point_96 rfl rfl rfl
            · have hb6 : ¬ (mj_cnd .lt p1 (a_many i l I J (i 31)) = true) := hb6
              rw [if_neg hb6] at hok
              refine ms0 (S' := .int (0 : Int32) :: _) dm_point_79 rfl rfl rfl rfl ?_
              simp only [a_point, si_point, sI_point, hb1, hb2, hb3, hb4, hb5, hb6, Bool.false_eq_true, if_true, if_false]
              exact ms5 dm_point_80 rfl rfl rfl
    · have hb2 : ¬ (mj_cnd .ne p0 (1 : Int32) = true) := hb2
      rw [if_neg hb2] at hok
      refine ms1 dm_point_19 rfl rfl rfl rfl ?_
      refine ms_1c dm_point_20 rfl rfl (fun hb7 => ?_) (fun hb7 => ?_)
      · have hb7 : mj_cnd .lt p1 (0 : Int32) = true := hb7
        rw [if_pos hb7] at hok
        refine ms0 (S' := .int (0 : Int32) :: _) dm_point_31 rfl rfl rfl rfl ?_
        simp only [a_point, si_point, sI_point, hb1, hb2, hb7, Bool.false_eq_true, if_true, if_false]
        exact ms5 dm_point_32 rfl rfl rfl
      · have hb7 : ¬ (mj_cnd .lt p1 (0 : Int32) = true) := hb7
        rw [if_neg hb7] at hok
        refine ms1 dm_point_23 rfl rfl rfl rfl ?_
        refine ms1 dm_point_24 rfl rfl rfl rfl ?_
        refine ms3 dm_point_25 (r_get (v := .int (i 23)) hm h2 rfl (rg_23 _ _ _)) rfl rfl rfl ?_
        refine ms_2c dm_point_28 rfl rfl (fun hb8 => ?_) (fun hb8 => ?_)
        · have hb8 : mj_cnd .lt p1 (i 23) = true := hb8
          rw [if_pos hb8] at hok
          refine ms1 dm_point_33 rfl rfl rfl rfl ?_
          refine ms1 dm_point_34 rfl rfl rfl rfl ?_
          refine ms3 dm_point_35 (r_get hm h2 rfl (rg_21 _ _ _)) rfl rfl rfl ?_
          refine ms1 dm_point_38 rfl rfl rfl rfl ?_
          obtain ⟨ho, hok⟩ := hok
          refine ms3 dm_point_39 (r_iald hm h2 (rc_21 _ _ _ _ _) rfl ho) rfl rfl rfl ?_
          refine ms3 dm_point_40 (r_puti hm h2 rfl (rF_lt 31 rfl) (rf_31 _ _ _ _)) rfl rfl rfl ?_
          refine ms0 (S' := .int (1 : Int32) :: _) dm_point_43 rfl rfl rfl rfl ?_
          simp only [a_point, si_point, sI_point, hb1, hb2, hb7, hb8, Bool.false_eq_true, if_true, if_false]
          exact ms5 dm_point_44 rfl rfl rfl
        · have hb8 : ¬ (mj_cnd .lt p1 (i 23) = true) := hb8
          rw [if_neg hb8] at hok
          refine ms0 (S' := .int (0 : Int32) :: _) dm_point_31 rfl rfl rfl rfl ?_
          simp only [a_point, si_point, sI_point, hb1, hb2, hb7, hb8, Bool.false_eq_true, if_true, if_false]
          exact ms5 dm_point_32 rfl rfl rfl
  · have hb1 : ¬ (mj_cnd .ne p0 (0 : Int32) = true) := hb1
    rw [if_neg hb1] at hok
    refine ms1 dm_point_4 rfl rfl rfl rfl ?_
    refine ms1 dm_point_5 rfl rfl rfl rfl ?_
    refine ms3 dm_point_6 (r_get (v := .int (i 30)) hm h2 rfl (rg_30 _ _ _)) rfl rfl rfl ?_
    refine ms3 dm_point_9 (r_puti hm h2 rfl (rF_lt 31 rfl) (rf_31 _ _ _ _)) rfl rfl rfl ?_
    refine ms0 (S' := .int (1 : Int32) :: _) dm_point_12 rfl rfl rfl rfl ?_
    simp only [a_point, si_point, sI_point, hb1, Bool.false_eq_true, if_true, if_false]
    exact ms5 dm_point_13 rfl rfl rfl
def k_item : Nat := 305
set_option maxRecDepth 20000 in
theorem pm_item : mj_mmof pg_ms k_item = some ((⟨"ArrayCalculatorModel", "item", "(I)J"⟩, prog_14_method_116_code, 4, (Option.some Jvm.ClassFile.FieldType.long)), 12, false, mj_dec prog_14_method_116_code) := rfl
theorem dm_item_0 : mj_dec prog_14_method_116_code 0 = some (.aload_n 0, 1) := by decide +kernel
theorem dm_item_1 : mj_dec prog_14_method_116_code 1 = some (.aload_n 0, 1) := by decide +kernel
theorem dm_item_2 : mj_dec prog_14_method_116_code 2 = some (.getfield 112, 3) := by decide +kernel
theorem dm_item_5 : mj_dec prog_14_method_116_code 5 = some (.invokevirtual 146, 3) := by decide +kernel
theorem dm_item_8 : mj_dec prog_14_method_116_code 8 = some (.istore_n 2, 1) := by decide +kernel
theorem dm_item_9 : mj_dec prog_14_method_116_code 9 = some (.iload_n 2, 1) := by decide +kernel
theorem dm_item_10 : mj_dec prog_14_method_116_code 10 = some (.bipush 7, 2) := by decide +kernel
theorem dm_item_12 : mj_dec prog_14_method_116_code 12 = some (.if_icmp .ne 7, 3) := by decide +kernel
theorem dm_item_15 : mj_dec prog_14_method_116_code 15 = some (.iconst 0, 1) := by decide +kernel
theorem dm_item_16 : mj_dec prog_14_method_116_code 16 = some (.goto 37, 3) := by decide +kernel
theorem dm_item_19 : mj_dec prog_14_method_116_code 19 = some (.iload_n 2, 1) := by decide +kernel
theorem dm_item_20 : mj_dec prog_14_method_116_code 20 = some (.bipush 6, 2) := by decide +kernel
theorem dm_item_22 : mj_dec prog_14_method_116_code 22 = some (.if_icmp .ne 23, 3) := by decide +kernel
theorem dm_item_25 : mj_dec prog_14_method_116_code 25 = some (.aload_n 0, 1) := by decide +kernel
theorem dm_item_26 : mj_dec prog_14_method_116_code 26 = some (.aload_n 0, 1) := by decide +kernel
theorem dm_item_27 : mj_dec prog_14_method_116_code 27 = some (.getfield 112, 3) := by decide +kernel
theorem dm_item_30 : mj_dec prog_14_method_116_code 30 = some (.invokevirtual 134, 3) := by decide +kernel
theorem dm_item_33 : mj_dec prog_14_method_116_code 33 = some (.aload_n 0, 1) := by decide +kernel
theorem dm_item_34 : mj_dec prog_14_method_116_code 34 = some (.aload_n 0, 1) := by decide +kernel
theorem dm_item_35 : mj_dec prog_14_method_116_code 35 = some (.getfield 112, 3) := by decide +kernel
theorem dm_item_38 : mj_dec prog_14_method_116_code 38 = some (.invokevirtual 156, 3) := by decide +kernel
theorem dm_item_41 : mj_dec prog_14_method_116_code 41 = some (.imul, 1) := by decide +kernel
theorem dm_item_42 : mj_dec prog_14_method_116_code 42 = some (.goto 11, 3) := by decide +kernel
theorem dm_item_45 : mj_dec prog_14_method_116_code 45 = some (.aload_n 0, 1) := by decide +kernel
theorem dm_item_46 : mj_dec prog_14_method_116_code 46 = some (.aload_n 0, 1) := by decide +kernel
theorem dm_item_47 : mj_dec prog_14_method_116_code 47 = some (.getfield 112, 3) := by decide +kernel
theorem dm_item_50 : mj_dec prog_14_method_116_code 50 = some (.invokevirtual 134, 3) := by decide +kernel
theorem dm_item_53 : mj_dec prog_14_method_116_code 53 = some (.istore_n 3, 1) := by decide +kernel
theorem dm_item_54 : mj_dec prog_14_method_116_code 54 = some (.iload_n 1, 1) := by decide +kernel
theorem dm_item_55 : mj_dec prog_14_method_116_code 55 = some (.ifCond .lt 8, 3) := by decide +kernel
theorem dm_item_58 : mj_dec prog_14_method_116_code 58 = some (.iload_n 1, 1) := by decide +kernel
theorem dm_item_59 : mj_dec prog_14_method_116_code 59 = some (.iload_n 3, 1) := by decide +kernel
theorem dm_item_60 : mj_dec prog_14_method_116_code 60 = some (.if_icmp .lt 7, 3) := by decide +kernel
theorem dm_item_63 : mj_dec prog_14_method_116_code 63 = some (.lconst 0, 1) := by decide +kernel
theorem dm_item_64 : mj_dec prog_14_method_116_code 64 = some (.goto 12, 3) := by decide +kernel
theorem dm_item_67 : mj_dec prog_14_method_116_code 67 = some (.aload_n 0, 1) := by decide +kernel
theorem dm_item_68 : mj_dec prog_14_method_116_code 68 = some (.aload_n 0, 1) := by decide +kernel
theorem dm_item_69 : mj_dec prog_14_method_116_code 69 = some (.getfield 112, 3) := by decide +kernel
theorem dm_item_72 : mj_dec prog_14_method_116_code 72 = some (.iload_n 1, 1) := by decide +kernel
theorem dm_item_73 : mj_dec prog_14_method_116_code 73 = some (.invokevirtual 138, 3) := by decide +kernel
theorem dm_item_76 : mj_dec prog_14_method_116_code 76 = some (.lreturn, 1) := by decide +kernel
def lp_item : Nat → Nat → (Nat → Int32) → (Nat → Int64) → (Nat → Nat → Int32) → (Nat → Nat → Int64) → (Nat → Int32) → (Nat → Int64) → Int64 × (Nat → Int32) × (Nat → Int64) × (Nat → Nat → Int32) × (Nat → Nat → Int64)
  | 0, _, i, l, I, J, _, _ => (0, i, l, I, J)
  | n + 1, hd, i, l, I, J, v, w => match hd with
    | 63 => ((0 : Int64), i, l, I, J)
    | _ => (0, i, l, I, J)
theorem lb_item_63 (n : Nat) (i : Nat → Int32) (l : Nat → Int64) (I : Nat → Nat → Int32) (J : Nat → Nat → Int64) (v : Nat → Int32) (w : Nat → Int64) : lp_item (n + 1) 63 i l I J v w = ((0 : Int64), i, l, I, J) := rfl
def okl_item : Nat → Nat → (Nat → Int32) → (Nat → Int64) → (Nat → Nat → Int32) → (Nat → Nat → Int64) → (Nat → Int32) → (Nat → Int64) → Prop
  | 0, _, _, _, _, _, _, _ => False
  | n + 1, hd, i, l, I, J, v, w => match hd with
    | 63 => True
    | _ => False
def s_item (n : Nat) (i : Nat → Int32) (l : Nat → Int64) (I : Nat → Nat → Int32) (J : Nat → Nat → Int64) (p0 : Int32) : Int64 × (Nat → Int32) × (Nat → Int64) × (Nat → Nat → Int32) × (Nat → Nat → Int64) := (if mj_cnd .ne (a_kindOf i l I J (i 31)) (7 : Int32) = true then (if mj_cnd .ne (a_kindOf i l I J (i 31)) (6 : Int32) = true then (if mj_cnd .lt p0 (0 : Int32) = true then lp_item n 63 i l I J (fun _ => 0) (fun _ => 0) else (if mj_cnd .lt p0 (a_many i l I J (i 31)) = true then ((a_number i l I J (i 31) p0), i, l, I, J) else lp_item n 63 i l I J (fun _ => 0) (fun _ => 0))) else (if mj_cnd .lt p0 (0 : Int32) = true then lp_item n 63 i l I J (fun _ => 0) (fun _ => 0) else (if mj_cnd .lt p0 ((a_many i l I J (i 31)) * (a_columns i l I J (i 31))) = true then ((a_number i l I J (i 31) p0), i, l, I, J) else lp_item n 63 i l I J (fun _ => 0) (fun _ => 0)))) else (if mj_cnd .lt p0 (0 : Int32) = true then lp_item n 63 i l I J (fun _ => 0) (fun _ => 0) else lp_item n 63 i l I J (fun _ => 0) (fun _ => 0)))
def ok_item (n : Nat) (i : Nat → Int32) (l : Nat → Int64) (I : Nat → Nat → Int32) (J : Nat → Nat → Int64) (p0 : Int32) : Prop := (ok_kindOf i l I J (i 31) ∧ (if mj_cnd .ne (a_kindOf i l I J (i 31)) (7 : Int32) = true then (if mj_cnd .ne (a_kindOf i l I J (i 31)) (6 : Int32) = true then (ok_many i l I J (i 31) ∧ (if mj_cnd .lt p0 (0 : Int32) = true then okl_item n 63 i l I J (fun _ => 0) (fun _ => 0) else (if mj_cnd .lt p0 (a_many i l I J (i 31)) = true then (ok_number i l I J (i 31) p0 ∧ True) else okl_item n 63 i l I J (fun _ => 0) (fun _ => 0)))) else (ok_many i l I J (i 31) ∧ (ok_columns i l I J (i 31) ∧ (if mj_cnd .lt p0 (0 : Int32) = true then okl_item n 63 i l I J (fun _ => 0) (fun _ => 0) else (if mj_cnd .lt p0 ((a_many i l I J (i 31)) * (a_columns i l I J (i 31))) = true then (ok_number i l I J (i 31) p0 ∧ True) else okl_item n 63 i l I J (fun _ => 0) (fun _ => 0)))))) else (if mj_cnd .lt p0 (0 : Int32) = true then okl_item n 63 i l I J (fun _ => 0) (fun _ => 0) else okl_item n 63 i l I J (fun _ => 0) (fun _ => 0))))
set_option maxRecDepth 20000 in
theorem ql_item {xt : mj_X} {pre post : mj_H} {m : Nat} {d : Nat} (hm : pre.length = m) (h2 : 2 ≤ m) : ∀ n : Nat, (∀ i l I J v w, okl_item n 63 i l I J v w → mjR (fun N => mj_call (mj_mmof pg_ms) (mj_TTof pg_TL) xt pg_tl 2 (d + 1) N) (mj_TTof pg_TL 12).1 (mj_TTof pg_TL 12).2 xt pg_tl 2 4 (d + 1) false (Option.some Jvm.ClassFile.FieldType.long) (mj_dec prog_14_method_116_code) 63 [(0, .ref m)] [] (rH pre post m i l I J) (some (.long (lp_item n 63 i l I J v w).1)) (rH pre post m (lp_item n 63 i l I J v w).2.1 (lp_item n 63 i l I J v w).2.2.1 (lp_item n 63 i l I J v w).2.2.2.1 (lp_item n 63 i l I J v w).2.2.2.2)) := by
  intro n
  induction n with
  | zero => exact fun i l I J v w h => absurd h id
  | succ n ih =>
    · intro i l I J v w hok
      have hok : True := hok
      refine ms0 (S' := .long (0 : Int64) :: _) dm_item_63 rfl rfl rfl rfl ?_
      refine ms2 dm_item_64 rfl rfl rfl ?_
      have he : lp_item (n + 1) 63 i l I J v w = ((0 : Int64), i, l, I, J) := by
        rw [lb_item_63]
      rw [he]
      exact ms5 dm_item_76 rfl rfl rfl
set_option maxRecDepth 20000 in
theorem q_item {xt : mj_X} {pre post : mj_H} {m : Nat} {i : Nat → Int32} {l : Nat → Int64} {I : Nat → Nat → Int32} {J : Nat → Nat → Int64} {d : Nat} (hm : pre.length = m) (h2 : 2 ≤ m) {p0 : Int32} {n : Nat} (hok : ok_item n i l I J p0) : pgC xt (d + 2) k_item (.ref m :: [.int p0]) (rH pre post m i l I J) (some (.long (s_item n i l I J p0).1)) (rH pre post m (s_item n i l I J p0).2.1 (s_item n i l I J p0).2.2.1 (s_item n i l I J p0).2.2.2.1 (s_item n i l I J p0).2.2.2.2) := by
  unfold ok_item at hok
  refine ms_call pm_item (Nat.le_of_ble_eq_true rfl) ?_
  dsimp only
  refine ms1 dm_item_0 rfl rfl rfl rfl ?_
  refine ms1 dm_item_1 rfl rfl rfl rfl ?_
  refine ms3 dm_item_2 (r_get (v := .int (i 31)) hm h2 rfl (rg_31 _ _ _)) rfl rfl rfl ?_
  obtain ⟨ho, hok⟩ := hok
  refine ms4 dm_item_5 rfl (r_inv (As := [.int (i 31)]) hm h2 rfl rfl rfl) (q_kindOf hm h2 ho) rfl rfl rfl ?_
  refine ms1 dm_item_8 rfl rfl rfl rfl ?_
  refine ms1 dm_item_9 rfl rfl rfl rfl ?_
  refine ms0 (S' := .int (7 : Int32) :: _) dm_item_10 rfl rfl rfl rfl ?_
  refine ms_2c dm_item_12 rfl rfl (fun hb1 => ?_) (fun hb1 => ?_)
  · have hb1 : mj_cnd .ne (a_kindOf i l I J (i 31)) (7 : Int32) = true := hb1
    rw [if_pos hb1] at hok
    refine ms1 dm_item_19 rfl rfl rfl rfl ?_
    refine ms0 (S' := .int (6 : Int32) :: _) dm_item_20 rfl rfl rfl rfl ?_
    refine ms_2c dm_item_22 rfl rfl (fun hb2 => ?_) (fun hb2 => ?_)
    · have hb2 : mj_cnd .ne (a_kindOf i l I J (i 31)) (6 : Int32) = true := hb2
      rw [if_pos hb2] at hok
      refine ms1 dm_item_45 rfl rfl rfl rfl ?_
      refine ms1 dm_item_46 rfl rfl rfl rfl ?_
      refine ms3 dm_item_47 (r_get (v := .int (i 31)) hm h2 rfl (rg_31 _ _ _)) rfl rfl rfl ?_
      obtain ⟨ho, hok⟩ := hok
      refine ms4 dm_item_50 rfl (r_inv (As := [.int (i 31)]) hm h2 rfl rfl rfl) (q_many hm h2 ho) rfl rfl rfl ?_
      refine ms1 dm_item_53 rfl rfl rfl rfl ?_
      refine ms1 dm_item_54 rfl rfl rfl rfl ?_
      refine ms_1c dm_item_55 rfl rfl (fun hb3 => ?_) (fun hb3 => ?_)
      · have hb3 : mj_cnd .lt p0 (0 : Int32) = true := hb3
        rw [if_pos hb3] at hok
        have he : s_item n i l I J p0 = lp_item n 63 i l I J (fun _ => 0) (fun _ => 0) := by
          unfold s_item
          simp only [hb1, hb2, hb3, Bool.false_eq_true, if_true, if_false]
        rw [he]
        exact mjR_sub rfl rfl rfl ((ql_item hm h2 n) _ _ _ _ _ _ hok)
      · have hb3 : ¬ (mj_cnd .lt p0 (0 : Int32) = true) := hb3
        rw [if_neg hb3] at hok
        refine ms1 dm_item_58 rfl rfl rfl rfl ?_
        refine ms1 dm_item_59 rfl rfl rfl rfl ?_
        refine ms_2c dm_item_60 rfl rfl (fun hb4 => ?_) (fun hb4 => ?_)
        · have hb4 : mj_cnd .lt p0 (a_many i l I J (i 31)) = true := hb4
          rw [if_pos hb4] at hok
          refine ms1 dm_item_67 rfl rfl rfl rfl ?_
          refine ms1 dm_item_68 rfl rfl rfl rfl ?_
          refine ms3 dm_item_69 (r_get (v := .int (i 31)) hm h2 rfl (rg_31 _ _ _)) rfl rfl rfl ?_
          refine ms1 dm_item_72 rfl rfl rfl rfl ?_
          obtain ⟨ho, hok⟩ := hok
          refine ms4 dm_item_73 rfl (r_inv (As := [.int (i 31), .int p0]) hm h2 rfl rfl rfl) (q_number hm h2 ho) rfl rfl rfl ?_
          have he : s_item n i l I J p0 = ((a_number i l I J (i 31) p0), i, l, I, J) := by
            unfold s_item
            simp only [hb1, hb2, hb3, hb4, Bool.false_eq_true, if_true, if_false]
          rw [he]
          exact ms5 dm_item_76 rfl rfl rfl
        · have hb4 : ¬ (mj_cnd .lt p0 (a_many i l I J (i 31)) = true) := hb4
          rw [if_neg hb4] at hok
          have he : s_item n i l I J p0 = lp_item n 63 i l I J (fun _ => 0) (fun _ => 0) := by
            unfold s_item
            simp only [hb1, hb2, hb3, hb4, Bool.false_eq_true, if_true, if_false]
          rw [he]
          exact mjR_sub rfl rfl rfl ((ql_item hm h2 n) _ _ _ _ _ _ hok)
    · have hb2 : ¬ (mj_cnd .ne (a_kindOf i l I J (i 31)) (6 : Int32) = true) := hb2
      rw [if_neg hb2] at hok
      refine ms1 dm_item_25 rfl rfl rfl rfl ?_
      refine ms1 dm_item_26 rfl rfl rfl rfl ?_
      refine ms3 dm_item_27 (r_get (v := .int (i 31)) hm h2 rfl (rg_31 _ _ _)) rfl rfl rfl ?_
      obtain ⟨ho, hok⟩ := hok
      refine ms4 dm_item_30 rfl (r_inv (As := [.int (i 31)]) hm h2 rfl rfl rfl) (q_many hm h2 ho) rfl rfl rfl ?_
      refine ms1 dm_item_33 rfl rfl rfl rfl ?_
      refine ms1 dm_item_34 rfl rfl rfl rfl ?_
      refine ms3 dm_item_35 (r_get (v := .int (i 31)) hm h2 rfl (rg_31 _ _ _)) rfl rfl rfl ?_
      obtain ⟨ho, hok⟩ := hok
      refine ms4 dm_item_38 rfl (r_inv (As := [.int (i 31)]) hm h2 rfl rfl rfl) (q_columns hm h2 ho) rfl rfl rfl ?_
      refine ms0 dm_item_41 rfl rfl rfl rfl ?_
      refine ms2 dm_item_42 rfl rfl rfl ?_
      refine ms1 dm_item_53 rfl rfl rfl rfl ?_
      refine ms1 dm_item_54 rfl rfl rfl rfl ?_
      refine ms_1c dm_item_55 rfl rfl (fun hb5 => ?_) (fun hb5 => ?_)
      · have hb5 : mj_cnd .lt p0 (0 : Int32) = true := hb5
        rw [if_pos hb5] at hok
        have he : s_item n i l I J p0 = lp_item n 63 i l I J (fun _ => 0) (fun _ => 0) := by
          unfold s_item
          simp only [hb1, hb2, hb5, Bool.false_eq_true, if_true, if_false]
        rw [he]
        exact mjR_sub rfl rfl rfl ((ql_item hm h2 n) _ _ _ _ _ _ hok)
      · have hb5 : ¬ (mj_cnd .lt p0 (0 : Int32) = true) := hb5
        rw [if_neg hb5] at hok
        refine ms1 dm_item_58 rfl rfl rfl rfl ?_
        refine ms1 dm_item_59 rfl rfl rfl rfl ?_
        refine ms_2c dm_item_60 rfl rfl (fun hb6 => ?_) (fun hb6 => ?_)
        · have hb6 : mj_cnd .lt p0 ((a_many i l I J (i 31)) * (a_columns i l I J (i 31))) = true := hb6
          rw [if_pos hb6] at hok
          refine ms1 dm_item_67 rfl rfl rfl rfl ?_
          refine ms1 dm_item_68 rfl rfl rfl rfl ?_
          refine ms3 dm_item_69 (r_get (v := .int (i 31)) hm h2 rfl (rg_31 _ _ _)) rfl rfl rfl ?_
          refine ms1 dm_item_72 rfl rfl rfl rfl ?_
          obtain ⟨ho, hok⟩ := hok
          refine ms4 dm_item_73 rfl (r_inv (As := [.int (i 31), .int p0]) hm h2 rfl rfl rfl) (q_number hm h2 ho) rfl rfl rfl ?_
          have he : s_item n i l I J p0 = ((a_number i l I J (i 31) p0), i, l, I, J) := by
            unfold s_item
            simp only [hb1, hb2, hb5, hb6, Bool.false_eq_true, if_true, if_false]
          rw [he]
          exact ms5 dm_item_76 rfl rfl rfl
        · have hb6 : ¬ (mj_cnd .lt p0 ((a_many i l I J (i 31)) * (a_columns i l I J (i 31))) = true) := hb6
          rw [if_neg hb6] at hok
          have he : s_item n i l I J p0 = lp_item n 63 i l I J (fun _ => 0) (fun _ => 0) := by
            unfold s_item
            simp only [hb1, hb2, hb5, hb6, Bool.false_eq_true, if_true, if_false]
          rw [he]
          exact mjR_sub rfl rfl rfl ((ql_item hm h2 n) _ _ _ _ _ _ hok)
  · have hb1 : ¬ (mj_cnd .ne (a_kindOf i l I J (i 31)) (7 : Int32) = true) := hb1
    rw [if_neg hb1] at hok
    refine ms0 (S' := .int (0 : Int32) :: _) dm_item_15 rfl rfl rfl rfl ?_
    refine ms2 dm_item_16 rfl rfl rfl ?_
    refine ms1 dm_item_53 rfl rfl rfl rfl ?_
    refine ms1 dm_item_54 rfl rfl rfl rfl ?_
    refine ms_1c dm_item_55 rfl rfl (fun hb7 => ?_) (fun hb7 => ?_)
    · have hb7 : mj_cnd .lt p0 (0 : Int32) = true := hb7
      rw [if_pos hb7] at hok
      have he : s_item n i l I J p0 = lp_item n 63 i l I J (fun _ => 0) (fun _ => 0) := by
        unfold s_item
        simp only [hb1, hb7, Bool.false_eq_true, if_true, if_false]
      rw [he]
      exact mjR_sub rfl rfl rfl ((ql_item hm h2 n) _ _ _ _ _ _ hok)
    · have hb7 : ¬ (mj_cnd .lt p0 (0 : Int32) = true) := hb7
      rw [if_neg hb7] at hok
      refine ms1 dm_item_58 rfl rfl rfl rfl ?_
      refine ms1 dm_item_59 rfl rfl rfl rfl ?_
      refine ms_2f dm_item_60 rfl hb7 rfl ?_
      have he : s_item n i l I J p0 = lp_item n 63 i l I J (fun _ => 0) (fun _ => 0) := by
        unfold s_item
        simp only [hb1, hb7, Bool.false_eq_true, if_true, if_false]
      rw [he]
      exact mjR_sub rfl rfl rfl ((ql_item hm h2 n) _ _ _ _ _ _ hok)
def k_octet : Nat := 307
set_option maxRecDepth 20000 in
theorem pm_octet : mj_mmof pg_ms k_octet = some ((⟨"ArrayCalculatorModel", "octet", "(I)I"⟩, prog_14_method_118_code, 2, (Option.some Jvm.ClassFile.FieldType.int)), 12, false, mj_dec prog_14_method_118_code) := rfl
theorem dm_octet_0 : mj_dec prog_14_method_118_code 0 = some (.iload_n 1, 1) := by decide +kernel
theorem dm_octet_1 : mj_dec prog_14_method_118_code 1 = some (.ifCond .lt 11, 3) := by decide +kernel
theorem dm_octet_4 : mj_dec prog_14_method_118_code 4 = some (.iload_n 1, 1) := by decide +kernel
theorem dm_octet_5 : mj_dec prog_14_method_118_code 5 = some (.aload_n 0, 1) := by decide +kernel
theorem dm_octet_6 : mj_dec prog_14_method_118_code 6 = some (.getfield 577, 3) := by decide +kernel
theorem dm_octet_9 : mj_dec prog_14_method_118_code 9 = some (.if_icmp .lt 7, 3) := by decide +kernel
theorem dm_octet_12 : mj_dec prog_14_method_118_code 12 = some (.iconst (-1), 1) := by decide +kernel
theorem dm_octet_13 : mj_dec prog_14_method_118_code 13 = some (.goto 9, 3) := by decide +kernel
theorem dm_octet_16 : mj_dec prog_14_method_118_code 16 = some (.aload_n 0, 1) := by decide +kernel
theorem dm_octet_17 : mj_dec prog_14_method_118_code 17 = some (.getfield 40, 3) := by decide +kernel
theorem dm_octet_20 : mj_dec prog_14_method_118_code 20 = some (.iload_n 1, 1) := by decide +kernel
theorem dm_octet_21 : mj_dec prog_14_method_118_code 21 = some (.baload, 1) := by decide +kernel
theorem dm_octet_22 : mj_dec prog_14_method_118_code 22 = some (.ireturn, 1) := by decide +kernel
def a_octet (i : Nat → Int32) (l : Nat → Int64) (I : Nat → Nat → Int32) (J : Nat → Nat → Int64) (p0 : Int32) : Int32 := (if mj_cnd .lt p0 (0 : Int32) = true then (-1 : Int32) else (if mj_cnd .lt p0 (i 18) = true then (I 16 (p0).toNatClampNeg) else (-1 : Int32)))
def ok_octet (i : Nat → Int32) (l : Nat → Int64) (I : Nat → Nat → Int32) (J : Nat → Nat → Int64) (p0 : Int32) : Prop := (if mj_cnd .lt p0 (0 : Int32) = true then True else (if mj_cnd .lt p0 (i 18) = true then (¬ (p0 < 0 ∨ 400 ≤ (p0).toNatClampNeg) ∧ True) else True))
set_option maxRecDepth 20000 in
theorem q_octet {xt : mj_X} {pre post : mj_H} {m : Nat} {i : Nat → Int32} {l : Nat → Int64} {I : Nat → Nat → Int32} {J : Nat → Nat → Int64} {d : Nat} (hm : pre.length = m) (h2 : 2 ≤ m) {p0 : Int32} (hok : ok_octet i l I J p0) : pgC xt (d + 1) k_octet (.ref m :: [.int p0]) (rH pre post m i l I J) (some (.int (a_octet i l I J p0))) (rH pre post m i l I J) := by
  unfold ok_octet at hok
  refine ms_call pm_octet (Nat.le_of_ble_eq_true rfl) ?_
  dsimp only
  refine ms1 dm_octet_0 rfl rfl rfl rfl ?_
  refine ms_1c dm_octet_1 rfl rfl (fun hb1 => ?_) (fun hb1 => ?_)
  · have hb1 : mj_cnd .lt p0 (0 : Int32) = true := hb1
    rw [if_pos hb1] at hok
    refine ms0 (S' := .int (-1 : Int32) :: _) dm_octet_12 rfl rfl rfl rfl ?_
    refine ms2 dm_octet_13 rfl rfl rfl ?_
    simp only [a_octet, hb1, Bool.false_eq_true, if_true, if_false]
    exact ms5 dm_octet_22 rfl rfl rfl
  · have hb1 : ¬ (mj_cnd .lt p0 (0 : Int32) = true) := hb1
    rw [if_neg hb1] at hok
    refine ms1 dm_octet_4 rfl rfl rfl rfl ?_
    refine ms1 dm_octet_5 rfl rfl rfl rfl ?_
    refine ms3 dm_octet_6 (r_get (v := .int (i 18)) hm h2 rfl (rg_18 _ _ _)) rfl rfl rfl ?_
    refine ms_2c dm_octet_9 rfl rfl (fun hb2 => ?_) (fun hb2 => ?_)
    · have hb2 : mj_cnd .lt p0 (i 18) = true := hb2
      rw [if_pos hb2] at hok
      refine ms1 dm_octet_16 rfl rfl rfl rfl ?_
      refine ms3 dm_octet_17 (r_get hm h2 rfl (rg_16 _ _ _)) rfl rfl rfl ?_
      refine ms1 dm_octet_20 rfl rfl rfl rfl ?_
      obtain ⟨ho, hok⟩ := hok
      refine ms3 dm_octet_21 (r_bald hm h2 (rc_16 _ _ _ _ _) rfl ho) rfl rfl rfl ?_
      simp only [a_octet, hb1, hb2, Bool.false_eq_true, if_true, if_false]
      exact ms5 dm_octet_22 rfl rfl rfl
    · have hb2 : ¬ (mj_cnd .lt p0 (i 18) = true) := hb2
      rw [if_neg hb2] at hok
      refine ms0 (S' := .int (-1 : Int32) :: _) dm_octet_12 rfl rfl rfl rfl ?_
      refine ms2 dm_octet_13 rfl rfl rfl ?_
      simp only [a_octet, hb1, hb2, Bool.false_eq_true, if_true, if_false]
      exact ms5 dm_octet_22 rfl rfl rfl
def k_keep : Nat := 308
set_option maxRecDepth 20000 in
theorem pm_keep : mj_mmof pg_ms k_keep = some ((⟨"ArrayCalculatorModel", "keep", "(I)Z"⟩, prog_14_method_119_code, 3, (Option.some Jvm.ClassFile.FieldType.boolean)), 12, false, mj_dec prog_14_method_119_code) := rfl
theorem dm_keep_0 : mj_dec prog_14_method_119_code 0 = some (.iload_n 1, 1) := by decide +kernel
theorem dm_keep_1 : mj_dec prog_14_method_119_code 1 = some (.ifCond .lt 8, 3) := by decide +kernel
theorem dm_keep_4 : mj_dec prog_14_method_119_code 4 = some (.iload_n 1, 1) := by decide +kernel
theorem dm_keep_5 : mj_dec prog_14_method_119_code 5 = some (.iconst 3, 1) := by decide +kernel
theorem dm_keep_6 : mj_dec prog_14_method_119_code 6 = some (.if_icmp .le 5, 3) := by decide +kernel
theorem dm_keep_9 : mj_dec prog_14_method_119_code 9 = some (.iconst 0, 1) := by decide +kernel
theorem dm_keep_10 : mj_dec prog_14_method_119_code 10 = some (.ireturn, 1) := by decide +kernel
theorem dm_keep_11 : mj_dec prog_14_method_119_code 11 = some (.aload_n 0, 1) := by decide +kernel
theorem dm_keep_12 : mj_dec prog_14_method_119_code 12 = some (.getfield 67, 3) := by decide +kernel
theorem dm_keep_15 : mj_dec prog_14_method_119_code 15 = some (.iload_n 1, 1) := by decide +kernel
theorem dm_keep_16 : mj_dec prog_14_method_119_code 16 = some (.iconst 1, 1) := by decide +kernel
theorem dm_keep_17 : mj_dec prog_14_method_119_code 17 = some (.bastore, 1) := by decide +kernel
theorem dm_keep_18 : mj_dec prog_14_method_119_code 18 = some (.aload_n 0, 1) := by decide +kernel
theorem dm_keep_19 : mj_dec prog_14_method_119_code 19 = some (.getfield 61, 3) := by decide +kernel
theorem dm_keep_22 : mj_dec prog_14_method_119_code 22 = some (.iload_n 1, 1) := by decide +kernel
theorem dm_keep_23 : mj_dec prog_14_method_119_code 23 = some (.aload_n 0, 1) := by decide +kernel
theorem dm_keep_24 : mj_dec prog_14_method_119_code 24 = some (.getfield 357, 3) := by decide +kernel
theorem dm_keep_27 : mj_dec prog_14_method_119_code 27 = some (.iastore, 1) := by decide +kernel
theorem dm_keep_28 : mj_dec prog_14_method_119_code 28 = some (.aload_n 0, 1) := by decide +kernel
theorem dm_keep_29 : mj_dec prog_14_method_119_code 29 = some (.getfield 64, 3) := by decide +kernel
theorem dm_keep_32 : mj_dec prog_14_method_119_code 32 = some (.iload_n 1, 1) := by decide +kernel
theorem dm_keep_33 : mj_dec prog_14_method_119_code 33 = some (.aload_n 0, 1) := by decide +kernel
theorem dm_keep_34 : mj_dec prog_14_method_119_code 34 = some (.getfield 360, 3) := by decide +kernel
theorem dm_keep_37 : mj_dec prog_14_method_119_code 37 = some (.iastore, 1) := by decide +kernel
theorem dm_keep_38 : mj_dec prog_14_method_119_code 38 = some (.iconst 0, 1) := by decide +kernel
theorem dm_keep_39 : mj_dec prog_14_method_119_code 39 = some (.istore_n 2, 1) := by decide +kernel
theorem dm_keep_40 : mj_dec prog_14_method_119_code 40 = some (.iload_n 2, 1) := by decide +kernel
theorem dm_keep_41 : mj_dec prog_14_method_119_code 41 = some (.bipush 40, 2) := by decide +kernel
theorem dm_keep_43 : mj_dec prog_14_method_119_code 43 = some (.if_icmp .ge 83, 3) := by decide +kernel
theorem dm_keep_46 : mj_dec prog_14_method_119_code 46 = some (.aload_n 0, 1) := by decide +kernel
theorem dm_keep_47 : mj_dec prog_14_method_119_code 47 = some (.getfield 55, 3) := by decide +kernel
theorem dm_keep_50 : mj_dec prog_14_method_119_code 50 = some (.bipush 80, 2) := by decide +kernel
theorem dm_keep_52 : mj_dec prog_14_method_119_code 52 = some (.iload_n 1, 1) := by decide +kernel
theorem dm_keep_53 : mj_dec prog_14_method_119_code 53 = some (.imul, 1) := by decide +kernel
theorem dm_keep_54 : mj_dec prog_14_method_119_code 54 = some (.iload_n 2, 1) := by decide +kernel
theorem dm_keep_55 : mj_dec prog_14_method_119_code 55 = some (.iadd, 1) := by decide +kernel
theorem dm_keep_56 : mj_dec prog_14_method_119_code 56 = some (.aload_n 0, 1) := by decide +kernel
theorem dm_keep_57 : mj_dec prog_14_method_119_code 57 = some (.getfield 43, 3) := by decide +kernel
theorem dm_keep_60 : mj_dec prog_14_method_119_code 60 = some (.iload_n 2, 1) := by decide +kernel
theorem dm_keep_61 : mj_dec prog_14_method_119_code 61 = some (.laload, 1) := by decide +kernel
theorem dm_keep_62 : mj_dec prog_14_method_119_code 62 = some (.lastore, 1) := by decide +kernel
theorem dm_keep_63 : mj_dec prog_14_method_119_code 63 = some (.aload_n 0, 1) := by decide +kernel
theorem dm_keep_64 : mj_dec prog_14_method_119_code 64 = some (.getfield 58, 3) := by decide +kernel
theorem dm_keep_67 : mj_dec prog_14_method_119_code 67 = some (.bipush 80, 2) := by decide +kernel
theorem dm_keep_69 : mj_dec prog_14_method_119_code 69 = some (.iload_n 1, 1) := by decide +kernel
theorem dm_keep_70 : mj_dec prog_14_method_119_code 70 = some (.imul, 1) := by decide +kernel
theorem dm_keep_71 : mj_dec prog_14_method_119_code 71 = some (.iload_n 2, 1) := by decide +kernel
theorem dm_keep_72 : mj_dec prog_14_method_119_code 72 = some (.iadd, 1) := by decide +kernel
theorem dm_keep_73 : mj_dec prog_14_method_119_code 73 = some (.aload_n 0, 1) := by decide +kernel
theorem dm_keep_74 : mj_dec prog_14_method_119_code 74 = some (.getfield 49, 3) := by decide +kernel
theorem dm_keep_77 : mj_dec prog_14_method_119_code 77 = some (.iload_n 2, 1) := by decide +kernel
theorem dm_keep_78 : mj_dec prog_14_method_119_code 78 = some (.iaload, 1) := by decide +kernel
theorem dm_keep_79 : mj_dec prog_14_method_119_code 79 = some (.iastore, 1) := by decide +kernel
theorem dm_keep_80 : mj_dec prog_14_method_119_code 80 = some (.aload_n 0, 1) := by decide +kernel
theorem dm_keep_81 : mj_dec prog_14_method_119_code 81 = some (.getfield 55, 3) := by decide +kernel
theorem dm_keep_84 : mj_dec prog_14_method_119_code 84 = some (.bipush 80, 2) := by decide +kernel
theorem dm_keep_86 : mj_dec prog_14_method_119_code 86 = some (.iload_n 1, 1) := by decide +kernel
theorem dm_keep_87 : mj_dec prog_14_method_119_code 87 = some (.imul, 1) := by decide +kernel
theorem dm_keep_88 : mj_dec prog_14_method_119_code 88 = some (.bipush 40, 2) := by decide +kernel
theorem dm_keep_90 : mj_dec prog_14_method_119_code 90 = some (.iadd, 1) := by decide +kernel
theorem dm_keep_91 : mj_dec prog_14_method_119_code 91 = some (.iload_n 2, 1) := by decide +kernel
theorem dm_keep_92 : mj_dec prog_14_method_119_code 92 = some (.iadd, 1) := by decide +kernel
theorem dm_keep_93 : mj_dec prog_14_method_119_code 93 = some (.aload_n 0, 1) := by decide +kernel
theorem dm_keep_94 : mj_dec prog_14_method_119_code 94 = some (.getfield 46, 3) := by decide +kernel
theorem dm_keep_97 : mj_dec prog_14_method_119_code 97 = some (.iload_n 2, 1) := by decide +kernel
theorem dm_keep_98 : mj_dec prog_14_method_119_code 98 = some (.laload, 1) := by decide +kernel
theorem dm_keep_99 : mj_dec prog_14_method_119_code 99 = some (.lastore, 1) := by decide +kernel
theorem dm_keep_100 : mj_dec prog_14_method_119_code 100 = some (.aload_n 0, 1) := by decide +kernel
theorem dm_keep_101 : mj_dec prog_14_method_119_code 101 = some (.getfield 58, 3) := by decide +kernel
theorem dm_keep_104 : mj_dec prog_14_method_119_code 104 = some (.bipush 80, 2) := by decide +kernel
theorem dm_keep_106 : mj_dec prog_14_method_119_code 106 = some (.iload_n 1, 1) := by decide +kernel
theorem dm_keep_107 : mj_dec prog_14_method_119_code 107 = some (.imul, 1) := by decide +kernel
theorem dm_keep_108 : mj_dec prog_14_method_119_code 108 = some (.bipush 40, 2) := by decide +kernel
theorem dm_keep_110 : mj_dec prog_14_method_119_code 110 = some (.iadd, 1) := by decide +kernel
theorem dm_keep_111 : mj_dec prog_14_method_119_code 111 = some (.iload_n 2, 1) := by decide +kernel
theorem dm_keep_112 : mj_dec prog_14_method_119_code 112 = some (.iadd, 1) := by decide +kernel
theorem dm_keep_113 : mj_dec prog_14_method_119_code 113 = some (.aload_n 0, 1) := by decide +kernel
theorem dm_keep_114 : mj_dec prog_14_method_119_code 114 = some (.getfield 52, 3) := by decide +kernel
theorem dm_keep_117 : mj_dec prog_14_method_119_code 117 = some (.iload_n 2, 1) := by decide +kernel
theorem dm_keep_118 : mj_dec prog_14_method_119_code 118 = some (.iaload, 1) := by decide +kernel
theorem dm_keep_119 : mj_dec prog_14_method_119_code 119 = some (.iastore, 1) := by decide +kernel
theorem dm_keep_120 : mj_dec prog_14_method_119_code 120 = some (.iinc 2 1, 3) := by decide +kernel
theorem dm_keep_123 : mj_dec prog_14_method_119_code 123 = some (.goto (-83), 3) := by decide +kernel
theorem dm_keep_126 : mj_dec prog_14_method_119_code 126 = some (.iconst 1, 1) := by decide +kernel
theorem dm_keep_127 : mj_dec prog_14_method_119_code 127 = some (.ireturn, 1) := by decide +kernel
def lp_keep : Nat → Nat → (Nat → Int32) → (Nat → Int64) → (Nat → Nat → Int32) → (Nat → Nat → Int64) → (Nat → Int32) → (Nat → Int64) → Int32 × (Nat → Int32) × (Nat → Int64) × (Nat → Nat → Int32) × (Nat → Nat → Int64)
  | 0, _, i, l, I, J, _, _ => (0, i, l, I, J)
  | n + 1, hd, i, l, I, J, v, w => match hd with
    | 28 => lp_keep n 40 i l (va_up I 28 (upd (I 28) ((v 1)).toNatClampNeg (i 24))) J (upd v 2 (0 : Int32)) w
    | 40 => (if mj_cnd .ge (v 2) (40 : Int32) = true then ((1 : Int32), i, l, I, J) else lp_keep n 63 i l I (va_up J 25 (vp_updL (J 25) ((((80 : Int32) * (v 1)) + (v 2))).toNatClampNeg (J 19 ((v 2)).toNatClampNeg))) v w)
    | 63 => lp_keep n 80 i l (va_up I 26 (upd (I 26) ((((80 : Int32) * (v 1)) + (v 2))).toNatClampNeg (I 21 ((v 2)).toNatClampNeg))) J v w
    | 80 => lp_keep n 100 i l I (va_up J 25 (vp_updL (J 25) (((((80 : Int32) * (v 1)) + (40 : Int32)) + (v 2))).toNatClampNeg (J 20 ((v 2)).toNatClampNeg))) v w
    | 100 => lp_keep n 120 i l (va_up I 26 (upd (I 26) (((((80 : Int32) * (v 1)) + (40 : Int32)) + (v 2))).toNatClampNeg (I 22 ((v 2)).toNatClampNeg))) J v w
    | 120 => lp_keep n 40 i l I J (upd v 2 ((v 2) + Int32.ofInt (1))) w
    | _ => (0, i, l, I, J)
theorem lb_keep_28 (n : Nat) (i : Nat → Int32) (l : Nat → Int64) (I : Nat → Nat → Int32) (J : Nat → Nat → Int64) (v : Nat → Int32) (w : Nat → Int64) : lp_keep (n + 1) 28 i l I J v w = lp_keep n 40 i l (va_up I 28 (upd (I 28) ((v 1)).toNatClampNeg (i 24))) J (upd v 2 (0 : Int32)) w := rfl
theorem lb_keep_40 (n : Nat) (i : Nat → Int32) (l : Nat → Int64) (I : Nat → Nat → Int32) (J : Nat → Nat → Int64) (v : Nat → Int32) (w : Nat → Int64) : lp_keep (n + 1) 40 i l I J v w = (if mj_cnd .ge (v 2) (40 : Int32) = true then ((1 : Int32), i, l, I, J) else lp_keep n 63 i l I (va_up J 25 (vp_updL (J 25) ((((80 : Int32) * (v 1)) + (v 2))).toNatClampNeg (J 19 ((v 2)).toNatClampNeg))) v w) := rfl
theorem lb_keep_63 (n : Nat) (i : Nat → Int32) (l : Nat → Int64) (I : Nat → Nat → Int32) (J : Nat → Nat → Int64) (v : Nat → Int32) (w : Nat → Int64) : lp_keep (n + 1) 63 i l I J v w = lp_keep n 80 i l (va_up I 26 (upd (I 26) ((((80 : Int32) * (v 1)) + (v 2))).toNatClampNeg (I 21 ((v 2)).toNatClampNeg))) J v w := rfl
theorem lb_keep_80 (n : Nat) (i : Nat → Int32) (l : Nat → Int64) (I : Nat → Nat → Int32) (J : Nat → Nat → Int64) (v : Nat → Int32) (w : Nat → Int64) : lp_keep (n + 1) 80 i l I J v w = lp_keep n 100 i l I (va_up J 25 (vp_updL (J 25) (((((80 : Int32) * (v 1)) + (40 : Int32)) + (v 2))).toNatClampNeg (J 20 ((v 2)).toNatClampNeg))) v w := rfl
theorem lb_keep_100 (n : Nat) (i : Nat → Int32) (l : Nat → Int64) (I : Nat → Nat → Int32) (J : Nat → Nat → Int64) (v : Nat → Int32) (w : Nat → Int64) : lp_keep (n + 1) 100 i l I J v w = lp_keep n 120 i l (va_up I 26 (upd (I 26) (((((80 : Int32) * (v 1)) + (40 : Int32)) + (v 2))).toNatClampNeg (I 22 ((v 2)).toNatClampNeg))) J v w := rfl
theorem lb_keep_120 (n : Nat) (i : Nat → Int32) (l : Nat → Int64) (I : Nat → Nat → Int32) (J : Nat → Nat → Int64) (v : Nat → Int32) (w : Nat → Int64) : lp_keep (n + 1) 120 i l I J v w = lp_keep n 40 i l I J (upd v 2 ((v 2) + Int32.ofInt (1))) w := rfl
def okl_keep : Nat → Nat → (Nat → Int32) → (Nat → Int64) → (Nat → Nat → Int32) → (Nat → Nat → Int64) → (Nat → Int32) → (Nat → Int64) → Prop
  | 0, _, _, _, _, _, _, _ => False
  | n + 1, hd, i, l, I, J, v, w => match hd with
    | 28 => (¬ ((v 1) < 0 ∨ 4 ≤ ((v 1)).toNatClampNeg) ∧ okl_keep n 40 i l (va_up I 28 (upd (I 28) ((v 1)).toNatClampNeg (i 24))) J (upd v 2 (0 : Int32)) w)
    | 40 => (if mj_cnd .ge (v 2) (40 : Int32) = true then True else (¬ ((v 2) < 0 ∨ 40 ≤ ((v 2)).toNatClampNeg) ∧ (¬ ((((80 : Int32) * (v 1)) + (v 2)) < 0 ∨ 320 ≤ ((((80 : Int32) * (v 1)) + (v 2))).toNatClampNeg) ∧ okl_keep n 63 i l I (va_up J 25 (vp_updL (J 25) ((((80 : Int32) * (v 1)) + (v 2))).toNatClampNeg (J 19 ((v 2)).toNatClampNeg))) v w)))
    | 63 => (¬ ((v 2) < 0 ∨ 40 ≤ ((v 2)).toNatClampNeg) ∧ (¬ ((((80 : Int32) * (v 1)) + (v 2)) < 0 ∨ 320 ≤ ((((80 : Int32) * (v 1)) + (v 2))).toNatClampNeg) ∧ okl_keep n 80 i l (va_up I 26 (upd (I 26) ((((80 : Int32) * (v 1)) + (v 2))).toNatClampNeg (I 21 ((v 2)).toNatClampNeg))) J v w))
    | 80 => (¬ ((v 2) < 0 ∨ 40 ≤ ((v 2)).toNatClampNeg) ∧ (¬ (((((80 : Int32) * (v 1)) + (40 : Int32)) + (v 2)) < 0 ∨ 320 ≤ (((((80 : Int32) * (v 1)) + (40 : Int32)) + (v 2))).toNatClampNeg) ∧ okl_keep n 100 i l I (va_up J 25 (vp_updL (J 25) (((((80 : Int32) * (v 1)) + (40 : Int32)) + (v 2))).toNatClampNeg (J 20 ((v 2)).toNatClampNeg))) v w))
    | 100 => (¬ ((v 2) < 0 ∨ 40 ≤ ((v 2)).toNatClampNeg) ∧ (¬ (((((80 : Int32) * (v 1)) + (40 : Int32)) + (v 2)) < 0 ∨ 320 ≤ (((((80 : Int32) * (v 1)) + (40 : Int32)) + (v 2))).toNatClampNeg) ∧ okl_keep n 120 i l (va_up I 26 (upd (I 26) (((((80 : Int32) * (v 1)) + (40 : Int32)) + (v 2))).toNatClampNeg (I 22 ((v 2)).toNatClampNeg))) J v w))
    | 120 => okl_keep n 40 i l I J (upd v 2 ((v 2) + Int32.ofInt (1))) w
    | _ => False
def s_keep (n : Nat) (i : Nat → Int32) (l : Nat → Int64) (I : Nat → Nat → Int32) (J : Nat → Nat → Int64) (p0 : Int32) : Int32 × (Nat → Int32) × (Nat → Int64) × (Nat → Nat → Int32) × (Nat → Nat → Int64) := (if mj_cnd .lt p0 (0 : Int32) = true then ((0 : Int32), i, l, I, J) else (if mj_cnd .le p0 (3 : Int32) = true then lp_keep n 28 i l (va_up (va_up I 29 (upd (I 29) (p0).toNatClampNeg (vp_nar .boolean (1 : Int32)))) 27 (upd ((va_up I 29 (upd (I 29) (p0).toNatClampNeg (vp_nar .boolean (1 : Int32)))) 27) (p0).toNatClampNeg (i 23))) J (upd (fun _ => 0) 1 p0) (fun _ => 0) else ((0 : Int32), i, l, I, J)))
def ok_keep (n : Nat) (i : Nat → Int32) (l : Nat → Int64) (I : Nat → Nat → Int32) (J : Nat → Nat → Int64) (p0 : Int32) : Prop := (if mj_cnd .lt p0 (0 : Int32) = true then True else (if mj_cnd .le p0 (3 : Int32) = true then (¬ (p0 < 0 ∨ 4 ≤ (p0).toNatClampNeg) ∧ (¬ (p0 < 0 ∨ 4 ≤ (p0).toNatClampNeg) ∧ okl_keep n 28 i l (va_up (va_up I 29 (upd (I 29) (p0).toNatClampNeg (vp_nar .boolean (1 : Int32)))) 27 (upd ((va_up I 29 (upd (I 29) (p0).toNatClampNeg (vp_nar .boolean (1 : Int32)))) 27) (p0).toNatClampNeg (i 23))) J (upd (fun _ => 0) 1 p0) (fun _ => 0))) else True))
set_option maxRecDepth 20000 in
theorem ql_keep {xt : mj_X} {pre post : mj_H} {m : Nat} {d : Nat} (hm : pre.length = m) (h2 : 2 ≤ m) : ∀ n : Nat, (∀ i l I J v w, okl_keep n 28 i l I J v w → mjR (fun N => mj_call (mj_mmof pg_ms) (mj_TTof pg_TL) xt pg_tl 2 (d + 0) N) (mj_TTof pg_TL 12).1 (mj_TTof pg_TL 12).2 xt pg_tl 2 3 (d + 0) false (Option.some Jvm.ClassFile.FieldType.boolean) (mj_dec prog_14_method_119_code) 28 [(0, .ref m), (1, .int (v 1))] [] (rH pre post m i l I J) (some (.int (lp_keep n 28 i l I J v w).1)) (rH pre post m (lp_keep n 28 i l I J v w).2.1 (lp_keep n 28 i l I J v w).2.2.1 (lp_keep n 28 i l I J v w).2.2.2.1 (lp_keep n 28 i l I J v w).2.2.2.2)) ∧ (∀ i l I J v w, okl_keep n 40 i l I J v w → mjR (fun N => mj_call (mj_mmof pg_ms) (mj_TTof pg_TL) xt pg_tl 2 (d + 0) N) (mj_TTof pg_TL 12).1 (mj_TTof pg_TL 12).2 xt pg_tl 2 3 (d + 0) false (Option.some Jvm.ClassFile.FieldType.boolean) (mj_dec prog_14_method_119_code) 40 [(0, .ref m), (1, .int (v 1)), (2, .int (v 2))] [] (rH pre post m i l I J) (some (.int (lp_keep n 40 i l I J v w).1)) (rH pre post m (lp_keep n 40 i l I J v w).2.1 (lp_keep n 40 i l I J v w).2.2.1 (lp_keep n 40 i l I J v w).2.2.2.1 (lp_keep n 40 i l I J v w).2.2.2.2)) ∧ (∀ i l I J v w, okl_keep n 63 i l I J v w → mjR (fun N => mj_call (mj_mmof pg_ms) (mj_TTof pg_TL) xt pg_tl 2 (d + 0) N) (mj_TTof pg_TL 12).1 (mj_TTof pg_TL 12).2 xt pg_tl 2 3 (d + 0) false (Option.some Jvm.ClassFile.FieldType.boolean) (mj_dec prog_14_method_119_code) 63 [(0, .ref m), (1, .int (v 1)), (2, .int (v 2))] [] (rH pre post m i l I J) (some (.int (lp_keep n 63 i l I J v w).1)) (rH pre post m (lp_keep n 63 i l I J v w).2.1 (lp_keep n 63 i l I J v w).2.2.1 (lp_keep n 63 i l I J v w).2.2.2.1 (lp_keep n 63 i l I J v w).2.2.2.2)) ∧ (∀ i l I J v w, okl_keep n 80 i l I J v w → mjR (fun N => mj_call (mj_mmof pg_ms) (mj_TTof pg_TL) xt pg_tl 2 (d + 0) N) (mj_TTof pg_TL 12).1 (mj_TTof pg_TL 12).2 xt pg_tl 2 3 (d + 0) false (Option.some Jvm.ClassFile.FieldType.boolean) (mj_dec prog_14_method_119_code) 80 [(0, .ref m), (1, .int (v 1)), (2, .int (v 2))] [] (rH pre post m i l I J) (some (.int (lp_keep n 80 i l I J v w).1)) (rH pre post m (lp_keep n 80 i l I J v w).2.1 (lp_keep n 80 i l I J v w).2.2.1 (lp_keep n 80 i l I J v w).2.2.2.1 (lp_keep n 80 i l I J v w).2.2.2.2)) ∧ (∀ i l I J v w, okl_keep n 100 i l I J v w → mjR (fun N => mj_call (mj_mmof pg_ms) (mj_TTof pg_TL) xt pg_tl 2 (d + 0) N) (mj_TTof pg_TL 12).1 (mj_TTof pg_TL 12).2 xt pg_tl 2 3 (d + 0) false (Option.some Jvm.ClassFile.FieldType.boolean) (mj_dec prog_14_method_119_code) 100 [(0, .ref m), (1, .int (v 1)), (2, .int (v 2))] [] (rH pre post m i l I J) (some (.int (lp_keep n 100 i l I J v w).1)) (rH pre post m (lp_keep n 100 i l I J v w).2.1 (lp_keep n 100 i l I J v w).2.2.1 (lp_keep n 100 i l I J v w).2.2.2.1 (lp_keep n 100 i l I J v w).2.2.2.2)) ∧ (∀ i l I J v w, okl_keep n 120 i l I J v w → mjR (fun N => mj_call (mj_mmof pg_ms) (mj_TTof pg_TL) xt pg_tl 2 (d + 0) N) (mj_TTof pg_TL 12).1 (mj_TTof pg_TL 12).2 xt pg_tl 2 3 (d + 0) false (Option.some Jvm.ClassFile.FieldType.boolean) (mj_dec prog_14_method_119_code) 120 [(0, .ref m), (1, .int (v 1)), (2, .int (v 2))] [] (rH pre post m i l I J) (some (.int (lp_keep n 120 i l I J v w).1)) (rH pre post m (lp_keep n 120 i l I J v w).2.1 (lp_keep n 120 i l I J v w).2.2.1 (lp_keep n 120 i l I J v w).2.2.2.1 (lp_keep n 120 i l I J v w).2.2.2.2)) := by
  intro n
  induction n with
  | zero => exact ⟨fun i l I J v w h => absurd h id, fun i l I J v w h => absurd h id, fun i l I J v w h => absurd h id, fun i l I J v w h => absurd h id, fun i l I J v w h => absurd h id, fun i l I J v w h => absurd h id⟩
  | succ n ih =>
    refine ⟨?_, ?_, ?_, ?_, ?_, ?_⟩
    · intro i l I J v w hok
      have hok : (¬ ((v 1) < 0 ∨ 4 ≤ ((v 1)).toNatClampNeg) ∧ okl_keep n 40 i l (va_up I 28 (upd (I 28) ((v 1)).toNatClampNeg (i 24))) J (upd v 2 (0 : Int32)) w) := hok
      refine ms1 dm_keep_28 rfl rfl rfl rfl ?_
      refine ms3 dm_keep_29 (r_get hm h2 rfl (rg_28 _ _ _)) rfl rfl rfl ?_
      refine ms1 dm_keep_32 rfl rfl rfl rfl ?_
      refine ms1 dm_keep_33 rfl rfl rfl rfl ?_
      refine ms3 dm_keep_34 (r_get (v := .int (i 24)) hm h2 rfl (rg_24 _ _ _)) rfl rfl rfl ?_
      obtain ⟨ho, hok⟩ := hok
      refine ms3 dm_keep_37 (r_iastk (k := 28) hm h2 (rc_28 _ _ _ _ _) rfl ho (rs_28 _ _ _ _ _ _)) rfl rfl rfl ?_
      refine ms0 (S' := .int (0 : Int32) :: _) dm_keep_38 rfl rfl rfl rfl ?_
      refine ms1 dm_keep_39 rfl rfl rfl rfl ?_
      have he : lp_keep (n + 1) 28 i l I J v w = lp_keep n 40 i l (va_up I 28 (upd (I 28) ((v 1)).toNatClampNeg (i 24))) J (upd v 2 (0 : Int32)) w := by
        rw [lb_keep_28]
      rw [he]
      exact mjR_sub rfl rfl rfl (ih.2.1 _ _ _ _ _ _ hok)
    · intro i l I J v w hok
      have hok : (if mj_cnd .ge (v 2) (40 : Int32) = true then True else (¬ ((v 2) < 0 ∨ 40 ≤ ((v 2)).toNatClampNeg) ∧ (¬ ((((80 : Int32) * (v 1)) + (v 2)) < 0 ∨ 320 ≤ ((((80 : Int32) * (v 1)) + (v 2))).toNatClampNeg) ∧ okl_keep n 63 i l I (va_up J 25 (vp_updL (J 25) ((((80 : Int32) * (v 1)) + (v 2))).toNatClampNeg (J 19 ((v 2)).toNatClampNeg))) v w))) := hok
      refine ms1 dm_keep_40 rfl rfl rfl rfl ?_
      refine ms0 (S' := .int (40 : Int32) :: _) dm_keep_41 rfl rfl rfl rfl ?_
      refine ms_2c dm_keep_43 rfl rfl (fun hb1 => ?_) (fun hb1 => ?_)
      · have hb1 : mj_cnd .ge (v 2) (40 : Int32) = true := hb1
        rw [if_pos hb1] at hok
        refine ms0 (S' := .int (1 : Int32) :: _) dm_keep_126 rfl rfl rfl rfl ?_
        have he : lp_keep (n + 1) 40 i l I J v w = ((1 : Int32), i, l, I, J) := by
          rw [lb_keep_40]
          simp only [hb1, Bool.false_eq_true, if_true, if_false]
        rw [he]
        exact ms5 dm_keep_127 rfl rfl rfl
      · have hb1 : ¬ (mj_cnd .ge (v 2) (40 : Int32) = true) := hb1
        rw [if_neg hb1] at hok
        refine ms1 dm_keep_46 rfl rfl rfl rfl ?_
        refine ms3 dm_keep_47 (r_get hm h2 rfl (rg_25 _ _ _)) rfl rfl rfl ?_
        refine ms0 (S' := .int (80 : Int32) :: _) dm_keep_50 rfl rfl rfl rfl ?_
        refine ms1 dm_keep_52 rfl rfl rfl rfl ?_
        refine ms0 dm_keep_53 rfl rfl rfl rfl ?_
        refine ms1 dm_keep_54 rfl rfl rfl rfl ?_
        refine ms0 dm_keep_55 rfl rfl rfl rfl ?_
        refine ms1 dm_keep_56 rfl rfl rfl rfl ?_
        refine ms3 dm_keep_57 (r_get hm h2 rfl (rg_19 _ _ _)) rfl rfl rfl ?_
        refine ms1 dm_keep_60 rfl rfl rfl rfl ?_
        obtain ⟨ho, hok⟩ := hok
        refine ms3 dm_keep_61 (r_lald hm h2 (rc_19 _ _ _ _ _) rfl ho) rfl rfl rfl ?_
        obtain ⟨ho, hok⟩ := hok
        refine ms3 dm_keep_62 (r_lastk (k := 25) hm h2 (rc_25 _ _ _ _ _) rfl ho (rs_25 _ _ _ _ _ _)) rfl rfl rfl ?_
        have he : lp_keep (n + 1) 40 i l I J v w = lp_keep n 63 i l I (va_up J 25 (vp_updL (J 25) ((((80 : Int32) * (v 1)) + (v 2))).toNatClampNeg (J 19 ((v 2)).toNatClampNeg))) v w := by
          rw [lb_keep_40]
          simp only [hb1, Bool.false_eq_true, if_true, if_false]
        rw [he]
        exact mjR_sub rfl rfl rfl (ih.2.2.1 _ _ _ _ _ _ hok)
    · intro i l I J v w hok
      have hok : (¬ ((v 2) < 0 ∨ 40 ≤ ((v 2)).toNatClampNeg) ∧ (¬ ((((80 : Int32) * (v 1)) + (v 2)) < 0 ∨ 320 ≤ ((((80 : Int32) * (v 1)) + (v 2))).toNatClampNeg) ∧ okl_keep n 80 i l (va_up I 26 (upd (I 26) ((((80 : Int32) * (v 1)) + (v 2))).toNatClampNeg (I 21 ((v 2)).toNatClampNeg))) J v w)) := hok
      refine ms1 dm_keep_63 rfl rfl rfl rfl ?_
      refine ms3 dm_keep_64 (r_get hm h2 rfl (rg_26 _ _ _)) rfl rfl rfl ?_
      refine ms0 (S' := .int (80 : Int32) :: _) dm_keep_67 rfl rfl rfl rfl ?_
      refine ms1 dm_keep_69 rfl rfl rfl rfl ?_
      refine ms0 dm_keep_70 rfl rfl rfl rfl ?_
      refine ms1 dm_keep_71 rfl rfl rfl rfl ?_
      refine ms0 dm_keep_72 rfl rfl rfl rfl ?_
      refine ms1 dm_keep_73 rfl rfl rfl rfl ?_
      refine ms3 dm_keep_74 (r_get hm h2 rfl (rg_21 _ _ _)) rfl rfl rfl ?_
      refine ms1 dm_keep_77 rfl rfl rfl rfl ?_
      obtain ⟨ho, hok⟩ := hok
      refine ms3 dm_keep_78 (r_iald hm h2 (rc_21 _ _ _ _ _) rfl ho) rfl rfl rfl ?_
      obtain ⟨ho, hok⟩ := hok
      refine ms3 dm_keep_79 (r_iastk (k := 26) hm h2 (rc_26 _ _ _ _ _) rfl ho (rs_26 _ _ _ _ _ _)) rfl rfl rfl ?_
      have he : lp_keep (n + 1) 63 i l I J v w = lp_keep n 80 i l (va_up I 26 (upd (I 26) ((((80 : Int32) * (v 1)) + (v 2))).toNatClampNeg (I 21 ((v 2)).toNatClampNeg))) J v w := by
        rw [lb_keep_63]
      rw [he]
      exact mjR_sub rfl rfl rfl (ih.2.2.2.1 _ _ _ _ _ _ hok)
    · intro i l I J v w hok
      have hok : (¬ ((v 2) < 0 ∨ 40 ≤ ((v 2)).toNatClampNeg) ∧ (¬ (((((80 : Int32) * (v 1)) + (40 : Int32)) + (v 2)) < 0 ∨ 320 ≤ (((((80 : Int32) * (v 1)) + (40 : Int32)) + (v 2))).toNatClampNeg) ∧ okl_keep n 100 i l I (va_up J 25 (vp_updL (J 25) (((((80 : Int32) * (v 1)) + (40 : Int32)) + (v 2))).toNatClampNeg (J 20 ((v 2)).toNatClampNeg))) v w)) := hok
      refine ms1 dm_keep_80 rfl rfl rfl rfl ?_
      refine ms3 dm_keep_81 (r_get hm h2 rfl (rg_25 _ _ _)) rfl rfl rfl ?_
      refine ms0 (S' := .int (80 : Int32) :: _) dm_keep_84 rfl rfl rfl rfl ?_
      refine ms1 dm_keep_86 rfl rfl rfl rfl ?_
      refine ms0 dm_keep_87 rfl rfl rfl rfl ?_
      refine ms0 (S' := .int (40 : Int32) :: _) dm_keep_88 rfl rfl rfl rfl ?_
      refine ms0 dm_keep_90 rfl rfl rfl rfl ?_
      refine ms1 dm_keep_91 rfl rfl rfl rfl ?_
      refine ms0 dm_keep_92 rfl rfl rfl rfl ?_
      refine ms1 dm_keep_93 rfl rfl rfl rfl ?_
      refine ms3 dm_keep_94 (r_get hm h2 rfl (rg_20 _ _ _)) rfl rfl rfl ?_
      refine ms1 dm_keep_97 rfl rfl rfl rfl ?_
      obtain ⟨ho, hok⟩ := hok
      refine ms3 dm_keep_98 (r_lald hm h2 (rc_20 _ _ _ _ _) rfl ho) rfl rfl rfl ?_
      obtain ⟨ho, hok⟩ := hok
      refine ms3 dm_keep_99 (r_lastk (k := 25) hm h2 (rc_25 _ _ _ _ _) rfl ho (rs_25 _ _ _ _ _ _)) rfl rfl rfl ?_
      have he : lp_keep (n + 1) 80 i l I J v w = lp_keep n 100 i l I (va_up J 25 (vp_updL (J 25) (((((80 : Int32) * (v 1)) + (40 : Int32)) + (v 2))).toNatClampNeg (J 20 ((v 2)).toNatClampNeg))) v w := by
        rw [lb_keep_80]
      rw [he]
      exact mjR_sub rfl rfl rfl (ih.2.2.2.2.1 _ _ _ _ _ _ hok)
    · intro i l I J v w hok
      have hok : (¬ ((v 2) < 0 ∨ 40 ≤ ((v 2)).toNatClampNeg) ∧ (¬ (((((80 : Int32) * (v 1)) + (40 : Int32)) + (v 2)) < 0 ∨ 320 ≤ (((((80 : Int32) * (v 1)) + (40 : Int32)) + (v 2))).toNatClampNeg) ∧ okl_keep n 120 i l (va_up I 26 (upd (I 26) (((((80 : Int32) * (v 1)) + (40 : Int32)) + (v 2))).toNatClampNeg (I 22 ((v 2)).toNatClampNeg))) J v w)) := hok
      refine ms1 dm_keep_100 rfl rfl rfl rfl ?_
      refine ms3 dm_keep_101 (r_get hm h2 rfl (rg_26 _ _ _)) rfl rfl rfl ?_
      refine ms0 (S' := .int (80 : Int32) :: _) dm_keep_104 rfl rfl rfl rfl ?_
      refine ms1 dm_keep_106 rfl rfl rfl rfl ?_
      refine ms0 dm_keep_107 rfl rfl rfl rfl ?_
      refine ms0 (S' := .int (40 : Int32) :: _) dm_keep_108 rfl rfl rfl rfl ?_
      refine ms0 dm_keep_110 rfl rfl rfl rfl ?_
      refine ms1 dm_keep_111 rfl rfl rfl rfl ?_
      refine ms0 dm_keep_112 rfl rfl rfl rfl ?_
      refine ms1 dm_keep_113 rfl rfl rfl rfl ?_
      refine ms3 dm_keep_114 (r_get hm h2 rfl (rg_22 _ _ _)) rfl rfl rfl ?_
      refine ms1 dm_keep_117 rfl rfl rfl rfl ?_
      obtain ⟨ho, hok⟩ := hok
      refine ms3 dm_keep_118 (r_iald hm h2 (rc_22 _ _ _ _ _) rfl ho) rfl rfl rfl ?_
      obtain ⟨ho, hok⟩ := hok
      refine ms3 dm_keep_119 (r_iastk (k := 26) hm h2 (rc_26 _ _ _ _ _) rfl ho (rs_26 _ _ _ _ _ _)) rfl rfl rfl ?_
      have he : lp_keep (n + 1) 100 i l I J v w = lp_keep n 120 i l (va_up I 26 (upd (I 26) (((((80 : Int32) * (v 1)) + (40 : Int32)) + (v 2))).toNatClampNeg (I 22 ((v 2)).toNatClampNeg))) J v w := by
        rw [lb_keep_100]
      rw [he]
      exact mjR_sub rfl rfl rfl (ih.2.2.2.2.2 _ _ _ _ _ _ hok)
    · intro i l I J v w hok
      have hok : okl_keep n 40 i l I J (upd v 2 ((v 2) + Int32.ofInt (1))) w := hok
      refine ms1 dm_keep_120 rfl rfl rfl rfl ?_
      refine ms2 dm_keep_123 rfl rfl rfl ?_
      have he : lp_keep (n + 1) 120 i l I J v w = lp_keep n 40 i l I J (upd v 2 ((v 2) + Int32.ofInt (1))) w := by
        rw [lb_keep_120]
      rw [he]
      exact mjR_sub rfl rfl rfl (ih.2.1 _ _ _ _ _ _ hok)
set_option maxRecDepth 20000 in
theorem q_keep {xt : mj_X} {pre post : mj_H} {m : Nat} {i : Nat → Int32} {l : Nat → Int64} {I : Nat → Nat → Int32} {J : Nat → Nat → Int64} {d : Nat} (hm : pre.length = m) (h2 : 2 ≤ m) {p0 : Int32} {n : Nat} (hok : ok_keep n i l I J p0) : pgC xt (d + 1) k_keep (.ref m :: [.int p0]) (rH pre post m i l I J) (some (.int (s_keep n i l I J p0).1)) (rH pre post m (s_keep n i l I J p0).2.1 (s_keep n i l I J p0).2.2.1 (s_keep n i l I J p0).2.2.2.1 (s_keep n i l I J p0).2.2.2.2) := by
  unfold ok_keep at hok
  refine ms_call pm_keep (Nat.le_of_ble_eq_true rfl) ?_
  dsimp only
  refine ms1 dm_keep_0 rfl rfl rfl rfl ?_
  refine ms_1c dm_keep_1 rfl rfl (fun hb1 => ?_) (fun hb1 => ?_)
  · have hb1 : mj_cnd .lt p0 (0 : Int32) = true := hb1
    rw [if_pos hb1] at hok
    refine ms0 (S' := .int (0 : Int32) :: _) dm_keep_9 rfl rfl rfl rfl ?_
    have he : s_keep n i l I J p0 = ((0 : Int32), i, l, I, J) := by
      unfold s_keep
      simp only [hb1, Bool.false_eq_true, if_true, if_false]
    rw [he]
    exact ms5 dm_keep_10 rfl rfl rfl
  · have hb1 : ¬ (mj_cnd .lt p0 (0 : Int32) = true) := hb1
    rw [if_neg hb1] at hok
    refine ms1 dm_keep_4 rfl rfl rfl rfl ?_
    refine ms0 (S' := .int (3 : Int32) :: _) dm_keep_5 rfl rfl rfl rfl ?_
    refine ms_2c dm_keep_6 rfl rfl (fun hb2 => ?_) (fun hb2 => ?_)
    · have hb2 : mj_cnd .le p0 (3 : Int32) = true := hb2
      rw [if_pos hb2] at hok
      refine ms1 dm_keep_11 rfl rfl rfl rfl ?_
      refine ms3 dm_keep_12 (r_get hm h2 rfl (rg_29 _ _ _)) rfl rfl rfl ?_
      refine ms1 dm_keep_15 rfl rfl rfl rfl ?_
      refine ms0 (S' := .int (1 : Int32) :: _) dm_keep_16 rfl rfl rfl rfl ?_
      obtain ⟨ho, hok⟩ := hok
      refine ms3 dm_keep_17 (r_zastk (k := 29) hm h2 (rc_29 _ _ _ _ _) rfl ho (rs_29 _ _ _ _ _ _)) rfl rfl rfl ?_
      refine ms1 dm_keep_18 rfl rfl rfl rfl ?_
      refine ms3 dm_keep_19 (r_get hm h2 rfl (rg_27 _ _ _)) rfl rfl rfl ?_
      refine ms1 dm_keep_22 rfl rfl rfl rfl ?_
      refine ms1 dm_keep_23 rfl rfl rfl rfl ?_
      refine ms3 dm_keep_24 (r_get (v := .int (i 23)) hm h2 rfl (rg_23 _ _ _)) rfl rfl rfl ?_
      obtain ⟨ho, hok⟩ := hok
      refine ms3 dm_keep_27 (r_iastk (k := 27) hm h2 (rc_27 _ _ _ _ _) rfl ho (rs_27 _ _ _ _ _ _)) rfl rfl rfl ?_
      have he : s_keep n i l I J p0 = lp_keep n 28 i l (va_up (va_up I 29 (upd (I 29) (p0).toNatClampNeg (vp_nar .boolean (1 : Int32)))) 27 (upd ((va_up I 29 (upd (I 29) (p0).toNatClampNeg (vp_nar .boolean (1 : Int32)))) 27) (p0).toNatClampNeg (i 23))) J (upd (fun _ => 0) 1 p0) (fun _ => 0) := by
        unfold s_keep
        simp only [hb1, hb2, Bool.false_eq_true, if_true, if_false]
      rw [he]
      exact mjR_sub rfl rfl rfl ((ql_keep hm h2 n).1 _ _ _ _ _ _ hok)
    · have hb2 : ¬ (mj_cnd .le p0 (3 : Int32) = true) := hb2
      rw [if_neg hb2] at hok
      refine ms0 (S' := .int (0 : Int32) :: _) dm_keep_9 rfl rfl rfl rfl ?_
      have he : s_keep n i l I J p0 = ((0 : Int32), i, l, I, J) := by
        unfold s_keep
        simp only [hb1, hb2, Bool.false_eq_true, if_true, if_false]
      rw [he]
      exact ms5 dm_keep_10 rfl rfl rfl
def k_back : Nat := 309
set_option maxRecDepth 20000 in
theorem pm_back : mj_mmof pg_ms k_back = some ((⟨"ArrayCalculatorModel", "back", "(I)Z"⟩, prog_14_method_120_code, 3, (Option.some Jvm.ClassFile.FieldType.boolean)), 12, false, mj_dec prog_14_method_120_code) := rfl
theorem dm_back_0 : mj_dec prog_14_method_120_code 0 = some (.iload_n 1, 1) := by decide +kernel
theorem dm_back_1 : mj_dec prog_14_method_120_code 1 = some (.ifCond .lt 17, 3) := by decide +kernel
theorem dm_back_4 : mj_dec prog_14_method_120_code 4 = some (.iload_n 1, 1) := by decide +kernel
theorem dm_back_5 : mj_dec prog_14_method_120_code 5 = some (.iconst 3, 1) := by decide +kernel
theorem dm_back_6 : mj_dec prog_14_method_120_code 6 = some (.if_icmp .gt 12, 3) := by decide +kernel
theorem dm_back_9 : mj_dec prog_14_method_120_code 9 = some (.aload_n 0, 1) := by decide +kernel
theorem dm_back_10 : mj_dec prog_14_method_120_code 10 = some (.getfield 67, 3) := by decide +kernel
theorem dm_back_13 : mj_dec prog_14_method_120_code 13 = some (.iload_n 1, 1) := by decide +kernel
theorem dm_back_14 : mj_dec prog_14_method_120_code 14 = some (.baload, 1) := by decide +kernel
theorem dm_back_15 : mj_dec prog_14_method_120_code 15 = some (.ifCond .ne 5, 3) := by decide +kernel
theorem dm_back_18 : mj_dec prog_14_method_120_code 18 = some (.iconst 0, 1) := by decide +kernel
theorem dm_back_19 : mj_dec prog_14_method_120_code 19 = some (.ireturn, 1) := by decide +kernel
theorem dm_back_20 : mj_dec prog_14_method_120_code 20 = some (.aload_n 0, 1) := by decide +kernel
theorem dm_back_21 : mj_dec prog_14_method_120_code 21 = some (.aload_n 0, 1) := by decide +kernel
theorem dm_back_22 : mj_dec prog_14_method_120_code 22 = some (.getfield 61, 3) := by decide +kernel
theorem dm_back_25 : mj_dec prog_14_method_120_code 25 = some (.iload_n 1, 1) := by decide +kernel
theorem dm_back_26 : mj_dec prog_14_method_120_code 26 = some (.iaload, 1) := by decide +kernel
theorem dm_back_27 : mj_dec prog_14_method_120_code 27 = some (.putfield 357, 3) := by decide +kernel
theorem dm_back_30 : mj_dec prog_14_method_120_code 30 = some (.aload_n 0, 1) := by decide +kernel
theorem dm_back_31 : mj_dec prog_14_method_120_code 31 = some (.aload_n 0, 1) := by decide +kernel
theorem dm_back_32 : mj_dec prog_14_method_120_code 32 = some (.getfield 64, 3) := by decide +kernel
theorem dm_back_35 : mj_dec prog_14_method_120_code 35 = some (.iload_n 1, 1) := by decide +kernel
theorem dm_back_36 : mj_dec prog_14_method_120_code 36 = some (.iaload, 1) := by decide +kernel
theorem dm_back_37 : mj_dec prog_14_method_120_code 37 = some (.putfield 360, 3) := by decide +kernel
theorem dm_back_40 : mj_dec prog_14_method_120_code 40 = some (.iconst 0, 1) := by decide +kernel
theorem dm_back_41 : mj_dec prog_14_method_120_code 41 = some (.istore_n 2, 1) := by decide +kernel
theorem dm_back_42 : mj_dec prog_14_method_120_code 42 = some (.iload_n 2, 1) := by decide +kernel
theorem dm_back_43 : mj_dec prog_14_method_120_code 43 = some (.bipush 40, 2) := by decide +kernel
theorem dm_back_45 : mj_dec prog_14_method_120_code 45 = some (.if_icmp .ge 83, 3) := by decide +kernel
theorem dm_back_48 : mj_dec prog_14_method_120_code 48 = some (.aload_n 0, 1) := by decide +kernel
theorem dm_back_49 : mj_dec prog_14_method_120_code 49 = some (.getfield 43, 3) := by decide +kernel
theorem dm_back_52 : mj_dec prog_14_method_120_code 52 = some (.iload_n 2, 1) := by decide +kernel
theorem dm_back_53 : mj_dec prog_14_method_120_code 53 = some (.aload_n 0, 1) := by decide +kernel
theorem dm_back_54 : mj_dec prog_14_method_120_code 54 = some (.getfield 55, 3) := by decide +kernel
theorem dm_back_57 : mj_dec prog_14_method_120_code 57 = some (.bipush 80, 2) := by decide +kernel
theorem dm_back_59 : mj_dec prog_14_method_120_code 59 = some (.iload_n 1, 1) := by decide +kernel
theorem dm_back_60 : mj_dec prog_14_method_120_code 60 = some (.imul, 1) := by decide +kernel
theorem dm_back_61 : mj_dec prog_14_method_120_code 61 = some (.iload_n 2, 1) := by decide +kernel
theorem dm_back_62 : mj_dec prog_14_method_120_code 62 = some (.iadd, 1) := by decide +kernel
theorem dm_back_63 : mj_dec prog_14_method_120_code 63 = some (.laload, 1) := by decide +kernel
theorem dm_back_64 : mj_dec prog_14_method_120_code 64 = some (.lastore, 1) := by decide +kernel
theorem dm_back_65 : mj_dec prog_14_method_120_code 65 = some (.aload_n 0, 1) := by decide +kernel
theorem dm_back_66 : mj_dec prog_14_method_120_code 66 = some (.getfield 49, 3) := by decide +kernel
theorem dm_back_69 : mj_dec prog_14_method_120_code 69 = some (.iload_n 2, 1) := by decide +kernel
theorem dm_back_70 : mj_dec prog_14_method_120_code 70 = some (.aload_n 0, 1) := by decide +kernel
theorem dm_back_71 : mj_dec prog_14_method_120_code 71 = some (.getfield 58, 3) := by decide +kernel
theorem dm_back_74 : mj_dec prog_14_method_120_code 74 = some (.bipush 80, 2) := by decide +kernel
theorem dm_back_76 : mj_dec prog_14_method_120_code 76 = some (.iload_n 1, 1) := by decide +kernel
theorem dm_back_77 : mj_dec prog_14_method_120_code 77 = some (.imul, 1) := by decide +kernel
theorem dm_back_78 : mj_dec prog_14_method_120_code 78 = some (.iload_n 2, 1) := by decide +kernel
theorem dm_back_79 : mj_dec prog_14_method_120_code 79 = some (.iadd, 1) := by decide +kernel
theorem dm_back_80 : mj_dec prog_14_method_120_code 80 = some (.iaload, 1) := by decide +kernel
theorem dm_back_81 : mj_dec prog_14_method_120_code 81 = some (.iastore, 1) := by decide +kernel
theorem dm_back_82 : mj_dec prog_14_method_120_code 82 = some (.aload_n 0, 1) := by decide +kernel
theorem dm_back_83 : mj_dec prog_14_method_120_code 83 = some (.getfield 46, 3) := by decide +kernel
theorem dm_back_86 : mj_dec prog_14_method_120_code 86 = some (.iload_n 2, 1) := by decide +kernel
theorem dm_back_87 : mj_dec prog_14_method_120_code 87 = some (.aload_n 0, 1) := by decide +kernel
theorem dm_back_88 : mj_dec prog_14_method_120_code 88 = some (.getfield 55, 3) := by decide +kernel
theorem dm_back_91 : mj_dec prog_14_method_120_code 91 = some (.bipush 80, 2) := by decide +kernel
theorem dm_back_93 : mj_dec prog_14_method_120_code 93 = some (.iload_n 1, 1) := by decide +kernel
theorem dm_back_94 : mj_dec prog_14_method_120_code 94 = some (.imul, 1) := by decide +kernel
theorem dm_back_95 : mj_dec prog_14_method_120_code 95 = some (.bipush 40, 2) := by decide +kernel
theorem dm_back_97 : mj_dec prog_14_method_120_code 97 = some (.iadd, 1) := by decide +kernel
theorem dm_back_98 : mj_dec prog_14_method_120_code 98 = some (.iload_n 2, 1) := by decide +kernel
theorem dm_back_99 : mj_dec prog_14_method_120_code 99 = some (.iadd, 1) := by decide +kernel
theorem dm_back_100 : mj_dec prog_14_method_120_code 100 = some (.laload, 1) := by decide +kernel
theorem dm_back_101 : mj_dec prog_14_method_120_code 101 = some (.lastore, 1) := by decide +kernel
theorem dm_back_102 : mj_dec prog_14_method_120_code 102 = some (.aload_n 0, 1) := by decide +kernel
theorem dm_back_103 : mj_dec prog_14_method_120_code 103 = some (.getfield 52, 3) := by decide +kernel
theorem dm_back_106 : mj_dec prog_14_method_120_code 106 = some (.iload_n 2, 1) := by decide +kernel
theorem dm_back_107 : mj_dec prog_14_method_120_code 107 = some (.aload_n 0, 1) := by decide +kernel
theorem dm_back_108 : mj_dec prog_14_method_120_code 108 = some (.getfield 58, 3) := by decide +kernel
theorem dm_back_111 : mj_dec prog_14_method_120_code 111 = some (.bipush 80, 2) := by decide +kernel
theorem dm_back_113 : mj_dec prog_14_method_120_code 113 = some (.iload_n 1, 1) := by decide +kernel
theorem dm_back_114 : mj_dec prog_14_method_120_code 114 = some (.imul, 1) := by decide +kernel
theorem dm_back_115 : mj_dec prog_14_method_120_code 115 = some (.bipush 40, 2) := by decide +kernel
theorem dm_back_117 : mj_dec prog_14_method_120_code 117 = some (.iadd, 1) := by decide +kernel
theorem dm_back_118 : mj_dec prog_14_method_120_code 118 = some (.iload_n 2, 1) := by decide +kernel
theorem dm_back_119 : mj_dec prog_14_method_120_code 119 = some (.iadd, 1) := by decide +kernel
theorem dm_back_120 : mj_dec prog_14_method_120_code 120 = some (.iaload, 1) := by decide +kernel
theorem dm_back_121 : mj_dec prog_14_method_120_code 121 = some (.iastore, 1) := by decide +kernel
theorem dm_back_122 : mj_dec prog_14_method_120_code 122 = some (.iinc 2 1, 3) := by decide +kernel
theorem dm_back_125 : mj_dec prog_14_method_120_code 125 = some (.goto (-83), 3) := by decide +kernel
theorem dm_back_128 : mj_dec prog_14_method_120_code 128 = some (.iconst 1, 1) := by decide +kernel
theorem dm_back_129 : mj_dec prog_14_method_120_code 129 = some (.ireturn, 1) := by decide +kernel
def lp_back : Nat → Nat → (Nat → Int32) → (Nat → Int64) → (Nat → Nat → Int32) → (Nat → Nat → Int64) → (Nat → Int32) → (Nat → Int64) → Int32 × (Nat → Int32) × (Nat → Int64) × (Nat → Nat → Int32) × (Nat → Nat → Int64)
  | 0, _, i, l, I, J, _, _ => (0, i, l, I, J)
  | n + 1, hd, i, l, I, J, v, w => match hd with
    | 42 => (if mj_cnd .ge (v 2) (40 : Int32) = true then ((1 : Int32), i, l, I, J) else lp_back n 65 i l I (va_up J 19 (vp_updL (J 19) ((v 2)).toNatClampNeg (J 25 ((((80 : Int32) * (v 1)) + (v 2))).toNatClampNeg))) v w)
    | 65 => lp_back n 82 i l (va_up I 21 (upd (I 21) ((v 2)).toNatClampNeg (I 26 ((((80 : Int32) * (v 1)) + (v 2))).toNatClampNeg))) J v w
    | 82 => lp_back n 102 i l I (va_up J 20 (vp_updL (J 20) ((v 2)).toNatClampNeg (J 25 (((((80 : Int32) * (v 1)) + (40 : Int32)) + (v 2))).toNatClampNeg))) v w
    | 102 => lp_back n 122 i l (va_up I 22 (upd (I 22) ((v 2)).toNatClampNeg (I 26 (((((80 : Int32) * (v 1)) + (40 : Int32)) + (v 2))).toNatClampNeg))) J v w
    | 122 => lp_back n 42 i l I J (upd v 2 ((v 2) + Int32.ofInt (1))) w
    | _ => (0, i, l, I, J)
theorem lb_back_42 (n : Nat) (i : Nat → Int32) (l : Nat → Int64) (I : Nat → Nat → Int32) (J : Nat → Nat → Int64) (v : Nat → Int32) (w : Nat → Int64) : lp_back (n + 1) 42 i l I J v w = (if mj_cnd .ge (v 2) (40 : Int32) = true then ((1 : Int32), i, l, I, J) else lp_back n 65 i l I (va_up J 19 (vp_updL (J 19) ((v 2)).toNatClampNeg (J 25 ((((80 : Int32) * (v 1)) + (v 2))).toNatClampNeg))) v w) := rfl
theorem lb_back_65 (n : Nat) (i : Nat → Int32) (l : Nat → Int64) (I : Nat → Nat → Int32) (J : Nat → Nat → Int64) (v : Nat → Int32) (w : Nat → Int64) : lp_back (n + 1) 65 i l I J v w = lp_back n 82 i l (va_up I 21 (upd (I 21) ((v 2)).toNatClampNeg (I 26 ((((80 : Int32) * (v 1)) + (v 2))).toNatClampNeg))) J v w := rfl
theorem lb_back_82 (n : Nat) (i : Nat → Int32) (l : Nat → Int64) (I : Nat → Nat → Int32) (J : Nat → Nat → Int64) (v : Nat → Int32) (w : Nat → Int64) : lp_back (n + 1) 82 i l I J v w = lp_back n 102 i l I (va_up J 20 (vp_updL (J 20) ((v 2)).toNatClampNeg (J 25 (((((80 : Int32) * (v 1)) + (40 : Int32)) + (v 2))).toNatClampNeg))) v w := rfl
theorem lb_back_102 (n : Nat) (i : Nat → Int32) (l : Nat → Int64) (I : Nat → Nat → Int32) (J : Nat → Nat → Int64) (v : Nat → Int32) (w : Nat → Int64) : lp_back (n + 1) 102 i l I J v w = lp_back n 122 i l (va_up I 22 (upd (I 22) ((v 2)).toNatClampNeg (I 26 (((((80 : Int32) * (v 1)) + (40 : Int32)) + (v 2))).toNatClampNeg))) J v w := rfl
theorem lb_back_122 (n : Nat) (i : Nat → Int32) (l : Nat → Int64) (I : Nat → Nat → Int32) (J : Nat → Nat → Int64) (v : Nat → Int32) (w : Nat → Int64) : lp_back (n + 1) 122 i l I J v w = lp_back n 42 i l I J (upd v 2 ((v 2) + Int32.ofInt (1))) w := rfl
def okl_back : Nat → Nat → (Nat → Int32) → (Nat → Int64) → (Nat → Nat → Int32) → (Nat → Nat → Int64) → (Nat → Int32) → (Nat → Int64) → Prop
  | 0, _, _, _, _, _, _, _ => False
  | n + 1, hd, i, l, I, J, v, w => match hd with
    | 42 => (if mj_cnd .ge (v 2) (40 : Int32) = true then True else (¬ ((((80 : Int32) * (v 1)) + (v 2)) < 0 ∨ 320 ≤ ((((80 : Int32) * (v 1)) + (v 2))).toNatClampNeg) ∧ (¬ ((v 2) < 0 ∨ 40 ≤ ((v 2)).toNatClampNeg) ∧ okl_back n 65 i l I (va_up J 19 (vp_updL (J 19) ((v 2)).toNatClampNeg (J 25 ((((80 : Int32) * (v 1)) + (v 2))).toNatClampNeg))) v w)))
    | 65 => (¬ ((((80 : Int32) * (v 1)) + (v 2)) < 0 ∨ 320 ≤ ((((80 : Int32) * (v 1)) + (v 2))).toNatClampNeg) ∧ (¬ ((v 2) < 0 ∨ 40 ≤ ((v 2)).toNatClampNeg) ∧ okl_back n 82 i l (va_up I 21 (upd (I 21) ((v 2)).toNatClampNeg (I 26 ((((80 : Int32) * (v 1)) + (v 2))).toNatClampNeg))) J v w))
    | 82 => (¬ (((((80 : Int32) * (v 1)) + (40 : Int32)) + (v 2)) < 0 ∨ 320 ≤ (((((80 : Int32) * (v 1)) + (40 : Int32)) + (v 2))).toNatClampNeg) ∧ (¬ ((v 2) < 0 ∨ 40 ≤ ((v 2)).toNatClampNeg) ∧ okl_back n 102 i l I (va_up J 20 (vp_updL (J 20) ((v 2)).toNatClampNeg (J 25 (((((80 : Int32) * (v 1)) + (40 : Int32)) + (v 2))).toNatClampNeg))) v w))
    | 102 => (¬ (((((80 : Int32) * (v 1)) + (40 : Int32)) + (v 2)) < 0 ∨ 320 ≤ (((((80 : Int32) * (v 1)) + (40 : Int32)) + (v 2))).toNatClampNeg) ∧ (¬ ((v 2) < 0 ∨ 40 ≤ ((v 2)).toNatClampNeg) ∧ okl_back n 122 i l (va_up I 22 (upd (I 22) ((v 2)).toNatClampNeg (I 26 (((((80 : Int32) * (v 1)) + (40 : Int32)) + (v 2))).toNatClampNeg))) J v w))
    | 122 => okl_back n 42 i l I J (upd v 2 ((v 2) + Int32.ofInt (1))) w
    | _ => False
def s_back (n : Nat) (i : Nat → Int32) (l : Nat → Int64) (I : Nat → Nat → Int32) (J : Nat → Nat → Int64) (p0 : Int32) : Int32 × (Nat → Int32) × (Nat → Int64) × (Nat → Nat → Int32) × (Nat → Nat → Int64) := (if mj_cnd .lt p0 (0 : Int32) = true then ((0 : Int32), i, l, I, J) else (if mj_cnd .gt p0 (3 : Int32) = true then ((0 : Int32), i, l, I, J) else (if mj_cnd .ne (I 29 (p0).toNatClampNeg) (0 : Int32) = true then lp_back n 42 (upd (upd i 23 (I 27 (p0).toNatClampNeg)) 24 (I 28 (p0).toNatClampNeg)) l I J (upd (upd (fun _ => 0) 1 p0) 2 (0 : Int32)) (fun _ => 0) else ((0 : Int32), i, l, I, J))))
def ok_back (n : Nat) (i : Nat → Int32) (l : Nat → Int64) (I : Nat → Nat → Int32) (J : Nat → Nat → Int64) (p0 : Int32) : Prop := (if mj_cnd .lt p0 (0 : Int32) = true then True else (if mj_cnd .gt p0 (3 : Int32) = true then True else (¬ (p0 < 0 ∨ 4 ≤ (p0).toNatClampNeg) ∧ (if mj_cnd .ne (I 29 (p0).toNatClampNeg) (0 : Int32) = true then (¬ (p0 < 0 ∨ 4 ≤ (p0).toNatClampNeg) ∧ (¬ (p0 < 0 ∨ 4 ≤ (p0).toNatClampNeg) ∧ okl_back n 42 (upd (upd i 23 (I 27 (p0).toNatClampNeg)) 24 (I 28 (p0).toNatClampNeg)) l I J (upd (upd (fun _ => 0) 1 p0) 2 (0 : Int32)) (fun _ => 0))) else True))))
set_option maxRecDepth 20000 in
theorem ql_back {xt : mj_X} {pre post : mj_H} {m : Nat} {d : Nat} (hm : pre.length = m) (h2 : 2 ≤ m) : ∀ n : Nat, (∀ i l I J v w, okl_back n 42 i l I J v w → mjR (fun N => mj_call (mj_mmof pg_ms) (mj_TTof pg_TL) xt pg_tl 2 (d + 0) N) (mj_TTof pg_TL 12).1 (mj_TTof pg_TL 12).2 xt pg_tl 2 3 (d + 0) false (Option.some Jvm.ClassFile.FieldType.boolean) (mj_dec prog_14_method_120_code) 42 [(0, .ref m), (1, .int (v 1)), (2, .int (v 2))] [] (rH pre post m i l I J) (some (.int (lp_back n 42 i l I J v w).1)) (rH pre post m (lp_back n 42 i l I J v w).2.1 (lp_back n 42 i l I J v w).2.2.1 (lp_back n 42 i l I J v w).2.2.2.1 (lp_back n 42 i l I J v w).2.2.2.2)) ∧ (∀ i l I J v w, okl_back n 65 i l I J v w → mjR (fun N => mj_call (mj_mmof pg_ms) (mj_TTof pg_TL) xt pg_tl 2 (d + 0) N) (mj_TTof pg_TL 12).1 (mj_TTof pg_TL 12).2 xt pg_tl 2 3 (d + 0) false (Option.some Jvm.ClassFile.FieldType.boolean) (mj_dec prog_14_method_120_code) 65 [(0, .ref m), (1, .int (v 1)), (2, .int (v 2))] [] (rH pre post m i l I J) (some (.int (lp_back n 65 i l I J v w).1)) (rH pre post m (lp_back n 65 i l I J v w).2.1 (lp_back n 65 i l I J v w).2.2.1 (lp_back n 65 i l I J v w).2.2.2.1 (lp_back n 65 i l I J v w).2.2.2.2)) ∧ (∀ i l I J v w, okl_back n 82 i l I J v w → mjR (fun N => mj_call (mj_mmof pg_ms) (mj_TTof pg_TL) xt pg_tl 2 (d + 0) N) (mj_TTof pg_TL 12).1 (mj_TTof pg_TL 12).2 xt pg_tl 2 3 (d + 0) false (Option.some Jvm.ClassFile.FieldType.boolean) (mj_dec prog_14_method_120_code) 82 [(0, .ref m), (1, .int (v 1)), (2, .int (v 2))] [] (rH pre post m i l I J) (some (.int (lp_back n 82 i l I J v w).1)) (rH pre post m (lp_back n 82 i l I J v w).2.1 (lp_back n 82 i l I J v w).2.2.1 (lp_back n 82 i l I J v w).2.2.2.1 (lp_back n 82 i l I J v w).2.2.2.2)) ∧ (∀ i l I J v w, okl_back n 102 i l I J v w → mjR (fun N => mj_call (mj_mmof pg_ms) (mj_TTof pg_TL) xt pg_tl 2 (d + 0) N) (mj_TTof pg_TL 12).1 (mj_TTof pg_TL 12).2 xt pg_tl 2 3 (d + 0) false (Option.some Jvm.ClassFile.FieldType.boolean) (mj_dec prog_14_method_120_code) 102 [(0, .ref m), (1, .int (v 1)), (2, .int (v 2))] [] (rH pre post m i l I J) (some (.int (lp_back n 102 i l I J v w).1)) (rH pre post m (lp_back n 102 i l I J v w).2.1 (lp_back n 102 i l I J v w).2.2.1 (lp_back n 102 i l I J v w).2.2.2.1 (lp_back n 102 i l I J v w).2.2.2.2)) ∧ (∀ i l I J v w, okl_back n 122 i l I J v w → mjR (fun N => mj_call (mj_mmof pg_ms) (mj_TTof pg_TL) xt pg_tl 2 (d + 0) N) (mj_TTof pg_TL 12).1 (mj_TTof pg_TL 12).2 xt pg_tl 2 3 (d + 0) false (Option.some Jvm.ClassFile.FieldType.boolean) (mj_dec prog_14_method_120_code) 122 [(0, .ref m), (1, .int (v 1)), (2, .int (v 2))] [] (rH pre post m i l I J) (some (.int (lp_back n 122 i l I J v w).1)) (rH pre post m (lp_back n 122 i l I J v w).2.1 (lp_back n 122 i l I J v w).2.2.1 (lp_back n 122 i l I J v w).2.2.2.1 (lp_back n 122 i l I J v w).2.2.2.2)) := by
  intro n
  induction n with
  | zero => exact ⟨fun i l I J v w h => absurd h id, fun i l I J v w h => absurd h id, fun i l I J v w h => absurd h id, fun i l I J v w h => absurd h id, fun i l I J v w h => absurd h id⟩
  | succ n ih =>
    refine ⟨?_, ?_, ?_, ?_, ?_⟩
    · intro i l I J v w hok
      have hok : (if mj_cnd .ge (v 2) (40 : Int32) = true then True else (¬ ((((80 : Int32) * (v 1)) + (v 2)) < 0 ∨ 320 ≤ ((((80 : Int32) * (v 1)) + (v 2))).toNatClampNeg) ∧ (¬ ((v 2) < 0 ∨ 40 ≤ ((v 2)).toNatClampNeg) ∧ okl_back n 65 i l I (va_up J 19 (vp_updL (J 19) ((v 2)).toNatClampNeg (J 25 ((((80 : Int32) * (v 1)) + (v 2))).toNatClampNeg))) v w))) := hok
      refine ms1 dm_back_42 rfl rfl rfl rfl ?_
      refine ms0 (S' := .int (40 : Int32) :: _) dm_back_43 rfl rfl rfl rfl ?_
      refine ms_2c dm_back_45 rfl rfl (fun hb1 => ?_) (fun hb1 => ?_)
      · have hb1 : mj_cnd .ge (v 2) (40 : Int32) = true := hb1
        rw [if_pos hb1] at hok
        refine ms0 (S' := .int (1 : Int32) :: _) dm_back_128 rfl rfl rfl rfl ?_
        have he : lp_back (n + 1) 42 i l I J v w = ((1 : Int32), i, l, I, J) := by
          rw [lb_back_42]
          simp only [hb1, Bool.false_eq_true, if_true, if_false]
        rw [he]
        exact ms5 dm_back_129 rfl rfl rfl
      · have hb1 : ¬ (mj_cnd .ge (v 2) (40 : Int32) = true) := hb1
        rw [if_neg hb1] at hok
        refine ms1 dm_back_48 rfl rfl rfl rfl ?_
        refine ms3 dm_back_49 (r_get hm h2 rfl (rg_19 _ _ _)) rfl rfl rfl ?_
        refine ms1 dm_back_52 rfl rfl rfl rfl ?_
        refine ms1 dm_back_53 rfl rfl rfl rfl ?_
        refine ms3 dm_back_54 (r_get hm h2 rfl (rg_25 _ _ _)) rfl rfl rfl ?_
        refine ms0 (S' := .int (80 : Int32) :: _) dm_back_57 rfl rfl rfl rfl ?_
        refine ms1 dm_back_59 rfl rfl rfl rfl ?_
        refine ms0 dm_back_60 rfl rfl rfl rfl ?_
        refine ms1 dm_back_61 rfl rfl rfl rfl ?_
        refine ms0 dm_back_62 rfl rfl rfl rfl ?_
        obtain ⟨ho, hok⟩ := hok
        refine ms3 dm_back_63 (r_lald hm h2 (rc_25 _ _ _ _ _) rfl ho) rfl rfl rfl ?_
        obtain ⟨ho, hok⟩ := hok
        refine ms3 dm_back_64 (r_lastk (k := 19) hm h2 (rc_19 _ _ _ _ _) rfl ho (rs_19 _ _ _ _ _ _)) rfl rfl rfl ?_
        have he : lp_back (n + 1) 42 i l I J v w = lp_back n 65 i l I (va_up J 19 (vp_updL (J 19) ((v 2)).toNatClampNeg (J 25 ((((80 : Int32) * (v 1)) + (v 2))).toNatClampNeg))) v w := by
          rw [lb_back_42]
          simp only [hb1, Bool.false_eq_true, if_true, if_false]
        rw [he]
        exact mjR_sub rfl rfl rfl (ih.2.1 _ _ _ _ _ _ hok)
    · intro i l I J v w hok
      have hok : (¬ ((((80 : Int32) * (v 1)) + (v 2)) < 0 ∨ 320 ≤ ((((80 : Int32) * (v 1)) + (v 2))).toNatClampNeg) ∧ (¬ ((v 2) < 0 ∨ 40 ≤ ((v 2)).toNatClampNeg) ∧ okl_back n 82 i l (va_up I 21 (upd (I 21) ((v 2)).toNatClampNeg (I 26 ((((80 : Int32) * (v 1)) + (v 2))).toNatClampNeg))) J v w)) := hok
      refine ms1 dm_back_65 rfl rfl rfl rfl ?_
      refine ms3 dm_back_66 (r_get hm h2 rfl (rg_21 _ _ _)) rfl rfl rfl ?_
      refine ms1 dm_back_69 rfl rfl rfl rfl ?_
      refine ms1 dm_back_70 rfl rfl rfl rfl ?_
      refine ms3 dm_back_71 (r_get hm h2 rfl (rg_26 _ _ _)) rfl rfl rfl ?_
      refine ms0 (S' := .int (80 : Int32) :: _) dm_back_74 rfl rfl rfl rfl ?_
      refine ms1 dm_back_76 rfl rfl rfl rfl ?_
      refine ms0 dm_back_77 rfl rfl rfl rfl ?_
      refine ms1 dm_back_78 rfl rfl rfl rfl ?_
      refine ms0 dm_back_79 rfl rfl rfl rfl ?_
      obtain ⟨ho, hok⟩ := hok
      refine ms3 dm_back_80 (r_iald hm h2 (rc_26 _ _ _ _ _) rfl ho) rfl rfl rfl ?_
      obtain ⟨ho, hok⟩ := hok
      refine ms3 dm_back_81 (r_iastk (k := 21) hm h2 (rc_21 _ _ _ _ _) rfl ho (rs_21 _ _ _ _ _ _)) rfl rfl rfl ?_
      have he : lp_back (n + 1) 65 i l I J v w = lp_back n 82 i l (va_up I 21 (upd (I 21) ((v 2)).toNatClampNeg (I 26 ((((80 : Int32) * (v 1)) + (v 2))).toNatClampNeg))) J v w := by
        rw [lb_back_65]
      rw [he]
      exact mjR_sub rfl rfl rfl (ih.2.2.1 _ _ _ _ _ _ hok)
    · intro i l I J v w hok
      have hok : (¬ (((((80 : Int32) * (v 1)) + (40 : Int32)) + (v 2)) < 0 ∨ 320 ≤ (((((80 : Int32) * (v 1)) + (40 : Int32)) + (v 2))).toNatClampNeg) ∧ (¬ ((v 2) < 0 ∨ 40 ≤ ((v 2)).toNatClampNeg) ∧ okl_back n 102 i l I (va_up J 20 (vp_updL (J 20) ((v 2)).toNatClampNeg (J 25 (((((80 : Int32) * (v 1)) + (40 : Int32)) + (v 2))).toNatClampNeg))) v w)) := hok
      refine ms1 dm_back_82 rfl rfl rfl rfl ?_
      refine ms3 dm_back_83 (r_get hm h2 rfl (rg_20 _ _ _)) rfl rfl rfl ?_
      refine ms1 dm_back_86 rfl rfl rfl rfl ?_
      refine ms1 dm_back_87 rfl rfl rfl rfl ?_
      refine ms3 dm_back_88 (r_get hm h2 rfl (rg_25 _ _ _)) rfl rfl rfl ?_
      refine ms0 (S' := .int (80 : Int32) :: _) dm_back_91 rfl rfl rfl rfl ?_
      refine ms1 dm_back_93 rfl rfl rfl rfl ?_
      refine ms0 dm_back_94 rfl rfl rfl rfl ?_
      refine ms0 (S' := .int (40 : Int32) :: _) dm_back_95 rfl rfl rfl rfl ?_
      refine ms0 dm_back_97 rfl rfl rfl rfl ?_
      refine ms1 dm_back_98 rfl rfl rfl rfl ?_
      refine ms0 dm_back_99 rfl rfl rfl rfl ?_
      obtain ⟨ho, hok⟩ := hok
      refine ms3 dm_back_100 (r_lald hm h2 (rc_25 _ _ _ _ _) rfl ho) rfl rfl rfl ?_
      obtain ⟨ho, hok⟩ := hok
      refine ms3 dm_back_101 (r_lastk (k := 20) hm h2 (rc_20 _ _ _ _ _) rfl ho (rs_20 _ _ _ _ _ _)) rfl rfl rfl ?_
      have he : lp_back (n + 1) 82 i l I J v w = lp_back n 102 i l I (va_up J 20 (vp_updL (J 20) ((v 2)).toNatClampNeg (J 25 (((((80 : Int32) * (v 1)) + (40 : Int32)) + (v 2))).toNatClampNeg))) v w := by
        rw [lb_back_82]
      rw [he]
      exact mjR_sub rfl rfl rfl (ih.2.2.2.1 _ _ _ _ _ _ hok)
    · intro i l I J v w hok
      have hok : (¬ (((((80 : Int32) * (v 1)) + (40 : Int32)) + (v 2)) < 0 ∨ 320 ≤ (((((80 : Int32) * (v 1)) + (40 : Int32)) + (v 2))).toNatClampNeg) ∧ (¬ ((v 2) < 0 ∨ 40 ≤ ((v 2)).toNatClampNeg) ∧ okl_back n 122 i l (va_up I 22 (upd (I 22) ((v 2)).toNatClampNeg (I 26 (((((80 : Int32) * (v 1)) + (40 : Int32)) + (v 2))).toNatClampNeg))) J v w)) := hok
      refine ms1 dm_back_102 rfl rfl rfl rfl ?_
      refine ms3 dm_back_103 (r_get hm h2 rfl (rg_22 _ _ _)) rfl rfl rfl ?_
      refine ms1 dm_back_106 rfl rfl rfl rfl ?_
      refine ms1 dm_back_107 rfl rfl rfl rfl ?_
      refine ms3 dm_back_108 (r_get hm h2 rfl (rg_26 _ _ _)) rfl rfl rfl ?_
      refine ms0 (S' := .int (80 : Int32) :: _) dm_back_111 rfl rfl rfl rfl ?_
      refine ms1 dm_back_113 rfl rfl rfl rfl ?_
      refine ms0 dm_back_114 rfl rfl rfl rfl ?_
      refine ms0 (S' := .int (40 : Int32) :: _) dm_back_115 rfl rfl rfl rfl ?_
      refine ms0 dm_back_117 rfl rfl rfl rfl ?_
      refine ms1 dm_back_118 rfl rfl rfl rfl ?_
      refine ms0 dm_back_119 rfl rfl rfl rfl ?_
      obtain ⟨ho, hok⟩ := hok
      refine ms3 dm_back_120 (r_iald hm h2 (rc_26 _ _ _ _ _) rfl ho) rfl rfl rfl ?_
      obtain ⟨ho, hok⟩ := hok
      refine ms3 dm_back_121 (r_iastk (k := 22) hm h2 (rc_22 _ _ _ _ _) rfl ho (rs_22 _ _ _ _ _ _)) rfl rfl rfl ?_
      have he : lp_back (n + 1) 102 i l I J v w = lp_back n 122 i l (va_up I 22 (upd (I 22) ((v 2)).toNatClampNeg (I 26 (((((80 : Int32) * (v 1)) + (40 : Int32)) + (v 2))).toNatClampNeg))) J v w := by
        rw [lb_back_102]
      rw [he]
      exact mjR_sub rfl rfl rfl (ih.2.2.2.2 _ _ _ _ _ _ hok)
    · intro i l I J v w hok
      have hok : okl_back n 42 i l I J (upd v 2 ((v 2) + Int32.ofInt (1))) w := hok
      refine ms1 dm_back_122 rfl rfl rfl rfl ?_
      refine ms2 dm_back_125 rfl rfl rfl ?_
      have he : lp_back (n + 1) 122 i l I J v w = lp_back n 42 i l I J (upd v 2 ((v 2) + Int32.ofInt (1))) w := by
        rw [lb_back_122]
      rw [he]
      exact mjR_sub rfl rfl rfl (ih.1 _ _ _ _ _ _ hok)
set_option maxRecDepth 20000 in
theorem q_back {xt : mj_X} {pre post : mj_H} {m : Nat} {i : Nat → Int32} {l : Nat → Int64} {I : Nat → Nat → Int32} {J : Nat → Nat → Int64} {d : Nat} (hm : pre.length = m) (h2 : 2 ≤ m) {p0 : Int32} {n : Nat} (hok : ok_back n i l I J p0) : pgC xt (d + 1) k_back (.ref m :: [.int p0]) (rH pre post m i l I J) (some (.int (s_back n i l I J p0).1)) (rH pre post m (s_back n i l I J p0).2.1 (s_back n i l I J p0).2.2.1 (s_back n i l I J p0).2.2.2.1 (s_back n i l I J p0).2.2.2.2) := by
  unfold ok_back at hok
  refine ms_call pm_back (Nat.le_of_ble_eq_true rfl) ?_
  dsimp only
  refine ms1 dm_back_0 rfl rfl rfl rfl ?_
  refine ms_1c dm_back_1 rfl rfl (fun hb1 => ?_) (fun hb1 => ?_)
  · have hb1 : mj_cnd .lt p0 (0 : Int32) = true := hb1
    rw [if_pos hb1] at hok
    refine ms0 (S' := .int (0 : Int32) :: _) dm_back_18 rfl rfl rfl rfl ?_
    have he : s_back n i l I J p0 = ((0 : Int32), i, l, I, J) := by
      unfold s_back
      simp only [hb1, Bool.false_eq_true, if_true, if_false]
    rw [he]
    exact ms5 dm_back_19 rfl rfl rfl
  · have hb1 : ¬ (mj_cnd .lt p0 (0 : Int32) = true) := hb1
    rw [if_neg hb1] at hok
    refine ms1 dm_back_4 rfl rfl rfl rfl ?_
    refine ms0 (S' := .int (3 : Int32) :: _) dm_back_5 rfl rfl rfl rfl ?_
    refine ms_2c dm_back_6 rfl rfl (fun hb2 => ?_) (fun hb2 => ?_)
    · have hb2 : mj_cnd .gt p0 (3 : Int32) = true := hb2
      rw [if_pos hb2] at hok
      refine ms0 (S' := .int (0 : Int32) :: _) dm_back_18 rfl rfl rfl rfl ?_
      have he : s_back n i l I J p0 = ((0 : Int32), i, l, I, J) := by
        unfold s_back
        simp only [hb1, hb2, Bool.false_eq_true, if_true, if_false]
      rw [he]
      exact ms5 dm_back_19 rfl rfl rfl
    · have hb2 : ¬ (mj_cnd .gt p0 (3 : Int32) = true) := hb2
      rw [if_neg hb2] at hok
      refine ms1 dm_back_9 rfl rfl rfl rfl ?_
      refine ms3 dm_back_10 (r_get hm h2 rfl (rg_29 _ _ _)) rfl rfl rfl ?_
      refine ms1 dm_back_13 rfl rfl rfl rfl ?_
      obtain ⟨ho, hok⟩ := hok
      refine ms3 dm_back_14 (r_zald hm h2 (rc_29 _ _ _ _ _) rfl ho) rfl rfl rfl ?_
      refine ms_1c dm_back_15 rfl rfl (fun hb3 => ?_) (fun hb3 => ?_)
      · have hb3 : mj_cnd .ne (I 29 (p0).toNatClampNeg) (0 : Int32) = true := hb3
        rw [if_pos hb3] at hok
        refine ms1 dm_back_20 rfl rfl rfl rfl ?_
        refine ms1 dm_back_21 rfl rfl rfl rfl ?_
        refine ms3 dm_back_22 (r_get hm h2 rfl (rg_27 _ _ _)) rfl rfl rfl ?_
        refine ms1 dm_back_25 rfl rfl rfl rfl ?_
        obtain ⟨ho, hok⟩ := hok
        refine ms3 dm_back_26 (r_iald hm h2 (rc_27 _ _ _ _ _) rfl ho) rfl rfl rfl ?_
        refine ms3 dm_back_27 (r_puti hm h2 rfl (rF_lt 23 rfl) (rf_23 _ _ _ _)) rfl rfl rfl ?_
        refine ms1 dm_back_30 rfl rfl rfl rfl ?_
        refine ms1 dm_back_31 rfl rfl rfl rfl ?_
        refine ms3 dm_back_32 (r_get hm h2 rfl (rg_28 _ _ _)) rfl rfl rfl ?_
        refine ms1 dm_back_35 rfl rfl rfl rfl ?_
        obtain ⟨ho, hok⟩ := hok
        refine ms3 dm_back_36 (r_iald hm h2 (rc_28 _ _ _ _ _) rfl ho) rfl rfl rfl ?_
        refine ms3 dm_back_37 (r_puti hm h2 rfl (rF_lt 24 rfl) (rf_24 _ _ _ _)) rfl rfl rfl ?_
        refine ms0 (S' := .int (0 : Int32) :: _) dm_back_40 rfl rfl rfl rfl ?_
        refine ms1 dm_back_41 rfl rfl rfl rfl ?_
        have he : s_back n i l I J p0 = lp_back n 42 (upd (upd i 23 (I 27 (p0).toNatClampNeg)) 24 (I 28 (p0).toNatClampNeg)) l I J (upd (upd (fun _ => 0) 1 p0) 2 (0 : Int32)) (fun _ => 0) := by
          unfold s_back
          simp only [hb1, hb2, hb3, Bool.false_eq_true, if_true, if_false]
        rw [he]
        exact mjR_sub rfl rfl rfl ((ql_back hm h2 n).1 _ _ _ _ _ _ hok)
      · have hb3 : ¬ (mj_cnd .ne (I 29 (p0).toNatClampNeg) (0 : Int32) = true) := hb3
        rw [if_neg hb3] at hok
        refine ms0 (S' := .int (0 : Int32) :: _) dm_back_18 rfl rfl rfl rfl ?_
        have he : s_back n i l I J p0 = ((0 : Int32), i, l, I, J) := by
          unfold s_back
          simp only [hb1, hb2, hb3, Bool.false_eq_true, if_true, if_false]
        rw [he]
        exact ms5 dm_back_19 rfl rfl rfl
def k_letter : Nat := 311
set_option maxRecDepth 20000 in
theorem pm_letter : mj_mmof pg_ms k_letter = some ((⟨"ArrayCalculatorModel", "letter", "(III)I"⟩, prog_14_method_122_code, 7, (Option.some Jvm.ClassFile.FieldType.int)), 12, false, mj_dec prog_14_method_122_code) := rfl
theorem dm_letter_0 : mj_dec prog_14_method_122_code 0 = some (.iload_n 1, 1) := by decide +kernel
theorem dm_letter_1 : mj_dec prog_14_method_122_code 1 = some (.ifCond .lt 35, 3) := by decide +kernel
theorem dm_letter_4 : mj_dec prog_14_method_122_code 4 = some (.iload_n 1, 1) := by decide +kernel
theorem dm_letter_5 : mj_dec prog_14_method_122_code 5 = some (.iconst 1, 1) := by decide +kernel
theorem dm_letter_6 : mj_dec prog_14_method_122_code 6 = some (.if_icmp .gt 30, 3) := by decide +kernel
theorem dm_letter_9 : mj_dec prog_14_method_122_code 9 = some (.iload_n 2, 1) := by decide +kernel
theorem dm_letter_10 : mj_dec prog_14_method_122_code 10 = some (.ifCond .lt 26, 3) := by decide +kernel
theorem dm_letter_13 : mj_dec prog_14_method_122_code 13 = some (.iload_n 2, 1) := by decide +kernel
theorem dm_letter_14 : mj_dec prog_14_method_122_code 14 = some (.iload_n 1, 1) := by decide +kernel
theorem dm_letter_15 : mj_dec prog_14_method_122_code 15 = some (.ifCond .ne 10, 3) := by decide +kernel
theorem dm_letter_18 : mj_dec prog_14_method_122_code 18 = some (.aload_n 0, 1) := by decide +kernel
theorem dm_letter_19 : mj_dec prog_14_method_122_code 19 = some (.getfield 357, 3) := by decide +kernel
theorem dm_letter_22 : mj_dec prog_14_method_122_code 22 = some (.goto 7, 3) := by decide +kernel
theorem dm_letter_25 : mj_dec prog_14_method_122_code 25 = some (.aload_n 0, 1) := by decide +kernel
theorem dm_letter_26 : mj_dec prog_14_method_122_code 26 = some (.getfield 360, 3) := by decide +kernel
theorem dm_letter_29 : mj_dec prog_14_method_122_code 29 = some (.if_icmp .ge 7, 3) := by decide +kernel
theorem dm_letter_32 : mj_dec prog_14_method_122_code 32 = some (.iload_n 3, 1) := by decide +kernel
theorem dm_letter_33 : mj_dec prog_14_method_122_code 33 = some (.ifCond .ge 5, 3) := by decide +kernel
theorem dm_letter_36 : mj_dec prog_14_method_122_code 36 = some (.iconst (-1), 1) := by decide +kernel
theorem dm_letter_37 : mj_dec prog_14_method_122_code 37 = some (.ireturn, 1) := by decide +kernel
theorem dm_letter_38 : mj_dec prog_14_method_122_code 38 = some (.iload_n 1, 1) := by decide +kernel
theorem dm_letter_39 : mj_dec prog_14_method_122_code 39 = some (.ifCond .ne 12, 3) := by decide +kernel
theorem dm_letter_42 : mj_dec prog_14_method_122_code 42 = some (.aload_n 0, 1) := by decide +kernel
theorem dm_letter_43 : mj_dec prog_14_method_122_code 43 = some (.getfield 43, 3) := by decide +kernel
theorem dm_letter_46 : mj_dec prog_14_method_122_code 46 = some (.iload_n 2, 1) := by decide +kernel
theorem dm_letter_47 : mj_dec prog_14_method_122_code 47 = some (.laload, 1) := by decide +kernel
theorem dm_letter_48 : mj_dec prog_14_method_122_code 48 = some (.goto 9, 3) := by decide +kernel
theorem dm_letter_51 : mj_dec prog_14_method_122_code 51 = some (.aload_n 0, 1) := by decide +kernel
theorem dm_letter_52 : mj_dec prog_14_method_122_code 52 = some (.getfield 46, 3) := by decide +kernel
theorem dm_letter_55 : mj_dec prog_14_method_122_code 55 = some (.iload_n 2, 1) := by decide +kernel
theorem dm_letter_56 : mj_dec prog_14_method_122_code 56 = some (.laload, 1) := by decide +kernel
theorem dm_letter_57 : mj_dec prog_14_method_122_code 57 = some (.lstore 4, 2) := by decide +kernel
theorem dm_letter_59 : mj_dec prog_14_method_122_code 59 = some (.iconst 0, 1) := by decide +kernel
theorem dm_letter_60 : mj_dec prog_14_method_122_code 60 = some (.istore 6, 2) := by decide +kernel
theorem dm_letter_62 : mj_dec prog_14_method_122_code 62 = some (.iload 6, 2) := by decide +kernel
theorem dm_letter_64 : mj_dec prog_14_method_122_code 64 = some (.bipush 8, 2) := by decide +kernel
theorem dm_letter_66 : mj_dec prog_14_method_122_code 66 = some (.if_icmp .ge 22, 3) := by decide +kernel
theorem dm_letter_69 : mj_dec prog_14_method_122_code 69 = some (.lload 4, 2) := by decide +kernel
theorem dm_letter_71 : mj_dec prog_14_method_122_code 71 = some (.bipush 8, 2) := by decide +kernel
theorem dm_letter_73 : mj_dec prog_14_method_122_code 73 = some (.iload 6, 2) := by decide +kernel
theorem dm_letter_75 : mj_dec prog_14_method_122_code 75 = some (.imul, 1) := by decide +kernel
theorem dm_letter_76 : mj_dec prog_14_method_122_code 76 = some (.lushr, 1) := by decide +kernel
theorem dm_letter_77 : mj_dec prog_14_method_122_code 77 = some (.lconst 0, 1) := by decide +kernel
theorem dm_letter_78 : mj_dec prog_14_method_122_code 78 = some (.lcmp, 1) := by decide +kernel
theorem dm_letter_79 : mj_dec prog_14_method_122_code 79 = some (.ifCond .eq 9, 3) := by decide +kernel
theorem dm_letter_82 : mj_dec prog_14_method_122_code 82 = some (.iinc 6 1, 3) := by decide +kernel
theorem dm_letter_85 : mj_dec prog_14_method_122_code 85 = some (.goto (-23), 3) := by decide +kernel
theorem dm_letter_88 : mj_dec prog_14_method_122_code 88 = some (.iload_n 3, 1) := by decide +kernel
theorem dm_letter_89 : mj_dec prog_14_method_122_code 89 = some (.iload 6, 2) := by decide +kernel
theorem dm_letter_91 : mj_dec prog_14_method_122_code 91 = some (.if_icmp .lt 7, 3) := by decide +kernel
theorem dm_letter_94 : mj_dec prog_14_method_122_code 94 = some (.iconst (-1), 1) := by decide +kernel
theorem dm_letter_95 : mj_dec prog_14_method_122_code 95 = some (.goto 20, 3) := by decide +kernel
theorem dm_letter_98 : mj_dec prog_14_method_122_code 98 = some (.lload 4, 2) := by decide +kernel
theorem dm_letter_100 : mj_dec prog_14_method_122_code 100 = some (.bipush 8, 2) := by decide +kernel
theorem dm_letter_102 : mj_dec prog_14_method_122_code 102 = some (.iload 6, 2) := by decide +kernel
theorem dm_letter_104 : mj_dec prog_14_method_122_code 104 = some (.iconst 1, 1) := by decide +kernel
theorem dm_letter_105 : mj_dec prog_14_method_122_code 105 = some (.isub, 1) := by decide +kernel
theorem dm_letter_106 : mj_dec prog_14_method_122_code 106 = some (.iload_n 3, 1) := by decide +kernel
theorem dm_letter_107 : mj_dec prog_14_method_122_code 107 = some (.isub, 1) := by decide +kernel
theorem dm_letter_108 : mj_dec prog_14_method_122_code 108 = some (.imul, 1) := by decide +kernel
theorem dm_letter_109 : mj_dec prog_14_method_122_code 109 = some (.lushr, 1) := by decide +kernel
theorem dm_letter_110 : mj_dec prog_14_method_122_code 110 = some (.l2i, 1) := by decide +kernel
theorem dm_letter_111 : mj_dec prog_14_method_122_code 111 = some (.sipush 255, 3) := by decide +kernel
theorem dm_letter_114 : mj_dec prog_14_method_122_code 114 = some (.iand, 1) := by decide +kernel
theorem dm_letter_115 : mj_dec prog_14_method_122_code 115 = some (.ireturn, 1) := by decide +kernel
def lp_letter : Nat → Nat → (Nat → Int32) → (Nat → Int64) → (Nat → Nat → Int32) → (Nat → Nat → Int64) → (Nat → Int32) → (Nat → Int64) → Int32 × (Nat → Int32) × (Nat → Int64) × (Nat → Nat → Int32) × (Nat → Nat → Int64)
  | 0, _, i, l, I, J, _, _ => (0, i, l, I, J)
  | n + 1, hd, i, l, I, J, v, w => match hd with
    | 62 => (if mj_cnd .ge (v 6) (8 : Int32) = true then (if mj_cnd .lt (v 3) (v 6) = true then ((((((w 4)).toUInt64 >>> ((((8 : Int32) * (((v 6) - (1 : Int32)) - (v 3)))).toInt64.toUInt64 &&& Int64.toUInt64 63)).toInt64).toInt32 &&& (255 : Int32)), i, l, I, J) else ((-1 : Int32), i, l, I, J)) else (if mj_cnd .eq (lg_cmp (((w 4)).toUInt64 >>> ((((8 : Int32) * (v 6))).toInt64.toUInt64 &&& Int64.toUInt64 63)).toInt64 (0 : Int64)) (0 : Int32) = true then (if mj_cnd .lt (v 3) (v 6) = true then ((((((w 4)).toUInt64 >>> ((((8 : Int32) * (((v 6) - (1 : Int32)) - (v 3)))).toInt64.toUInt64 &&& Int64.toUInt64 63)).toInt64).toInt32 &&& (255 : Int32)), i, l, I, J) else ((-1 : Int32), i, l, I, J)) else lp_letter n 62 i l I J (upd v 6 ((v 6) + Int32.ofInt (1))) w))
    | _ => (0, i, l, I, J)
theorem lb_letter_62 (n : Nat) (i : Nat → Int32) (l : Nat → Int64) (I : Nat → Nat → Int32) (J : Nat → Nat → Int64) (v : Nat → Int32) (w : Nat → Int64) : lp_letter (n + 1) 62 i l I J v w = (if mj_cnd .ge (v 6) (8 : Int32) = true then (if mj_cnd .lt (v 3) (v 6) = true then ((((((w 4)).toUInt64 >>> ((((8 : Int32) * (((v 6) - (1 : Int32)) - (v 3)))).toInt64.toUInt64 &&& Int64.toUInt64 63)).toInt64).toInt32 &&& (255 : Int32)), i, l, I, J) else ((-1 : Int32), i, l, I, J)) else (if mj_cnd .eq (lg_cmp (((w 4)).toUInt64 >>> ((((8 : Int32) * (v 6))).toInt64.toUInt64 &&& Int64.toUInt64 63)).toInt64 (0 : Int64)) (0 : Int32) = true then (if mj_cnd .lt (v 3) (v 6) = true then ((((((w 4)).toUInt64 >>> ((((8 : Int32) * (((v 6) - (1 : Int32)) - (v 3)))).toInt64.toUInt64 &&& Int64.toUInt64 63)).toInt64).toInt32 &&& (255 : Int32)), i, l, I, J) else ((-1 : Int32), i, l, I, J)) else lp_letter n 62 i l I J (upd v 6 ((v 6) + Int32.ofInt (1))) w)) := rfl
def okl_letter : Nat → Nat → (Nat → Int32) → (Nat → Int64) → (Nat → Nat → Int32) → (Nat → Nat → Int64) → (Nat → Int32) → (Nat → Int64) → Prop
  | 0, _, _, _, _, _, _, _ => False
  | n + 1, hd, i, l, I, J, v, w => match hd with
    | 62 => (if mj_cnd .ge (v 6) (8 : Int32) = true then True else (if mj_cnd .eq (lg_cmp (((w 4)).toUInt64 >>> ((((8 : Int32) * (v 6))).toInt64.toUInt64 &&& Int64.toUInt64 63)).toInt64 (0 : Int64)) (0 : Int32) = true then True else okl_letter n 62 i l I J (upd v 6 ((v 6) + Int32.ofInt (1))) w))
    | _ => False
def s_letter (n : Nat) (i : Nat → Int32) (l : Nat → Int64) (I : Nat → Nat → Int32) (J : Nat → Nat → Int64) (p0 : Int32) (p1 : Int32) (p2 : Int32) : Int32 × (Nat → Int32) × (Nat → Int64) × (Nat → Nat → Int32) × (Nat → Nat → Int64) := (if mj_cnd .lt p0 (0 : Int32) = true then ((-1 : Int32), i, l, I, J) else (if mj_cnd .gt p0 (1 : Int32) = true then ((-1 : Int32), i, l, I, J) else (if mj_cnd .lt p1 (0 : Int32) = true then ((-1 : Int32), i, l, I, J) else (if mj_cnd .ne p0 (0 : Int32) = true then (if mj_cnd .ge p1 (i 24) = true then ((-1 : Int32), i, l, I, J) else (if mj_cnd .ge p2 (0 : Int32) = true then lp_letter n 62 i l I J (upd (upd (fun _ => 0) 3 p2) 6 (0 : Int32)) (vp_updL (fun _ => 0) 4 (J 20 (p1).toNatClampNeg)) else ((-1 : Int32), i, l, I, J))) else (if mj_cnd .ge p1 (i 23) = true then ((-1 : Int32), i, l, I, J) else (if mj_cnd .ge p2 (0 : Int32) = true then lp_letter n 62 i l I J (upd (upd (fun _ => 0) 3 p2) 6 (0 : Int32)) (vp_updL (fun _ => 0) 4 (J 19 (p1).toNatClampNeg)) else ((-1 : Int32), i, l, I, J)))))))
def ok_letter (n : Nat) (i : Nat → Int32) (l : Nat → Int64) (I : Nat → Nat → Int32) (J : Nat → Nat → Int64) (p0 : Int32) (p1 : Int32) (p2 : Int32) : Prop := (if mj_cnd .lt p0 (0 : Int32) = true then True else (if mj_cnd .gt p0 (1 : Int32) = true then True else (if mj_cnd .lt p1 (0 : Int32) = true then True else (if mj_cnd .ne p0 (0 : Int32) = true then (if mj_cnd .ge p1 (i 24) = true then True else (if mj_cnd .ge p2 (0 : Int32) = true then (¬ (p1 < 0 ∨ 40 ≤ (p1).toNatClampNeg) ∧ okl_letter n 62 i l I J (upd (upd (fun _ => 0) 3 p2) 6 (0 : Int32)) (vp_updL (fun _ => 0) 4 (J 20 (p1).toNatClampNeg))) else True)) else (if mj_cnd .ge p1 (i 23) = true then True else (if mj_cnd .ge p2 (0 : Int32) = true then (¬ (p1 < 0 ∨ 40 ≤ (p1).toNatClampNeg) ∧ okl_letter n 62 i l I J (upd (upd (fun _ => 0) 3 p2) 6 (0 : Int32)) (vp_updL (fun _ => 0) 4 (J 19 (p1).toNatClampNeg))) else True))))))
set_option maxRecDepth 20000 in
theorem ql_letter {xt : mj_X} {pre post : mj_H} {m : Nat} {d : Nat} (hm : pre.length = m) (h2 : 2 ≤ m) : ∀ n : Nat, (∀ i l I J v w, okl_letter n 62 i l I J v w → mjR (fun N => mj_call (mj_mmof pg_ms) (mj_TTof pg_TL) xt pg_tl 2 (d + 0) N) (mj_TTof pg_TL 12).1 (mj_TTof pg_TL 12).2 xt pg_tl 2 7 (d + 0) false (Option.some Jvm.ClassFile.FieldType.int) (mj_dec prog_14_method_122_code) 62 [(0, .ref m), (3, .int (v 3)), (4, .long (w 4)), (6, .int (v 6))] [] (rH pre post m i l I J) (some (.int (lp_letter n 62 i l I J v w).1)) (rH pre post m (lp_letter n 62 i l I J v w).2.1 (lp_letter n 62 i l I J v w).2.2.1 (lp_letter n 62 i l I J v w).2.2.2.1 (lp_letter n 62 i l I J v w).2.2.2.2)) := by
  intro n
  induction n with
  | zero => exact fun i l I J v w h => absurd h id
  | succ n ih =>
    · intro i l I J v w hok
      have hok : (if mj_cnd .ge (v 6) (8 : Int32) = true then True else (if mj_cnd .eq (lg_cmp (((w 4)).toUInt64 >>> ((((8 : Int32) * (v 6))).toInt64.toUInt64 &&& Int64.toUInt64 63)).toInt64 (0 : Int64)) (0 : Int32) = true then True else okl_letter n 62 i l I J (upd v 6 ((v 6) + Int32.ofInt (1))) w)) := hok
      refine ms1 dm_letter_62 rfl rfl rfl rfl ?_
      refine ms0 (S' := .int (8 : Int32) :: _) dm_letter_64 rfl rfl rfl rfl ?_
      refine ms_2c dm_letter_66 rfl rfl (fun hb1 => ?_) (fun hb1 => ?_)
      · have hb1 : mj_cnd .ge (v 6) (8 : Int32) = true := hb1
        rw [if_pos hb1] at hok
        refine ms1 dm_letter_88 rfl rfl rfl rfl ?_
        refine ms1 dm_letter_89 rfl rfl rfl rfl ?_
        refine ms_2c dm_letter_91 rfl rfl (fun hb2 => ?_) (fun hb2 => ?_)
        · have hb2 : mj_cnd .lt (v 3) (v 6) = true := hb2
          refine ms1 dm_letter_98 rfl rfl rfl rfl ?_
          refine ms0 (S' := .int (8 : Int32) :: _) dm_letter_100 rfl rfl rfl rfl ?_
          refine ms1 dm_letter_102 rfl rfl rfl rfl ?_
          refine ms0 (S' := .int (1 : Int32) :: _) dm_letter_104 rfl rfl rfl rfl ?_
          refine ms0 dm_letter_105 rfl rfl rfl rfl ?_
          refine ms1 dm_letter_106 rfl rfl rfl rfl ?_
          refine ms0 dm_letter_107 rfl rfl rfl rfl ?_
          refine ms0 dm_letter_108 rfl rfl rfl rfl ?_
          refine ms0 dm_letter_109 rfl rfl rfl rfl ?_
          refine ms0 dm_letter_110 rfl rfl rfl rfl ?_
          refine ms0 (S' := .int (255 : Int32) :: _) dm_letter_111 rfl rfl rfl rfl ?_
          refine ms0 dm_letter_114 rfl rfl rfl rfl ?_
          have he : lp_letter (n + 1) 62 i l I J v w = ((((((w 4)).toUInt64 >>> ((((8 : Int32) * (((v 6) - (1 : Int32)) - (v 3)))).toInt64.toUInt64 &&& Int64.toUInt64 63)).toInt64).toInt32 &&& (255 : Int32)), i, l, I, J) := by
            rw [lb_letter_62]
            simp only [hb1, hb2, Bool.false_eq_true, if_true, if_false]
          rw [he]
          exact ms5 dm_letter_115 rfl rfl rfl
        · have hb2 : ¬ (mj_cnd .lt (v 3) (v 6) = true) := hb2
          refine ms0 (S' := .int (-1 : Int32) :: _) dm_letter_94 rfl rfl rfl rfl ?_
          refine ms2 dm_letter_95 rfl rfl rfl ?_
          have he : lp_letter (n + 1) 62 i l I J v w = ((-1 : Int32), i, l, I, J) := by
            rw [lb_letter_62]
            simp only [hb1, hb2, Bool.false_eq_true, if_true, if_false]
          rw [he]
          exact ms5 dm_letter_115 rfl rfl rfl
      · have hb1 : ¬ (mj_cnd .ge (v 6) (8 : Int32) = true) := hb1
        rw [if_neg hb1] at hok
        refine ms1 dm_letter_69 rfl rfl rfl rfl ?_
        refine ms0 (S' := .int (8 : Int32) :: _) dm_letter_71 rfl rfl rfl rfl ?_
        refine ms1 dm_letter_73 rfl rfl rfl rfl ?_
        refine ms0 dm_letter_75 rfl rfl rfl rfl ?_
        refine ms0 dm_letter_76 rfl rfl rfl rfl ?_
        refine ms0 (S' := .long (0 : Int64) :: _) dm_letter_77 rfl rfl rfl rfl ?_
        refine ms0 dm_letter_78 rfl rfl rfl rfl ?_
        refine ms_1c dm_letter_79 rfl rfl (fun hb3 => ?_) (fun hb3 => ?_)
        · have hb3 : mj_cnd .eq (lg_cmp (((w 4)).toUInt64 >>> ((((8 : Int32) * (v 6))).toInt64.toUInt64 &&& Int64.toUInt64 63)).toInt64 (0 : Int64)) (0 : Int32) = true := hb3
          rw [if_pos hb3] at hok
          refine ms1 dm_letter_88 rfl rfl rfl rfl ?_
          refine ms1 dm_letter_89 rfl rfl rfl rfl ?_
          refine ms_2c dm_letter_91 rfl rfl (fun hb4 => ?_) (fun hb4 => ?_)
          · have hb4 : mj_cnd .lt (v 3) (v 6) = true := hb4
            refine ms1 dm_letter_98 rfl rfl rfl rfl ?_
            refine ms0 (S' := .int (8 : Int32) :: _) dm_letter_100 rfl rfl rfl rfl ?_
            refine ms1 dm_letter_102 rfl rfl rfl rfl ?_
            refine ms0 (S' := .int (1 : Int32) :: _) dm_letter_104 rfl rfl rfl rfl ?_
            refine ms0 dm_letter_105 rfl rfl rfl rfl ?_
            refine ms1 dm_letter_106 rfl rfl rfl rfl ?_
            refine ms0 dm_letter_107 rfl rfl rfl rfl ?_
            refine ms0 dm_letter_108 rfl rfl rfl rfl ?_
            refine ms0 dm_letter_109 rfl rfl rfl rfl ?_
            refine ms0 dm_letter_110 rfl rfl rfl rfl ?_
            refine ms0 (S' := .int (255 : Int32) :: _) dm_letter_111 rfl rfl rfl rfl ?_
            refine ms0 dm_letter_114 rfl rfl rfl rfl ?_
            have he : lp_letter (n + 1) 62 i l I J v w = ((((((w 4)).toUInt64 >>> ((((8 : Int32) * (((v 6) - (1 : Int32)) - (v 3)))).toInt64.toUInt64 &&& Int64.toUInt64 63)).toInt64).toInt32 &&& (255 : Int32)), i, l, I, J) := by
              rw [lb_letter_62]
              simp only [hb1, hb3, hb4, Bool.false_eq_true, if_true, if_false]
            rw [he]
            exact ms5 dm_letter_115 rfl rfl rfl
          · have hb4 : ¬ (mj_cnd .lt (v 3) (v 6) = true) := hb4
            refine ms0 (S' := .int (-1 : Int32) :: _) dm_letter_94 rfl rfl rfl rfl ?_
            refine ms2 dm_letter_95 rfl rfl rfl ?_
            have he : lp_letter (n + 1) 62 i l I J v w = ((-1 : Int32), i, l, I, J) := by
              rw [lb_letter_62]
              simp only [hb1, hb3, hb4, Bool.false_eq_true, if_true, if_false]
            rw [he]
            exact ms5 dm_letter_115 rfl rfl rfl
        · have hb3 : ¬ (mj_cnd .eq (lg_cmp (((w 4)).toUInt64 >>> ((((8 : Int32) * (v 6))).toInt64.toUInt64 &&& Int64.toUInt64 63)).toInt64 (0 : Int64)) (0 : Int32) = true) := hb3
          rw [if_neg hb3] at hok
          refine ms1 dm_letter_82 rfl rfl rfl rfl ?_
          refine ms2 dm_letter_85 rfl rfl rfl ?_
          have he : lp_letter (n + 1) 62 i l I J v w = lp_letter n 62 i l I J (upd v 6 ((v 6) + Int32.ofInt (1))) w := by
            rw [lb_letter_62]
            simp only [hb1, hb3, Bool.false_eq_true, if_true, if_false]
          rw [he]
          exact mjR_sub rfl rfl rfl (ih _ _ _ _ _ _ hok)
set_option maxRecDepth 20000 in
theorem q_letter {xt : mj_X} {pre post : mj_H} {m : Nat} {i : Nat → Int32} {l : Nat → Int64} {I : Nat → Nat → Int32} {J : Nat → Nat → Int64} {d : Nat} (hm : pre.length = m) (h2 : 2 ≤ m) {p0 : Int32} {p1 : Int32} {p2 : Int32} {n : Nat} (hok : ok_letter n i l I J p0 p1 p2) : pgC xt (d + 1) k_letter (.ref m :: [.int p0, .int p1, .int p2]) (rH pre post m i l I J) (some (.int (s_letter n i l I J p0 p1 p2).1)) (rH pre post m (s_letter n i l I J p0 p1 p2).2.1 (s_letter n i l I J p0 p1 p2).2.2.1 (s_letter n i l I J p0 p1 p2).2.2.2.1 (s_letter n i l I J p0 p1 p2).2.2.2.2) := by
  unfold ok_letter at hok
  refine ms_call pm_letter (Nat.le_of_ble_eq_true rfl) ?_
  dsimp only
  refine ms1 dm_letter_0 rfl rfl rfl rfl ?_
  refine ms_1c dm_letter_1 rfl rfl (fun hb1 => ?_) (fun hb1 => ?_)
  · have hb1 : mj_cnd .lt p0 (0 : Int32) = true := hb1
    rw [if_pos hb1] at hok
    refine ms0 (S' := .int (-1 : Int32) :: _) dm_letter_36 rfl rfl rfl rfl ?_
    have he : s_letter n i l I J p0 p1 p2 = ((-1 : Int32), i, l, I, J) := by
      unfold s_letter
      simp only [hb1, Bool.false_eq_true, if_true, if_false]
    rw [he]
    exact ms5 dm_letter_37 rfl rfl rfl
  · have hb1 : ¬ (mj_cnd .lt p0 (0 : Int32) = true) := hb1
    rw [if_neg hb1] at hok
    refine ms1 dm_letter_4 rfl rfl rfl rfl ?_
    refine ms0 (S' := .int (1 : Int32) :: _) dm_letter_5 rfl rfl rfl rfl ?_
    refine ms_2c dm_letter_6 rfl rfl (fun hb2 => ?_) (fun hb2 => ?_)
    · have hb2 : mj_cnd .gt p0 (1 : Int32) = true := hb2
      rw [if_pos hb2] at hok
      refine ms0 (S' := .int (-1 : Int32) :: _) dm_letter_36 rfl rfl rfl rfl ?_
      have he : s_letter n i l I J p0 p1 p2 = ((-1 : Int32), i, l, I, J) := by
        unfold s_letter
        simp only [hb1, hb2, Bool.false_eq_true, if_true, if_false]
      rw [he]
      exact ms5 dm_letter_37 rfl rfl rfl
    · have hb2 : ¬ (mj_cnd .gt p0 (1 : Int32) = true) := hb2
      rw [if_neg hb2] at hok
      refine ms1 dm_letter_9 rfl rfl rfl rfl ?_
      refine ms_1c dm_letter_10 rfl rfl (fun hb3 => ?_) (fun hb3 => ?_)
      · have hb3 : mj_cnd .lt p1 (0 : Int32) = true := hb3
        rw [if_pos hb3] at hok
        refine ms0 (S' := .int (-1 : Int32) :: _) dm_letter_36 rfl rfl rfl rfl ?_
        have he : s_letter n i l I J p0 p1 p2 = ((-1 : Int32), i, l, I, J) := by
          unfold s_letter
          simp only [hb1, hb2, hb3, Bool.false_eq_true, if_true, if_false]
        rw [he]
        exact ms5 dm_letter_37 rfl rfl rfl
      · have hb3 : ¬ (mj_cnd .lt p1 (0 : Int32) = true) := hb3
        rw [if_neg hb3] at hok
        refine ms1 dm_letter_13 rfl rfl rfl rfl ?_
        refine ms1 dm_letter_14 rfl rfl rfl rfl ?_
        refine ms_1c dm_letter_15 rfl rfl (fun hb4 => ?_) (fun hb4 => ?_)
        · have hb4 : mj_cnd .ne p0 (0 : Int32) = true := hb4
          rw [if_pos hb4] at hok
          refine ms1 dm_letter_25 rfl rfl rfl rfl ?_
          refine ms3 dm_letter_26 (r_get (v := .int (i 24)) hm h2 rfl (rg_24 _ _ _)) rfl rfl rfl ?_
          refine ms_2c dm_letter_29 rfl rfl (fun hb5 => ?_) (fun hb5 => ?_)
          · have hb5 : mj_cnd .ge p1 (i 24) = true := hb5
            rw [if_pos hb5] at hok
            refine ms0 (S' := .int (-1 : Int32) :: _) dm_letter_36 rfl rfl rfl rfl ?_
            have he : s_letter n i l I J p0 p1 p2 = ((-1 : Int32), i, l, I, J) := by
              unfold s_letter
              simp only [hb1, hb2, hb3, hb4, hb5, Bool.false_eq_true, if_true, if_false]
            rw [he]
            exact ms5 dm_letter_37 rfl rfl rfl
          · have hb5 : ¬ (mj_cnd .ge p1 (i 24) = true) := hb5
            rw [if_neg hb5] at hok
            refine ms1 dm_letter_32 rfl rfl rfl rfl ?_
            refine ms_1c dm_letter_33 rfl rfl (fun hb6 => ?_) (fun hb6 => ?_)
            · have hb6 : mj_cnd .ge p2 (0 : Int32) = true := hb6
              rw [if_pos hb6] at hok
              refine ms1 dm_letter_38 rfl rfl rfl rfl ?_
              refine ms_1t dm_letter_39 rfl hb4 ?_
              refine ms1 dm_letter_51 rfl rfl rfl rfl ?_
              refine ms3 dm_letter_52 (r_get hm h2 rfl (rg_20 _ _ _)) rfl rfl rfl ?_
              refine ms1 dm_letter_55 rfl rfl rfl rfl ?_
              obtain ⟨ho, hok⟩ := hok
              refine ms3 dm_letter_56 (r_lald hm h2 (rc_20 _ _ _ _ _) rfl ho) rfl rfl rfl ?_
              refine ms1 dm_letter_57 rfl rfl rfl rfl ?_
              refine ms0 (S' := .int (0 : Int32) :: _) dm_letter_59 rfl rfl rfl rfl ?_
              refine ms1 dm_letter_60 rfl rfl rfl rfl ?_
              have he : s_letter n i l I J p0 p1 p2 = lp_letter n 62 i l I J (upd (upd (fun _ => 0) 3 p2) 6 (0 : Int32)) (vp_updL (fun _ => 0) 4 (J 20 (p1).toNatClampNeg)) := by
                unfold s_letter
                simp only [hb1, hb2, hb3, hb4, hb5, hb6, Bool.false_eq_true, if_true, if_false]
              rw [he]
              exact mjR_sub rfl rfl rfl ((ql_letter hm h2 n) _ _ _ _ _ _ hok)
            · have hb6 : ¬ (mj_cnd .ge p2 (0 : Int32) = true) := hb6
              rw [if_neg hb6] at hok
              refine ms0 (S' := .int (-1 : Int32) :: _) dm_letter_36 rfl rfl rfl rfl ?_
              have he : s_letter n i l I J p0 p1 p2 = ((-1 : Int32), i, l, I, J) := by
                unfold s_letter
                simp only [hb1, hb2, hb3, hb4, hb5, hb6, Bool.false_eq_true, if_true, if_false]
              rw [he]
              exact ms5 dm_letter_37 rfl rfl rfl
        · have hb4 : ¬ (mj_cnd .ne p0 (0 : Int32) = true) := hb4
          rw [if_neg hb4] at hok
          refine ms1 dm_letter_18 rfl rfl rfl rfl ?_
          refine ms3 dm_letter_19 (r_get (v := .int (i 23)) hm h2 rfl (rg_23 _ _ _)) rfl rfl rfl ?_
          refine ms2 dm_letter_22 rfl rfl rfl ?_
          refine ms_2c dm_letter_29 rfl rfl (fun hb7 => ?_) (fun hb7 => ?_)
          · have hb7 : mj_cnd .ge p1 (i 23) = true := hb7
            rw [if_pos hb7] at hok
            refine ms0 (S' := .int (-1 : Int32) :: _) dm_letter_36 rfl rfl rfl rfl ?_
            have he : s_letter n i l I J p0 p1 p2 = ((-1 : Int32), i, l, I, J) := by
              unfold s_letter
              simp only [hb1, hb2, hb3, hb4, hb7, Bool.false_eq_true, if_true, if_false]
            rw [he]
            exact ms5 dm_letter_37 rfl rfl rfl
          · have hb7 : ¬ (mj_cnd .ge p1 (i 23) = true) := hb7
            rw [if_neg hb7] at hok
            refine ms1 dm_letter_32 rfl rfl rfl rfl ?_
            refine ms_1c dm_letter_33 rfl rfl (fun hb8 => ?_) (fun hb8 => ?_)
            · have hb8 : mj_cnd .ge p2 (0 : Int32) = true := hb8
              rw [if_pos hb8] at hok
              refine ms1 dm_letter_38 rfl rfl rfl rfl ?_
              refine ms_1f dm_letter_39 rfl hb4 rfl ?_
              refine ms1 dm_letter_42 rfl rfl rfl rfl ?_
              refine ms3 dm_letter_43 (r_get hm h2 rfl (rg_19 _ _ _)) rfl rfl rfl ?_
              refine ms1 dm_letter_46 rfl rfl rfl rfl ?_
              obtain ⟨ho, hok⟩ := hok
              refine ms3 dm_letter_47 (r_lald hm h2 (rc_19 _ _ _ _ _) rfl ho) rfl rfl rfl ?_
              refine ms2 dm_letter_48 rfl rfl rfl ?_
              refine ms1 dm_letter_57 rfl rfl rfl rfl ?_
              refine ms0 (S' := .int (0 : Int32) :: _) dm_letter_59 rfl rfl rfl rfl ?_
              refine ms1 dm_letter_60 rfl rfl rfl rfl ?_
              have he : s_letter n i l I J p0 p1 p2 = lp_letter n 62 i l I J (upd (upd (fun _ => 0) 3 p2) 6 (0 : Int32)) (vp_updL (fun _ => 0) 4 (J 19 (p1).toNatClampNeg)) := by
                unfold s_letter
                simp only [hb1, hb2, hb3, hb4, hb7, hb8, Bool.false_eq_true, if_true, if_false]
              rw [he]
              exact mjR_sub rfl rfl rfl ((ql_letter hm h2 n) _ _ _ _ _ _ hok)
            · have hb8 : ¬ (mj_cnd .ge p2 (0 : Int32) = true) := hb8
              rw [if_neg hb8] at hok
              refine ms0 (S' := .int (-1 : Int32) :: _) dm_letter_36 rfl rfl rfl rfl ?_
              have he : s_letter n i l I J p0 p1 p2 = ((-1 : Int32), i, l, I, J) := by
                unfold s_letter
                simp only [hb1, hb2, hb3, hb4, hb7, hb8, Bool.false_eq_true, if_true, if_false]
              rw [he]
              exact ms5 dm_letter_37 rfl rfl rfl
