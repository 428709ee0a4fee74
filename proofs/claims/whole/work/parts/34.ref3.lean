def k_feedOne : Nat := 197
set_option maxRecDepth 20000 in
theorem pm_feedOne : mj_mmof pg_ms k_feedOne = some ((⟨"ArrayCalculatorModel", "feedOne", "(I)V"⟩, prog_14_method_94_code, 3, (Option.none : Option Jvm.ClassFile.FieldType)), 12, false, mj_dec prog_14_method_94_code) := rfl
theorem dm_feedOne_0 : mj_dec prog_14_method_94_code 0 = some (.bipush 24, 2) := by decide +kernel
theorem dm_feedOne_2 : mj_dec prog_14_method_94_code 2 = some (.istore_n 2, 1) := by decide +kernel
theorem dm_feedOne_3 : mj_dec prog_14_method_94_code 3 = some (.iload_n 2, 1) := by decide +kernel
theorem dm_feedOne_4 : mj_dec prog_14_method_94_code 4 = some (.ifCond .lt 32, 3) := by decide +kernel
theorem dm_feedOne_7 : mj_dec prog_14_method_94_code 7 = some (.aload_n 0, 1) := by decide +kernel
theorem dm_feedOne_8 : mj_dec prog_14_method_94_code 8 = some (.getfield 71, 3) := by decide +kernel
theorem dm_feedOne_11 : mj_dec prog_14_method_94_code 11 = some (.aload_n 0, 1) := by decide +kernel
theorem dm_feedOne_12 : mj_dec prog_14_method_94_code 12 = some (.getfield 501, 3) := by decide +kernel
theorem dm_feedOne_15 : mj_dec prog_14_method_94_code 15 = some (.iload_n 1, 1) := by decide +kernel
theorem dm_feedOne_16 : mj_dec prog_14_method_94_code 16 = some (.iload_n 2, 1) := by decide +kernel
theorem dm_feedOne_17 : mj_dec prog_14_method_94_code 17 = some (.ishr, 1) := by decide +kernel
theorem dm_feedOne_18 : mj_dec prog_14_method_94_code 18 = some (.i2b, 1) := by decide +kernel
theorem dm_feedOne_19 : mj_dec prog_14_method_94_code 19 = some (.bastore, 1) := by decide +kernel
theorem dm_feedOne_20 : mj_dec prog_14_method_94_code 20 = some (.aload_n 0, 1) := by decide +kernel
theorem dm_feedOne_21 : mj_dec prog_14_method_94_code 21 = some (.dup, 1) := by decide +kernel
theorem dm_feedOne_22 : mj_dec prog_14_method_94_code 22 = some (.getfield 501, 3) := by decide +kernel
theorem dm_feedOne_25 : mj_dec prog_14_method_94_code 25 = some (.iconst 1, 1) := by decide +kernel
theorem dm_feedOne_26 : mj_dec prog_14_method_94_code 26 = some (.iadd, 1) := by decide +kernel
theorem dm_feedOne_27 : mj_dec prog_14_method_94_code 27 = some (.putfield 501, 3) := by decide +kernel
theorem dm_feedOne_30 : mj_dec prog_14_method_94_code 30 = some (.iinc 2 (-8), 3) := by decide +kernel
theorem dm_feedOne_33 : mj_dec prog_14_method_94_code 33 = some (.goto (-30), 3) := by decide +kernel
theorem dm_feedOne_36 : mj_dec prog_14_method_94_code 36 = some (.return_, 1) := by decide +kernel
def lp_feedOne : Nat → Nat → (Nat → Int32) → (Nat → Int64) → (Nat → Nat → Int32) → (Nat → Nat → Int64) → (Nat → Int32) → (Nat → Int64) → Unit × (Nat → Int32) × (Nat → Int64) × (Nat → Nat → Int32) × (Nat → Nat → Int64)
  | 0, _, i, l, I, J, _, _ => ((), i, l, I, J)
  | n + 1, hd, i, l, I, J, v, w => match hd with
    | 3 => (if mj_cnd .lt (v 2) (0 : Int32) = true then ((), i, l, I, J) else lp_feedOne n 20 i l (va_up I 32 (upd (I 32) ((i 33)).toNatClampNeg (vp_nar .byte (((v 1) >>> ((v 2) &&& 31))).toInt8.toInt32))) J v w)
    | 20 => lp_feedOne n 3 (upd i 33 ((i 33) + (1 : Int32))) l I J (upd v 2 ((v 2) + Int32.ofInt (-8))) w
    | _ => ((), i, l, I, J)
theorem lb_feedOne_3 (n : Nat) (i : Nat → Int32) (l : Nat → Int64) (I : Nat → Nat → Int32) (J : Nat → Nat → Int64) (v : Nat → Int32) (w : Nat → Int64) : lp_feedOne (n + 1) 3 i l I J v w = (if mj_cnd .lt (v 2) (0 : Int32) = true then ((), i, l, I, J) else lp_feedOne n 20 i l (va_up I 32 (upd (I 32) ((i 33)).toNatClampNeg (vp_nar .byte (((v 1) >>> ((v 2) &&& 31))).toInt8.toInt32))) J v w) := rfl
theorem lb_feedOne_20 (n : Nat) (i : Nat → Int32) (l : Nat → Int64) (I : Nat → Nat → Int32) (J : Nat → Nat → Int64) (v : Nat → Int32) (w : Nat → Int64) : lp_feedOne (n + 1) 20 i l I J v w = lp_feedOne n 3 (upd i 33 ((i 33) + (1 : Int32))) l I J (upd v 2 ((v 2) + Int32.ofInt (-8))) w := rfl
def okl_feedOne : Nat → Nat → (Nat → Int32) → (Nat → Int64) → (Nat → Nat → Int32) → (Nat → Nat → Int64) → (Nat → Int32) → (Nat → Int64) → Prop
  | 0, _, _, _, _, _, _, _ => False
  | n + 1, hd, i, l, I, J, v, w => match hd with
    | 3 => (if mj_cnd .lt (v 2) (0 : Int32) = true then True else (¬ ((i 33) < 0 ∨ 220 ≤ ((i 33)).toNatClampNeg) ∧ okl_feedOne n 20 i l (va_up I 32 (upd (I 32) ((i 33)).toNatClampNeg (vp_nar .byte (((v 1) >>> ((v 2) &&& 31))).toInt8.toInt32))) J v w))
    | 20 => okl_feedOne n 3 (upd i 33 ((i 33) + (1 : Int32))) l I J (upd v 2 ((v 2) + Int32.ofInt (-8))) w
    | _ => False
def s_feedOne (n : Nat) (i : Nat → Int32) (l : Nat → Int64) (I : Nat → Nat → Int32) (J : Nat → Nat → Int64) (p0 : Int32) : Unit × (Nat → Int32) × (Nat → Int64) × (Nat → Nat → Int32) × (Nat → Nat → Int64) := lp_feedOne n 3 i l I J (upd (upd (fun _ => 0) 1 p0) 2 (24 : Int32)) (fun _ => 0)
def ok_feedOne (n : Nat) (i : Nat → Int32) (l : Nat → Int64) (I : Nat → Nat → Int32) (J : Nat → Nat → Int64) (p0 : Int32) : Prop := okl_feedOne n 3 i l I J (upd (upd (fun _ => 0) 1 p0) 2 (24 : Int32)) (fun _ => 0)
set_option maxRecDepth 20000 in
theorem ql_feedOne {xt : mj_X} {pre post : mj_H} {m : Nat} {d : Nat} (hm : pre.length = m) (h2 : 2 ≤ m) : ∀ n : Nat, (∀ i l I J v w, okl_feedOne n 3 i l I J v w → mjR (fun N => mj_call (mj_mmof pg_ms) (mj_TTof pg_TL) xt pg_tl 2 (d + 0) N) (mj_TTof pg_TL 12).1 (mj_TTof pg_TL 12).2 xt pg_tl 2 3 (d + 0) false (Option.none : Option Jvm.ClassFile.FieldType) (mj_dec prog_14_method_94_code) 3 [(0, .ref m), (1, .int (v 1)), (2, .int (v 2))] [] (rH pre post m i l I J) none (rH pre post m (lp_feedOne n 3 i l I J v w).2.1 (lp_feedOne n 3 i l I J v w).2.2.1 (lp_feedOne n 3 i l I J v w).2.2.2.1 (lp_feedOne n 3 i l I J v w).2.2.2.2)) ∧ (∀ i l I J v w, okl_feedOne n 20 i l I J v w → mjR (fun N => mj_call (mj_mmof pg_ms) (mj_TTof pg_TL) xt pg_tl 2 (d + 0) N) (mj_TTof pg_TL 12).1 (mj_TTof pg_TL 12).2 xt pg_tl 2 3 (d + 0) false (Option.none : Option Jvm.ClassFile.FieldType) (mj_dec prog_14_method_94_code) 20 [(0, .ref m), (1, .int (v 1)), (2, .int (v 2))] [] (rH pre post m i l I J) none (rH pre post m (lp_feedOne n 20 i l I J v w).2.1 (lp_feedOne n 20 i l I J v w).2.2.1 (lp_feedOne n 20 i l I J v w).2.2.2.1 (lp_feedOne n 20 i l I J v w).2.2.2.2)) := by
  intro n
  induction n with
  | zero => exact ⟨fun i l I J v w h => absurd h id, fun i l I J v w h => absurd h id⟩
  | succ n ih =>
    refine ⟨?_, ?_⟩
    · intro i l I J v w hok
      have hok : (if mj_cnd .lt (v 2) (0 : Int32) = true then True else (¬ ((i 33) < 0 ∨ 220 ≤ ((i 33)).toNatClampNeg) ∧ okl_feedOne n 20 i l (va_up I 32 (upd (I 32) ((i 33)).toNatClampNeg (vp_nar .byte (((v 1) >>> ((v 2) &&& 31))).toInt8.toInt32))) J v w)) := hok
      refine ms1 dm_feedOne_3 rfl rfl rfl rfl ?_
      refine ms_1c dm_feedOne_4 rfl rfl (fun hb1 => ?_) (fun hb1 => ?_)
      · have hb1 : mj_cnd .lt (v 2) (0 : Int32) = true := hb1
        rw [if_pos hb1] at hok
        have he : lp_feedOne (n + 1) 3 i l I J v w = ((), i, l, I, J) := by
          rw [lb_feedOne_3]
          simp only [hb1, Bool.false_eq_true, if_true, if_false]
        rw [he]
        exact ms5 dm_feedOne_36 rfl rfl rfl
      · have hb1 : ¬ (mj_cnd .lt (v 2) (0 : Int32) = true) := hb1
        rw [if_neg hb1] at hok
        refine ms1 dm_feedOne_7 rfl rfl rfl rfl ?_
        refine ms3 dm_feedOne_8 (r_get hm h2 rfl (rg_32 _ _ _)) rfl rfl rfl ?_
        refine ms1 dm_feedOne_11 rfl rfl rfl rfl ?_
        refine ms3 dm_feedOne_12 (r_get (v := .int (i 33)) hm h2 rfl (rg_33 _ _ _)) rfl rfl rfl ?_
        refine ms1 dm_feedOne_15 rfl rfl rfl rfl ?_
        refine ms1 dm_feedOne_16 rfl rfl rfl rfl ?_
        refine ms0 dm_feedOne_17 rfl rfl rfl rfl ?_
        refine ms0 dm_feedOne_18 rfl rfl rfl rfl ?_
        obtain ⟨ho, hok⟩ := hok
        refine ms3 dm_feedOne_19 (r_bastk (k := 32) hm h2 (rc_32 _ _ _ _ _) rfl ho (rs_32 _ _ _ _ _ _)) rfl rfl rfl ?_
        have he : lp_feedOne (n + 1) 3 i l I J v w = lp_feedOne n 20 i l (va_up I 32 (upd (I 32) ((i 33)).toNatClampNeg (vp_nar .byte (((v 1) >>> ((v 2) &&& 31))).toInt8.toInt32))) J v w := by
          rw [lb_feedOne_3]
          simp only [hb1, Bool.false_eq_true, if_true, if_false]
        rw [he]
        exact mjR_sub rfl rfl rfl (ih.2 _ _ _ _ _ _ hok)
    · intro i l I J v w hok
      have hok : okl_feedOne n 3 (upd i 33 ((i 33) + (1 : Int32))) l I J (upd v 2 ((v 2) + Int32.ofInt (-8))) w := hok
      refine ms1 dm_feedOne_20 rfl rfl rfl rfl ?_
      refine ms0 dm_feedOne_21 rfl rfl rfl rfl ?_
      refine ms3 dm_feedOne_22 (r_get (v := .int (i 33)) hm h2 rfl (rg_33 _ _ _)) rfl rfl rfl ?_
      refine ms0 (S' := .int (1 : Int32) :: _) dm_feedOne_25 rfl rfl rfl rfl ?_
      refine ms0 dm_feedOne_26 rfl rfl rfl rfl ?_
      refine ms3 dm_feedOne_27 (r_puti hm h2 rfl (rF_lt 33 rfl) (rf_33 _ _ _ _)) rfl rfl rfl ?_
      refine ms1 dm_feedOne_30 rfl rfl rfl rfl ?_
      refine ms2 dm_feedOne_33 rfl rfl rfl ?_
      have he : lp_feedOne (n + 1) 20 i l I J v w = lp_feedOne n 3 (upd i 33 ((i 33) + (1 : Int32))) l I J (upd v 2 ((v 2) + Int32.ofInt (-8))) w := by
        rw [lb_feedOne_20]
      rw [he]
      exact mjR_sub rfl rfl rfl (ih.1 _ _ _ _ _ _ hok)
set_option maxRecDepth 20000 in
theorem q_feedOne {xt : mj_X} {pre post : mj_H} {m : Nat} {i : Nat → Int32} {l : Nat → Int64} {I : Nat → Nat → Int32} {J : Nat → Nat → Int64} {d : Nat} (hm : pre.length = m) (h2 : 2 ≤ m) {p0 : Int32} {n : Nat} (hok : ok_feedOne n i l I J p0) : pgC xt (d + 1) k_feedOne (.ref m :: [.int p0]) (rH pre post m i l I J) none (rH pre post m (s_feedOne n i l I J p0).2.1 (s_feedOne n i l I J p0).2.2.1 (s_feedOne n i l I J p0).2.2.2.1 (s_feedOne n i l I J p0).2.2.2.2) := by
  unfold ok_feedOne at hok
  refine ms_call pm_feedOne (Nat.le_of_ble_eq_true rfl) ?_
  dsimp only
  refine ms0 (S' := .int (24 : Int32) :: _) dm_feedOne_0 rfl rfl rfl rfl ?_
  refine ms1 dm_feedOne_2 rfl rfl rfl rfl ?_
  have he : s_feedOne n i l I J p0 = lp_feedOne n 3 i l I J (upd (upd (fun _ => 0) 1 p0) 2 (24 : Int32)) (fun _ => 0) := by
    unfold s_feedOne
    rfl
  rw [he]
  exact mjR_sub rfl rfl rfl ((ql_feedOne hm h2 n).1 _ _ _ _ _ _ hok)
def k_byteAt : Nat := 202
set_option maxRecDepth 20000 in
theorem pm_byteAt : mj_mmof pg_ms k_byteAt = some ((⟨"ArrayCalculatorModel", "byteAt", "(I)I"⟩, prog_14_method_68_code, 2, (Option.some Jvm.ClassFile.FieldType.int)), 12, false, mj_dec prog_14_method_68_code) := rfl
theorem dm_byteAt_0 : mj_dec prog_14_method_68_code 0 = some (.iload_n 1, 1) := by decide +kernel
theorem dm_byteAt_1 : mj_dec prog_14_method_68_code 1 = some (.aload_n 0, 1) := by decide +kernel
theorem dm_byteAt_2 : mj_dec prog_14_method_68_code 2 = some (.getfield 370, 3) := by decide +kernel
theorem dm_byteAt_5 : mj_dec prog_14_method_68_code 5 = some (.if_icmp .ge 16, 3) := by decide +kernel
theorem dm_byteAt_8 : mj_dec prog_14_method_68_code 8 = some (.aload_n 0, 1) := by decide +kernel
theorem dm_byteAt_9 : mj_dec prog_14_method_68_code 9 = some (.getfield 71, 3) := by decide +kernel
theorem dm_byteAt_12 : mj_dec prog_14_method_68_code 12 = some (.iload_n 1, 1) := by decide +kernel
theorem dm_byteAt_13 : mj_dec prog_14_method_68_code 13 = some (.baload, 1) := by decide +kernel
theorem dm_byteAt_14 : mj_dec prog_14_method_68_code 14 = some (.sipush 255, 3) := by decide +kernel
theorem dm_byteAt_17 : mj_dec prog_14_method_68_code 17 = some (.iand, 1) := by decide +kernel
theorem dm_byteAt_18 : mj_dec prog_14_method_68_code 18 = some (.goto 4, 3) := by decide +kernel
theorem dm_byteAt_21 : mj_dec prog_14_method_68_code 21 = some (.iconst 0, 1) := by decide +kernel
theorem dm_byteAt_22 : mj_dec prog_14_method_68_code 22 = some (.ireturn, 1) := by decide +kernel
def a_byteAt (i : Nat → Int32) (l : Nat → Int64) (I : Nat → Nat → Int32) (J : Nat → Nat → Int64) (p0 : Int32) : Int32 := (if mj_cnd .ge p0 (i 34) = true then (0 : Int32) else ((I 32 (p0).toNatClampNeg) &&& (255 : Int32)))
def ok_byteAt (i : Nat → Int32) (l : Nat → Int64) (I : Nat → Nat → Int32) (J : Nat → Nat → Int64) (p0 : Int32) : Prop := (if mj_cnd .ge p0 (i 34) = true then True else (¬ (p0 < 0 ∨ 220 ≤ (p0).toNatClampNeg) ∧ True))
set_option maxRecDepth 20000 in
theorem q_byteAt {xt : mj_X} {pre post : mj_H} {m : Nat} {i : Nat → Int32} {l : Nat → Int64} {I : Nat → Nat → Int32} {J : Nat → Nat → Int64} {d : Nat} (hm : pre.length = m) (h2 : 2 ≤ m) {p0 : Int32} (hok : ok_byteAt i l I J p0) : pgC xt (d + 1) k_byteAt (.ref m :: [.int p0]) (rH pre post m i l I J) (some (.int (a_byteAt i l I J p0))) (rH pre post m i l I J) := by
  unfold ok_byteAt at hok
  refine ms_call pm_byteAt (Nat.le_of_ble_eq_true rfl) ?_
  dsimp only
  refine ms1 dm_byteAt_0 rfl rfl rfl rfl ?_
  refine ms1 dm_byteAt_1 rfl rfl rfl rfl ?_
  refine ms3 dm_byteAt_2 (r_get (v := .int (i 34)) hm h2 rfl (rg_34 _ _ _)) rfl rfl rfl ?_
  refine ms_2c dm_byteAt_5 rfl rfl (fun hb1 => ?_) (fun hb1 => ?_)
  · have hb1 : mj_cnd .ge p0 (i 34) = true := hb1
    rw [if_pos hb1] at hok
    refine ms0 (S' := .int (0 : Int32) :: _) dm_byteAt_21 rfl rfl rfl rfl ?_
    simp only [a_byteAt, hb1, Bool.false_eq_true, if_true, if_false]
    exact ms5 dm_byteAt_22 rfl rfl rfl
  · have hb1 : ¬ (mj_cnd .ge p0 (i 34) = true) := hb1
    rw [if_neg hb1] at hok
    refine ms1 dm_byteAt_8 rfl rfl rfl rfl ?_
    refine ms3 dm_byteAt_9 (r_get hm h2 rfl (rg_32 _ _ _)) rfl rfl rfl ?_
    refine ms1 dm_byteAt_12 rfl rfl rfl rfl ?_
    obtain ⟨ho, hok⟩ := hok
    refine ms3 dm_byteAt_13 (r_bald hm h2 (rc_32 _ _ _ _ _) rfl ho) rfl rfl rfl ?_
    refine ms0 (S' := .int (255 : Int32) :: _) dm_byteAt_14 rfl rfl rfl rfl ?_
    refine ms0 dm_byteAt_17 rfl rfl rfl rfl ?_
    refine ms2 dm_byteAt_18 rfl rfl rfl ?_
    simp only [a_byteAt, hb1, Bool.false_eq_true, if_true, if_false]
    exact ms5 dm_byteAt_22 rfl rfl rfl
def k_isDigit : Nat := 203
set_option maxRecDepth 20000 in
theorem pm_isDigit : mj_mmof pg_ms k_isDigit = some ((⟨"ArrayCalculatorModel", "isDigit", "(I)Z"⟩, prog_14_method_69_code, 2, (Option.some Jvm.ClassFile.FieldType.boolean)), 12, false, mj_dec prog_14_method_69_code) := rfl
theorem dm_isDigit_0 : mj_dec prog_14_method_69_code 0 = some (.aload_n 0, 1) := by decide +kernel
theorem dm_isDigit_1 : mj_dec prog_14_method_69_code 1 = some (.iload_n 1, 1) := by decide +kernel
theorem dm_isDigit_2 : mj_dec prog_14_method_69_code 2 = some (.invokevirtual 373, 3) := by decide +kernel
theorem dm_isDigit_5 : mj_dec prog_14_method_69_code 5 = some (.bipush 48, 2) := by decide +kernel
theorem dm_isDigit_7 : mj_dec prog_14_method_69_code 7 = some (.if_icmp .lt 17, 3) := by decide +kernel
theorem dm_isDigit_10 : mj_dec prog_14_method_69_code 10 = some (.aload_n 0, 1) := by decide +kernel
theorem dm_isDigit_11 : mj_dec prog_14_method_69_code 11 = some (.iload_n 1, 1) := by decide +kernel
theorem dm_isDigit_12 : mj_dec prog_14_method_69_code 12 = some (.invokevirtual 373, 3) := by decide +kernel
theorem dm_isDigit_15 : mj_dec prog_14_method_69_code 15 = some (.bipush 57, 2) := by decide +kernel
theorem dm_isDigit_17 : mj_dec prog_14_method_69_code 17 = some (.if_icmp .gt 7, 3) := by decide +kernel
theorem dm_isDigit_20 : mj_dec prog_14_method_69_code 20 = some (.iconst 1, 1) := by decide +kernel
theorem dm_isDigit_21 : mj_dec prog_14_method_69_code 21 = some (.goto 4, 3) := by decide +kernel
theorem dm_isDigit_24 : mj_dec prog_14_method_69_code 24 = some (.iconst 0, 1) := by decide +kernel
theorem dm_isDigit_25 : mj_dec prog_14_method_69_code 25 = some (.ireturn, 1) := by decide +kernel
def a_isDigit (i : Nat → Int32) (l : Nat → Int64) (I : Nat → Nat → Int32) (J : Nat → Nat → Int64) (p0 : Int32) : Int32 := (if mj_cnd .lt (a_byteAt i l I J p0) (48 : Int32) = true then (0 : Int32) else (if mj_cnd .gt (a_byteAt i l I J p0) (57 : Int32) = true then (0 : Int32) else (1 : Int32)))
def ok_isDigit (i : Nat → Int32) (l : Nat → Int64) (I : Nat → Nat → Int32) (J : Nat → Nat → Int64) (p0 : Int32) : Prop := (ok_byteAt i l I J p0 ∧ (if mj_cnd .lt (a_byteAt i l I J p0) (48 : Int32) = true then True else (ok_byteAt i l I J p0 ∧ True)))
set_option maxRecDepth 20000 in
theorem q_isDigit {xt : mj_X} {pre post : mj_H} {m : Nat} {i : Nat → Int32} {l : Nat → Int64} {I : Nat → Nat → Int32} {J : Nat → Nat → Int64} {d : Nat} (hm : pre.length = m) (h2 : 2 ≤ m) {p0 : Int32} (hok : ok_isDigit i l I J p0) : pgC xt (d + 2) k_isDigit (.ref m :: [.int p0]) (rH pre post m i l I J) (some (.int (a_isDigit i l I J p0))) (rH pre post m i l I J) := by
  unfold ok_isDigit at hok
  refine ms_call pm_isDigit (Nat.le_of_ble_eq_true rfl) ?_
  dsimp only
  refine ms1 dm_isDigit_0 rfl rfl rfl rfl ?_
  refine ms1 dm_isDigit_1 rfl rfl rfl rfl ?_
  obtain ⟨ho, hok⟩ := hok
  refine ms4 dm_isDigit_2 rfl (r_inv (As := [.int p0]) hm h2 rfl rfl rfl) (q_byteAt hm h2 ho) rfl rfl rfl ?_
  refine ms0 (S' := .int (48 : Int32) :: _) dm_isDigit_5 rfl rfl rfl rfl ?_
  refine ms_2c dm_isDigit_7 rfl rfl (fun hb1 => ?_) (fun hb1 => ?_)
  · have hb1 : mj_cnd .lt (a_byteAt i l I J p0) (48 : Int32) = true := hb1
    rw [if_pos hb1] at hok
    refine ms0 (S' := .int (0 : Int32) :: _) dm_isDigit_24 rfl rfl rfl rfl ?_
    simp only [a_isDigit, hb1, Bool.false_eq_true, if_true, if_false]
    exact ms5 dm_isDigit_25 rfl rfl rfl
  · have hb1 : ¬ (mj_cnd .lt (a_byteAt i l I J p0) (48 : Int32) = true) := hb1
    rw [if_neg hb1] at hok
    refine ms1 dm_isDigit_10 rfl rfl rfl rfl ?_
    refine ms1 dm_isDigit_11 rfl rfl rfl rfl ?_
    obtain ⟨ho, hok⟩ := hok
    refine ms4 dm_isDigit_12 rfl (r_inv (As := [.int p0]) hm h2 rfl rfl rfl) (q_byteAt hm h2 ho) rfl rfl rfl ?_
    refine ms0 (S' := .int (57 : Int32) :: _) dm_isDigit_15 rfl rfl rfl rfl ?_
    refine ms_2c dm_isDigit_17 rfl rfl (fun hb2 => ?_) (fun hb2 => ?_)
    · have hb2 : mj_cnd .gt (a_byteAt i l I J p0) (57 : Int32) = true := hb2
      refine ms0 (S' := .int (0 : Int32) :: _) dm_isDigit_24 rfl rfl rfl rfl ?_
      simp only [a_isDigit, hb1, hb2, Bool.false_eq_true, if_true, if_false]
      exact ms5 dm_isDigit_25 rfl rfl rfl
    · have hb2 : ¬ (mj_cnd .gt (a_byteAt i l I J p0) (57 : Int32) = true) := hb2
      refine ms0 (S' := .int (1 : Int32) :: _) dm_isDigit_20 rfl rfl rfl rfl ?_
      refine ms2 dm_isDigit_21 rfl rfl rfl ?_
      simp only [a_isDigit, hb1, hb2, Bool.false_eq_true, if_true, if_false]
      exact ms5 dm_isDigit_25 rfl rfl rfl
def k_isLetter : Nat := 205
set_option maxRecDepth 20000 in
theorem pm_isLetter : mj_mmof pg_ms k_isLetter = some ((⟨"ArrayCalculatorModel", "isLetter", "(I)Z"⟩, prog_14_method_70_code, 2, (Option.some Jvm.ClassFile.FieldType.boolean)), 12, false, mj_dec prog_14_method_70_code) := rfl
theorem dm_isLetter_0 : mj_dec prog_14_method_70_code 0 = some (.aload_n 0, 1) := by decide +kernel
theorem dm_isLetter_1 : mj_dec prog_14_method_70_code 1 = some (.iload_n 1, 1) := by decide +kernel
theorem dm_isLetter_2 : mj_dec prog_14_method_70_code 2 = some (.invokevirtual 373, 3) := by decide +kernel
theorem dm_isLetter_5 : mj_dec prog_14_method_70_code 5 = some (.bipush 97, 2) := by decide +kernel
theorem dm_isLetter_7 : mj_dec prog_14_method_70_code 7 = some (.if_icmp .lt 17, 3) := by decide +kernel
theorem dm_isLetter_10 : mj_dec prog_14_method_70_code 10 = some (.aload_n 0, 1) := by decide +kernel
theorem dm_isLetter_11 : mj_dec prog_14_method_70_code 11 = some (.iload_n 1, 1) := by decide +kernel
theorem dm_isLetter_12 : mj_dec prog_14_method_70_code 12 = some (.invokevirtual 373, 3) := by decide +kernel
theorem dm_isLetter_15 : mj_dec prog_14_method_70_code 15 = some (.bipush 122, 2) := by decide +kernel
theorem dm_isLetter_17 : mj_dec prog_14_method_70_code 17 = some (.if_icmp .gt 7, 3) := by decide +kernel
theorem dm_isLetter_20 : mj_dec prog_14_method_70_code 20 = some (.iconst 1, 1) := by decide +kernel
theorem dm_isLetter_21 : mj_dec prog_14_method_70_code 21 = some (.goto 4, 3) := by decide +kernel
theorem dm_isLetter_24 : mj_dec prog_14_method_70_code 24 = some (.iconst 0, 1) := by decide +kernel
theorem dm_isLetter_25 : mj_dec prog_14_method_70_code 25 = some (.ireturn, 1) := by decide +kernel
def a_isLetter (i : Nat → Int32) (l : Nat → Int64) (I : Nat → Nat → Int32) (J : Nat → Nat → Int64) (p0 : Int32) : Int32 := (if mj_cnd .lt (a_byteAt i l I J p0) (97 : Int32) = true then (0 : Int32) else (if mj_cnd .gt (a_byteAt i l I J p0) (122 : Int32) = true then (0 : Int32) else (1 : Int32)))
def ok_isLetter (i : Nat → Int32) (l : Nat → Int64) (I : Nat → Nat → Int32) (J : Nat → Nat → Int64) (p0 : Int32) : Prop := (ok_byteAt i l I J p0 ∧ (if mj_cnd .lt (a_byteAt i l I J p0) (97 : Int32) = true then True else (ok_byteAt i l I J p0 ∧ True)))
set_option maxRecDepth 20000 in
theorem q_isLetter {xt : mj_X} {pre post : mj_H} {m : Nat} {i : Nat → Int32} {l : Nat → Int64} {I : Nat → Nat → Int32} {J : Nat → Nat → Int64} {d : Nat} (hm : pre.length = m) (h2 : 2 ≤ m) {p0 : Int32} (hok : ok_isLetter i l I J p0) : pgC xt (d + 2) k_isLetter (.ref m :: [.int p0]) (rH pre post m i l I J) (some (.int (a_isLetter i l I J p0))) (rH pre post m i l I J) := by
  unfold ok_isLetter at hok
  refine ms_call pm_isLetter (Nat.le_of_ble_eq_true rfl) ?_
  dsimp only
  refine ms1 dm_isLetter_0 rfl rfl rfl rfl ?_
  refine ms1 dm_isLetter_1 rfl rfl rfl rfl ?_
  obtain ⟨ho, hok⟩ := hok
  refine ms4 dm_isLetter_2 rfl (r_inv (As := [.int p0]) hm h2 rfl rfl rfl) (q_byteAt hm h2 ho) rfl rfl rfl ?_
  refine ms0 (S' := .int (97 : Int32) :: _) dm_isLetter_5 rfl rfl rfl rfl ?_
  refine ms_2c dm_isLetter_7 rfl rfl (fun hb1 => ?_) (fun hb1 => ?_)
  · have hb1 : mj_cnd .lt (a_byteAt i l I J p0) (97 : Int32) = true := hb1
    rw [if_pos hb1] at hok
    refine ms0 (S' := .int (0 : Int32) :: _) dm_isLetter_24 rfl rfl rfl rfl ?_
    simp only [a_isLetter, hb1, Bool.false_eq_true, if_true, if_false]
    exact ms5 dm_isLetter_25 rfl rfl rfl
  · have hb1 : ¬ (mj_cnd .lt (a_byteAt i l I J p0) (97 : Int32) = true) := hb1
    rw [if_neg hb1] at hok
    refine ms1 dm_isLetter_10 rfl rfl rfl rfl ?_
    refine ms1 dm_isLetter_11 rfl rfl rfl rfl ?_
    obtain ⟨ho, hok⟩ := hok
    refine ms4 dm_isLetter_12 rfl (r_inv (As := [.int p0]) hm h2 rfl rfl rfl) (q_byteAt hm h2 ho) rfl rfl rfl ?_
    refine ms0 (S' := .int (122 : Int32) :: _) dm_isLetter_15 rfl rfl rfl rfl ?_
    refine ms_2c dm_isLetter_17 rfl rfl (fun hb2 => ?_) (fun hb2 => ?_)
    · have hb2 : mj_cnd .gt (a_byteAt i l I J p0) (122 : Int32) = true := hb2
      refine ms0 (S' := .int (0 : Int32) :: _) dm_isLetter_24 rfl rfl rfl rfl ?_
      simp only [a_isLetter, hb1, hb2, Bool.false_eq_true, if_true, if_false]
      exact ms5 dm_isLetter_25 rfl rfl rfl
    · have hb2 : ¬ (mj_cnd .gt (a_byteAt i l I J p0) (122 : Int32) = true) := hb2
      refine ms0 (S' := .int (1 : Int32) :: _) dm_isLetter_20 rfl rfl rfl rfl ?_
      refine ms2 dm_isLetter_21 rfl rfl rfl ?_
      simp only [a_isLetter, hb1, hb2, Bool.false_eq_true, if_true, if_false]
      exact ms5 dm_isLetter_25 rfl rfl rfl
def k_letters : Nat := 206
set_option maxRecDepth 20000 in
theorem pm_letters : mj_mmof pg_ms k_letters = some ((⟨"ArrayCalculatorModel", "letters", "()V"⟩, prog_14_method_75_code, 2, (Option.none : Option Jvm.ClassFile.FieldType)), 12, false, mj_dec prog_14_method_75_code) := rfl
theorem dm_letters_0 : mj_dec prog_14_method_75_code 0 = some (.aload_n 0, 1) := by decide +kernel
theorem dm_letters_1 : mj_dec prog_14_method_75_code 1 = some (.lconst 0, 1) := by decide +kernel
theorem dm_letters_2 : mj_dec prog_14_method_75_code 2 = some (.putfield 417, 3) := by decide +kernel
theorem dm_letters_5 : mj_dec prog_14_method_75_code 5 = some (.iconst 0, 1) := by decide +kernel
theorem dm_letters_6 : mj_dec prog_14_method_75_code 6 = some (.istore_n 1, 1) := by decide +kernel
theorem dm_letters_7 : mj_dec prog_14_method_75_code 7 = some (.iload_n 1, 1) := by decide +kernel
theorem dm_letters_8 : mj_dec prog_14_method_75_code 8 = some (.bipush 8, 2) := by decide +kernel
theorem dm_letters_10 : mj_dec prog_14_method_75_code 10 = some (.if_icmp .ge 51, 3) := by decide +kernel
theorem dm_letters_13 : mj_dec prog_14_method_75_code 13 = some (.aload_n 0, 1) := by decide +kernel
theorem dm_letters_14 : mj_dec prog_14_method_75_code 14 = some (.aload_n 0, 1) := by decide +kernel
theorem dm_letters_15 : mj_dec prog_14_method_75_code 15 = some (.getfield 383, 3) := by decide +kernel
theorem dm_letters_18 : mj_dec prog_14_method_75_code 18 = some (.invokevirtual 396, 3) := by decide +kernel
theorem dm_letters_21 : mj_dec prog_14_method_75_code 21 = some (.ifCond .eq 40, 3) := by decide +kernel
theorem dm_letters_24 : mj_dec prog_14_method_75_code 24 = some (.aload_n 0, 1) := by decide +kernel
theorem dm_letters_25 : mj_dec prog_14_method_75_code 25 = some (.aload_n 0, 1) := by decide +kernel
theorem dm_letters_26 : mj_dec prog_14_method_75_code 26 = some (.getfield 417, 3) := by decide +kernel
theorem dm_letters_29 : mj_dec prog_14_method_75_code 29 = some (.bipush 8, 2) := by decide +kernel
theorem dm_letters_31 : mj_dec prog_14_method_75_code 31 = some (.lshl, 1) := by decide +kernel
theorem dm_letters_32 : mj_dec prog_14_method_75_code 32 = some (.aload_n 0, 1) := by decide +kernel
theorem dm_letters_33 : mj_dec prog_14_method_75_code 33 = some (.aload_n 0, 1) := by decide +kernel
theorem dm_letters_34 : mj_dec prog_14_method_75_code 34 = some (.getfield 383, 3) := by decide +kernel
theorem dm_letters_37 : mj_dec prog_14_method_75_code 37 = some (.invokevirtual 373, 3) := by decide +kernel
theorem dm_letters_40 : mj_dec prog_14_method_75_code 40 = some (.i2l, 1) := by decide +kernel
theorem dm_letters_41 : mj_dec prog_14_method_75_code 41 = some (.lor, 1) := by decide +kernel
theorem dm_letters_42 : mj_dec prog_14_method_75_code 42 = some (.putfield 417, 3) := by decide +kernel
theorem dm_letters_45 : mj_dec prog_14_method_75_code 45 = some (.aload_n 0, 1) := by decide +kernel
theorem dm_letters_46 : mj_dec prog_14_method_75_code 46 = some (.dup, 1) := by decide +kernel
theorem dm_letters_47 : mj_dec prog_14_method_75_code 47 = some (.getfield 383, 3) := by decide +kernel
theorem dm_letters_50 : mj_dec prog_14_method_75_code 50 = some (.iconst 1, 1) := by decide +kernel
theorem dm_letters_51 : mj_dec prog_14_method_75_code 51 = some (.iadd, 1) := by decide +kernel
theorem dm_letters_52 : mj_dec prog_14_method_75_code 52 = some (.putfield 383, 3) := by decide +kernel
theorem dm_letters_55 : mj_dec prog_14_method_75_code 55 = some (.iinc 1 1, 3) := by decide +kernel
theorem dm_letters_58 : mj_dec prog_14_method_75_code 58 = some (.goto (-51), 3) := by decide +kernel
theorem dm_letters_61 : mj_dec prog_14_method_75_code 61 = some (.aload_n 0, 1) := by decide +kernel
theorem dm_letters_62 : mj_dec prog_14_method_75_code 62 = some (.aload_n 0, 1) := by decide +kernel
theorem dm_letters_63 : mj_dec prog_14_method_75_code 63 = some (.aload_n 0, 1) := by decide +kernel
theorem dm_letters_64 : mj_dec prog_14_method_75_code 64 = some (.getfield 383, 3) := by decide +kernel
theorem dm_letters_67 : mj_dec prog_14_method_75_code 67 = some (.invokevirtual 389, 3) := by decide +kernel
theorem dm_letters_70 : mj_dec prog_14_method_75_code 70 = some (.ifCond .ne 14, 3) := by decide +kernel
theorem dm_letters_73 : mj_dec prog_14_method_75_code 73 = some (.aload_n 0, 1) := by decide +kernel
theorem dm_letters_74 : mj_dec prog_14_method_75_code 74 = some (.aload_n 0, 1) := by decide +kernel
theorem dm_letters_75 : mj_dec prog_14_method_75_code 75 = some (.getfield 383, 3) := by decide +kernel
theorem dm_letters_78 : mj_dec prog_14_method_75_code 78 = some (.invokevirtual 396, 3) := by decide +kernel
theorem dm_letters_81 : mj_dec prog_14_method_75_code 81 = some (.ifCond .eq 7, 3) := by decide +kernel
theorem dm_letters_84 : mj_dec prog_14_method_75_code 84 = some (.iconst 1, 1) := by decide +kernel
theorem dm_letters_85 : mj_dec prog_14_method_75_code 85 = some (.goto 4, 3) := by decide +kernel
theorem dm_letters_88 : mj_dec prog_14_method_75_code 88 = some (.iconst 0, 1) := by decide +kernel
theorem dm_letters_89 : mj_dec prog_14_method_75_code 89 = some (.putfield 376, 3) := by decide +kernel
theorem dm_letters_92 : mj_dec prog_14_method_75_code 92 = some (.aload_n 0, 1) := by decide +kernel
theorem dm_letters_93 : mj_dec prog_14_method_75_code 93 = some (.getfield 417, 3) := by decide +kernel
theorem dm_letters_96 : mj_dec prog_14_method_75_code 96 = some (.aload_n 0, 1) := by decide +kernel
theorem dm_letters_97 : mj_dec prog_14_method_75_code 97 = some (.getfield 421, 3) := by decide +kernel
theorem dm_letters_100 : mj_dec prog_14_method_75_code 100 = some (.lcmp, 1) := by decide +kernel
theorem dm_letters_101 : mj_dec prog_14_method_75_code 101 = some (.ifCond .eq 14, 3) := by decide +kernel
theorem dm_letters_104 : mj_dec prog_14_method_75_code 104 = some (.aload_n 0, 1) := by decide +kernel
theorem dm_letters_105 : mj_dec prog_14_method_75_code 105 = some (.aload_n 0, 1) := by decide +kernel
theorem dm_letters_106 : mj_dec prog_14_method_75_code 106 = some (.getfield 417, 3) := by decide +kernel
theorem dm_letters_109 : mj_dec prog_14_method_75_code 109 = some (.invokevirtual 363, 3) := by decide +kernel
theorem dm_letters_112 : mj_dec prog_14_method_75_code 112 = some (.ifCond .lt 7, 3) := by decide +kernel
theorem dm_letters_115 : mj_dec prog_14_method_75_code 115 = some (.iconst 1, 1) := by decide +kernel
theorem dm_letters_116 : mj_dec prog_14_method_75_code 116 = some (.goto 4, 3) := by decide +kernel
theorem dm_letters_119 : mj_dec prog_14_method_75_code 119 = some (.iconst 0, 1) := by decide +kernel
theorem dm_letters_120 : mj_dec prog_14_method_75_code 120 = some (.istore_n 1, 1) := by decide +kernel
theorem dm_letters_121 : mj_dec prog_14_method_75_code 121 = some (.aload_n 0, 1) := by decide +kernel
theorem dm_letters_122 : mj_dec prog_14_method_75_code 122 = some (.iload_n 1, 1) := by decide +kernel
theorem dm_letters_123 : mj_dec prog_14_method_75_code 123 = some (.ifCond .eq 7, 3) := by decide +kernel
theorem dm_letters_126 : mj_dec prog_14_method_75_code 126 = some (.iconst 4, 1) := by decide +kernel
theorem dm_letters_127 : mj_dec prog_14_method_75_code 127 = some (.goto 4, 3) := by decide +kernel
theorem dm_letters_130 : mj_dec prog_14_method_75_code 130 = some (.iconst 3, 1) := by decide +kernel
theorem dm_letters_131 : mj_dec prog_14_method_75_code 131 = some (.putfield 380, 3) := by decide +kernel
theorem dm_letters_134 : mj_dec prog_14_method_75_code 134 = some (.iload_n 1, 1) := by decide +kernel
theorem dm_letters_135 : mj_dec prog_14_method_75_code 135 = some (.ifCond .eq 11, 3) := by decide +kernel
theorem dm_letters_138 : mj_dec prog_14_method_75_code 138 = some (.aload_n 0, 1) := by decide +kernel
theorem dm_letters_139 : mj_dec prog_14_method_75_code 139 = some (.aload_n 0, 1) := by decide +kernel
theorem dm_letters_140 : mj_dec prog_14_method_75_code 140 = some (.getfield 383, 3) := by decide +kernel
theorem dm_letters_143 : mj_dec prog_14_method_75_code 143 = some (.putfield 402, 3) := by decide +kernel
theorem dm_letters_146 : mj_dec prog_14_method_75_code 146 = some (.return_, 1) := by decide +kernel
def lp_letters : Nat → Nat → (Nat → Int32) → (Nat → Int64) → (Nat → Nat → Int32) → (Nat → Nat → Int64) → (Nat → Int32) → (Nat → Int64) → Unit × (Nat → Int32) × (Nat → Int64) × (Nat → Nat → Int32) × (Nat → Nat → Int64)
  | 0, _, i, l, I, J, _, _ => ((), i, l, I, J)
  | n + 1, hd, i, l, I, J, v, w => match hd with
    | 7 => (if mj_cnd .ge (v 1) (8 : Int32) = true then (if mj_cnd .ne (a_isDigit i l I J (i 35)) (0 : Int32) = true then (if mj_cnd .eq (lg_cmp (l 41) (l 42)) (0 : Int32) = true then ((), (upd (upd (upd i 36 (1 : Int32)) 38 (4 : Int32)) 37 ((upd (upd i 36 (1 : Int32)) 38 (4 : Int32)) 35)), l, I, J) else (if mj_cnd .lt ((s_functionNamed n (upd i 36 (1 : Int32)) l I J (l 41)).1) (0 : Int32) = true then ((), (upd ((s_functionNamed n (upd i 36 (1 : Int32)) l I J (l 41)).2.1) 38 (3 : Int32)), ((s_functionNamed n (upd i 36 (1 : Int32)) l I J (l 41)).2.2.1), ((s_functionNamed n (upd i 36 (1 : Int32)) l I J (l 41)).2.2.2.1), ((s_functionNamed n (upd i 36 (1 : Int32)) l I J (l 41)).2.2.2.2)) else ((), (upd (upd ((s_functionNamed n (upd i 36 (1 : Int32)) l I J (l 41)).2.1) 38 (4 : Int32)) 37 ((upd ((s_functionNamed n (upd i 36 (1 : Int32)) l I J (l 41)).2.1) 38 (4 : Int32)) 35)), ((s_functionNamed n (upd i 36 (1 : Int32)) l I J (l 41)).2.2.1), ((s_functionNamed n (upd i 36 (1 : Int32)) l I J (l 41)).2.2.2.1), ((s_functionNamed n (upd i 36 (1 : Int32)) l I J (l 41)).2.2.2.2)))) else (if mj_cnd .eq (a_isLetter i l I J (i 35)) (0 : Int32) = true then (if mj_cnd .eq (lg_cmp (l 41) (l 42)) (0 : Int32) = true then ((), (upd (upd (upd i 36 (0 : Int32)) 38 (4 : Int32)) 37 ((upd (upd i 36 (0 : Int32)) 38 (4 : Int32)) 35)), l, I, J) else (if mj_cnd .lt ((s_functionNamed n (upd i 36 (0 : Int32)) l I J (l 41)).1) (0 : Int32) = true then ((), (upd ((s_functionNamed n (upd i 36 (0 : Int32)) l I J (l 41)).2.1) 38 (3 : Int32)), ((s_functionNamed n (upd i 36 (0 : Int32)) l I J (l 41)).2.2.1), ((s_functionNamed n (upd i 36 (0 : Int32)) l I J (l 41)).2.2.2.1), ((s_functionNamed n (upd i 36 (0 : Int32)) l I J (l 41)).2.2.2.2)) else ((), (upd (upd ((s_functionNamed n (upd i 36 (0 : Int32)) l I J (l 41)).2.1) 38 (4 : Int32)) 37 ((upd ((s_functionNamed n (upd i 36 (0 : Int32)) l I J (l 41)).2.1) 38 (4 : Int32)) 35)), ((s_functionNamed n (upd i 36 (0 : Int32)) l I J (l 41)).2.2.1), ((s_functionNamed n (upd i 36 (0 : Int32)) l I J (l 41)).2.2.2.1), ((s_functionNamed n (upd i 36 (0 : Int32)) l I J (l 41)).2.2.2.2)))) else (if mj_cnd .eq (lg_cmp (l 41) (l 42)) (0 : Int32) = true then ((), (upd (upd (upd i 36 (1 : Int32)) 38 (4 : Int32)) 37 ((upd (upd i 36 (1 : Int32)) 38 (4 : Int32)) 35)), l, I, J) else (if mj_cnd .lt ((s_functionNamed n (upd i 36 (1 : Int32)) l I J (l 41)).1) (0 : Int32) = true then ((), (upd ((s_functionNamed n (upd i 36 (1 : Int32)) l I J (l 41)).2.1) 38 (3 : Int32)), ((s_functionNamed n (upd i 36 (1 : Int32)) l I J (l 41)).2.2.1), ((s_functionNamed n (upd i 36 (1 : Int32)) l I J (l 41)).2.2.2.1), ((s_functionNamed n (upd i 36 (1 : Int32)) l I J (l 41)).2.2.2.2)) else ((), (upd (upd ((s_functionNamed n (upd i 36 (1 : Int32)) l I J (l 41)).2.1) 38 (4 : Int32)) 37 ((upd ((s_functionNamed n (upd i 36 (1 : Int32)) l I J (l 41)).2.1) 38 (4 : Int32)) 35)), ((s_functionNamed n (upd i 36 (1 : Int32)) l I J (l 41)).2.2.1), ((s_functionNamed n (upd i 36 (1 : Int32)) l I J (l 41)).2.2.2.1), ((s_functionNamed n (upd i 36 (1 : Int32)) l I J (l 41)).2.2.2.2)))))) else (if mj_cnd .eq (a_isLetter i l I J (i 35)) (0 : Int32) = true then (if mj_cnd .ne (a_isDigit i l I J (i 35)) (0 : Int32) = true then (if mj_cnd .eq (lg_cmp (l 41) (l 42)) (0 : Int32) = true then ((), (upd (upd (upd i 36 (1 : Int32)) 38 (4 : Int32)) 37 ((upd (upd i 36 (1 : Int32)) 38 (4 : Int32)) 35)), l, I, J) else (if mj_cnd .lt ((s_functionNamed n (upd i 36 (1 : Int32)) l I J (l 41)).1) (0 : Int32) = true then ((), (upd ((s_functionNamed n (upd i 36 (1 : Int32)) l I J (l 41)).2.1) 38 (3 : Int32)), ((s_functionNamed n (upd i 36 (1 : Int32)) l I J (l 41)).2.2.1), ((s_functionNamed n (upd i 36 (1 : Int32)) l I J (l 41)).2.2.2.1), ((s_functionNamed n (upd i 36 (1 : Int32)) l I J (l 41)).2.2.2.2)) else ((), (upd (upd ((s_functionNamed n (upd i 36 (1 : Int32)) l I J (l 41)).2.1) 38 (4 : Int32)) 37 ((upd ((s_functionNamed n (upd i 36 (1 : Int32)) l I J (l 41)).2.1) 38 (4 : Int32)) 35)), ((s_functionNamed n (upd i 36 (1 : Int32)) l I J (l 41)).2.2.1), ((s_functionNamed n (upd i 36 (1 : Int32)) l I J (l 41)).2.2.2.1), ((s_functionNamed n (upd i 36 (1 : Int32)) l I J (l 41)).2.2.2.2)))) else (if mj_cnd .eq (lg_cmp (l 41) (l 42)) (0 : Int32) = true then ((), (upd (upd (upd i 36 (0 : Int32)) 38 (4 : Int32)) 37 ((upd (upd i 36 (0 : Int32)) 38 (4 : Int32)) 35)), l, I, J) else (if mj_cnd .lt ((s_functionNamed n (upd i 36 (0 : Int32)) l I J (l 41)).1) (0 : Int32) = true then ((), (upd ((s_functionNamed n (upd i 36 (0 : Int32)) l I J (l 41)).2.1) 38 (3 : Int32)), ((s_functionNamed n (upd i 36 (0 : Int32)) l I J (l 41)).2.2.1), ((s_functionNamed n (upd i 36 (0 : Int32)) l I J (l 41)).2.2.2.1), ((s_functionNamed n (upd i 36 (0 : Int32)) l I J (l 41)).2.2.2.2)) else ((), (upd (upd ((s_functionNamed n (upd i 36 (0 : Int32)) l I J (l 41)).2.1) 38 (4 : Int32)) 37 ((upd ((s_functionNamed n (upd i 36 (0 : Int32)) l I J (l 41)).2.1) 38 (4 : Int32)) 35)), ((s_functionNamed n (upd i 36 (0 : Int32)) l I J (l 41)).2.2.1), ((s_functionNamed n (upd i 36 (0 : Int32)) l I J (l 41)).2.2.2.1), ((s_functionNamed n (upd i 36 (0 : Int32)) l I J (l 41)).2.2.2.2))))) else lp_letters n 45 i (vp_updL l 41 (((l 41) <<< (((8 : Int32)).toInt64 &&& 63)) ||| ((a_byteAt i l I J (i 35))).toInt64)) I J v w))
    | 45 => lp_letters n 7 (upd i 35 ((i 35) + (1 : Int32))) l I J (upd v 1 ((v 1) + Int32.ofInt (1))) w
    | _ => ((), i, l, I, J)
theorem lb_letters_7 (n : Nat) (i : Nat → Int32) (l : Nat → Int64) (I : Nat → Nat → Int32) (J : Nat → Nat → Int64) (v : Nat → Int32) (w : Nat → Int64) : lp_letters (n + 1) 7 i l I J v w = (if mj_cnd .ge (v 1) (8 : Int32) = true then (if mj_cnd .ne (a_isDigit i l I J (i 35)) (0 : Int32) = true then (if mj_cnd .eq (lg_cmp (l 41) (l 42)) (0 : Int32) = true then ((), (upd (upd (upd i 36 (1 : Int32)) 38 (4 : Int32)) 37 ((upd (upd i 36 (1 : Int32)) 38 (4 : Int32)) 35)), l, I, J) else (if mj_cnd .lt ((s_functionNamed n (upd i 36 (1 : Int32)) l I J (l 41)).1) (0 : Int32) = true then ((), (upd ((s_functionNamed n (upd i 36 (1 : Int32)) l I J (l 41)).2.1) 38 (3 : Int32)), ((s_functionNamed n (upd i 36 (1 : Int32)) l I J (l 41)).2.2.1), ((s_functionNamed n (upd i 36 (1 : Int32)) l I J (l 41)).2.2.2.1), ((s_functionNamed n (upd i 36 (1 : Int32)) l I J (l 41)).2.2.2.2)) else ((), (upd (upd ((s_functionNamed n (upd i 36 (1 : Int32)) l I J (l 41)).2.1) 38 (4 : Int32)) 37 ((upd ((s_functionNamed n (upd i 36 (1 : Int32)) l I J (l 41)).2.1) 38 (4 : Int32)) 35)), ((s_functionNamed n (upd i 36 (1 : Int32)) l I J (l 41)).2.2.1), ((s_functionNamed n (upd i 36 (1 : Int32)) l I J (l 41)).2.2.2.1), ((s_functionNamed n (upd i 36 (1 : Int32)) l I J (l 41)).2.2.2.2)))) else (if mj_cnd .eq (a_isLetter i l I J (i 35)) (0 : Int32) = true then (if mj_cnd .eq (lg_cmp (l 41) (l 42)) (0 : Int32) = true then ((), (upd (upd (upd i 36 (0 : Int32)) 38 (4 : Int32)) 37 ((upd (upd i 36 (0 : Int32)) 38 (4 : Int32)) 35)), l, I, J) else (if mj_cnd .lt ((s_functionNamed n (upd i 36 (0 : Int32)) l I J (l 41)).1) (0 : Int32) = true then ((), (upd ((s_functionNamed n (upd i 36 (0 : Int32)) l I J (l 41)).2.1) 38 (3 : Int32)), ((s_functionNamed n (upd i 36 (0 : Int32)) l I J (l 41)).2.2.1), ((s_functionNamed n (upd i 36 (0 : Int32)) l I J (l 41)).2.2.2.1), ((s_functionNamed n (upd i 36 (0 : Int32)) l I J (l 41)).2.2.2.2)) else ((), (upd (upd ((s_functionNamed n (upd i 36 (0 : Int32)) l I J (l 41)).2.1) 38 (4 : Int32)) 37 ((upd ((s_functionNamed n (upd i 36 (0 : Int32)) l I J (l 41)).2.1) 38 (4 : Int32)) 35)), ((s_functionNamed n (upd i 36 (0 : Int32)) l I J (l 41)).2.2.1), ((s_functionNamed n (upd i 36 (0 : Int32)) l I J (l 41)).2.2.2.1), ((s_functionNamed n (upd i 36 (0 : Int32)) l I J (l 41)).2.2.2.2)))) else (if mj_cnd .eq (lg_cmp (l 41) (l 42)) (0 : Int32) = true then ((), (upd (upd (upd i 36 (1 : Int32)) 38 (4 : Int32)) 37 ((upd (upd i 36 (1 : Int32)) 38 (4 : Int32)) 35)), l, I, J) else (if mj_cnd .lt ((s_functionNamed n (upd i 36 (1 : Int32)) l I J (l 41)).1) (0 : Int32) = true then ((), (upd ((s_functionNamed n (upd i 36 (1 : Int32)) l I J (l 41)).2.1) 38 (3 : Int32)), ((s_functionNamed n (upd i 36 (1 : Int32)) l I J (l 41)).2.2.1), ((s_functionNamed n (upd i 36 (1 : Int32)) l I J (l 41)).2.2.2.1), ((s_functionNamed n (upd i 36 (1 : Int32)) l I J (l 41)).2.2.2.2)) else ((), (upd (upd ((s_functionNamed n (upd i 36 (1 : Int32)) l I J (l 41)).2.1) 38 (4 : Int32)) 37 ((upd ((s_functionNamed n (upd i 36 (1 : Int32)) l I J (l 41)).2.1) 38 (4 : Int32)) 35)), ((s_functionNamed n (upd i 36 (1 : Int32)) l I J (l 41)).2.2.1), ((s_functionNamed n (upd i 36 (1 : Int32)) l I J (l 41)).2.2.2.1), ((s_functionNamed n (upd i 36 (1 : Int32)) l I J (l 41)).2.2.2.2)))))) else (if mj_cnd .eq (a_isLetter i l I J (i 35)) (0 : Int32) = true then (if mj_cnd .ne (a_isDigit i l I J (i 35)) (0 : Int32) = true then (if mj_cnd .eq (lg_cmp (l 41) (l 42)) (0 : Int32) = true then ((), (upd (upd (upd i 36 (1 : Int32)) 38 (4 : Int32)) 37 ((upd (upd i 36 (1 : Int32)) 38 (4 : Int32)) 35)), l, I, J) else (if mj_cnd .lt ((s_functionNamed n (upd i 36 (1 : Int32)) l I J (l 41)).1) (0 : Int32) = true then ((), (upd ((s_functionNamed n (upd i 36 (1 : Int32)) l I J (l 41)).2.1) 38 (3 : Int32)), ((s_functionNamed n (upd i 36 (1 : Int32)) l I J (l 41)).2.2.1), ((s_functionNamed n (upd i 36 (1 : Int32)) l I J (l 41)).2.2.2.1), ((s_functionNamed n (upd i 36 (1 : Int32)) l I J (l 41)).2.2.2.2)) else ((), (upd (upd ((s_functionNamed n (upd i 36 (1 : Int32)) l I J (l 41)).2.1) 38 (4 : Int32)) 37 ((upd ((s_functionNamed n (upd i 36 (1 : Int32)) l I J (l 41)).2.1) 38 (4 : Int32)) 35)), ((s_functionNamed n (upd i 36 (1 : Int32)) l I J (l 41)).2.2.1), ((s_functionNamed n (upd i 36 (1 : Int32)) l I J (l 41)).2.2.2.1), ((s_functionNamed n (upd i 36 (1 : Int32)) l I J (l 41)).2.2.2.2)))) else (if mj_cnd .eq (lg_cmp (l 41) (l 42)) (0 : Int32) = true then ((), (upd (upd (upd i 36 (0 : Int32)) 38 (4 : Int32)) 37 ((upd (upd i 36 (0 : Int32)) 38 (4 : Int32)) 35)), l, I, J) else (if mj_cnd .lt ((s_functionNamed n (upd i 36 (0 : Int32)) l I J (l 41)).1) (0 : Int32) = true then ((), (upd ((s_functionNamed n (upd i 36 (0 : Int32)) l I J (l 41)).2.1) 38 (3 : Int32)), ((s_functionNamed n (upd i 36 (0 : Int32)) l I J (l 41)).2.2.1), ((s_functionNamed n (upd i 36 (0 : Int32)) l I J (l 41)).2.2.2.1), ((s_functionNamed n (upd i 36 (0 : Int32)) l I J (l 41)).2.2.2.2)) else ((), (upd (upd ((s_functionNamed n (upd i 36 (0 : Int32)) l I J (l 41)).2.1) 38 (4 : Int32)) 37 ((upd ((s_functionNamed n (upd i 36 (0 : Int32)) l I J (l 41)).2.1) 38 (4 : Int32)) 35)), ((s_functionNamed n (upd i 36 (0 : Int32)) l I J (l 41)).2.2.1), ((s_functionNamed n (upd i 36 (0 : Int32)) l I J (l 41)).2.2.2.1), ((s_functionNamed n (upd i 36 (0 : Int32)) l I J (l 41)).2.2.2.2))))) else lp_letters n 45 i (vp_updL l 41 (((l 41) <<< (((8 : Int32)).toInt64 &&& 63)) ||| ((a_byteAt i l I J (i 35))).toInt64)) I J v w)) := rfl
theorem lb_letters_45 (n : Nat) (i : Nat → Int32) (l : Nat → Int64) (I : Nat → Nat → Int32) (J : Nat → Nat → Int64) (v : Nat → Int32) (w : Nat → Int64) : lp_letters (n + 1) 45 i l I J v w = lp_letters n 7 (upd i 35 ((i 35) + (1 : Int32))) l I J (upd v 1 ((v 1) + Int32.ofInt (1))) w := rfl
def okl_letters : Nat → Nat → (Nat → Int32) → (Nat → Int64) → (Nat → Nat → Int32) → (Nat → Nat → Int64) → (Nat → Int32) → (Nat → Int64) → Prop
  | 0, _, _, _, _, _, _, _ => False
  | n + 1, hd, i, l, I, J, v, w => match hd with
    | 7 => (if mj_cnd .ge (v 1) (8 : Int32) = true then (ok_isDigit i l I J (i 35) ∧ (if mj_cnd .ne (a_isDigit i l I J (i 35)) (0 : Int32) = true then (if mj_cnd .eq (lg_cmp (l 41) (l 42)) (0 : Int32) = true then True else (ok_functionNamed n (upd i 36 (1 : Int32)) l I J (l 41) ∧ True)) else (ok_isLetter i l I J (i 35) ∧ (if mj_cnd .eq (a_isLetter i l I J (i 35)) (0 : Int32) = true then (if mj_cnd .eq (lg_cmp (l 41) (l 42)) (0 : Int32) = true then True else (ok_functionNamed n (upd i 36 (0 : Int32)) l I J (l 41) ∧ True)) else (if mj_cnd .eq (lg_cmp (l 41) (l 42)) (0 : Int32) = true then True else (ok_functionNamed n (upd i 36 (1 : Int32)) l I J (l 41) ∧ True)))))) else (ok_isLetter i l I J (i 35) ∧ (if mj_cnd .eq (a_isLetter i l I J (i 35)) (0 : Int32) = true then (ok_isDigit i l I J (i 35) ∧ (if mj_cnd .ne (a_isDigit i l I J (i 35)) (0 : Int32) = true then (if mj_cnd .eq (lg_cmp (l 41) (l 42)) (0 : Int32) = true then True else (ok_functionNamed n (upd i 36 (1 : Int32)) l I J (l 41) ∧ True)) else (ok_isLetter i l I J (i 35) ∧ (if mj_cnd .eq (lg_cmp (l 41) (l 42)) (0 : Int32) = true then True else (ok_functionNamed n (upd i 36 (0 : Int32)) l I J (l 41) ∧ True))))) else (ok_byteAt i l I J (i 35) ∧ okl_letters n 45 i (vp_updL l 41 (((l 41) <<< (((8 : Int32)).toInt64 &&& 63)) ||| ((a_byteAt i l I J (i 35))).toInt64)) I J v w))))
    | 45 => okl_letters n 7 (upd i 35 ((i 35) + (1 : Int32))) l I J (upd v 1 ((v 1) + Int32.ofInt (1))) w
    | _ => False
def s_letters (n : Nat) (i : Nat → Int32) (l : Nat → Int64) (I : Nat → Nat → Int32) (J : Nat → Nat → Int64)  : Unit × (Nat → Int32) × (Nat → Int64) × (Nat → Nat → Int32) × (Nat → Nat → Int64) := lp_letters n 7 i (vp_updL l 41 (0 : Int64)) I J (upd (fun _ => 0) 1 (0 : Int32)) (fun _ => 0)
def ok_letters (n : Nat) (i : Nat → Int32) (l : Nat → Int64) (I : Nat → Nat → Int32) (J : Nat → Nat → Int64)  : Prop := okl_letters n 7 i (vp_updL l 41 (0 : Int64)) I J (upd (fun _ => 0) 1 (0 : Int32)) (fun _ => 0)
set_option maxRecDepth 20000 in
theorem ql_letters {xt : mj_X} {pre post : mj_H} {m : Nat} {d : Nat} (hm : pre.length = m) (h2 : 2 ≤ m) : ∀ n : Nat, (∀ i l I J v w, okl_letters n 7 i l I J v w → mjR (fun N => mj_call (mj_mmof pg_ms) (mj_TTof pg_TL) xt pg_tl 2 (d + 2) N) (mj_TTof pg_TL 12).1 (mj_TTof pg_TL 12).2 xt pg_tl 2 2 (d + 2) false (Option.none : Option Jvm.ClassFile.FieldType) (mj_dec prog_14_method_75_code) 7 [(0, .ref m), (1, .int (v 1))] [] (rH pre post m i l I J) none (rH pre post m (lp_letters n 7 i l I J v w).2.1 (lp_letters n 7 i l I J v w).2.2.1 (lp_letters n 7 i l I J v w).2.2.2.1 (lp_letters n 7 i l I J v w).2.2.2.2)) ∧ (∀ i l I J v w, okl_letters n 45 i l I J v w → mjR (fun N => mj_call (mj_mmof pg_ms) (mj_TTof pg_TL) xt pg_tl 2 (d + 2) N) (mj_TTof pg_TL 12).1 (mj_TTof pg_TL 12).2 xt pg_tl 2 2 (d + 2) false (Option.none : Option Jvm.ClassFile.FieldType) (mj_dec prog_14_method_75_code) 45 [(0, .ref m), (1, .int (v 1))] [] (rH pre post m i l I J) none (rH pre post m (lp_letters n 45 i l I J v w).2.1 (lp_letters n 45 i l I J v w).2.2.1 (lp_letters n 45 i l I J v w).2.2.2.1 (lp_letters n 45 i l I J v w).2.2.2.2)) := by
  intro n
  induction n with
  | zero => exact ⟨fun i l I J v w h => absurd h id, fun i l I J v w h => absurd h id⟩
  | succ n ih =>
    refine ⟨?_, ?_⟩
    · intro i l I J v w hok
      have hok : (if mj_cnd .ge (v 1) (8 : Int32) = true then (ok_isDigit i l I J (i 35) ∧ (if mj_cnd .ne (a_isDigit i l I J (i 35)) (0 : Int32) = true then (if mj_cnd .eq (lg_cmp (l 41) (l 42)) (0 : Int32) = true then True else (ok_functionNamed n (upd i 36 (1 : Int32)) l I J (l 41) ∧ True)) else (ok_isLetter i l I J (i 35) ∧ (if mj_cnd .eq (a_isLetter i l I J (i 35)) (0 : Int32) = true then (if mj_cnd .eq (lg_cmp (l 41) (l 42)) (0 : Int32) = true then True else (ok_functionNamed n (upd i 36 (0 : Int32)) l I J (l 41) ∧ True)) else (if mj_cnd .eq (lg_cmp (l 41) (l 42)) (0 : Int32) = true then True else (ok_functionNamed n (upd i 36 (1 : Int32)) l I J (l 41) ∧ True)))))) else (ok_isLetter i l I J (i 35) ∧ (if mj_cnd .eq (a_isLetter i l I J (i 35)) (0 : Int32) = true then (ok_isDigit i l I J (i 35) ∧ (if mj_cnd .ne (a_isDigit i l I J (i 35)) (0 : Int32) = true then (if mj_cnd .eq (lg_cmp (l 41) (l 42)) (0 : Int32) = true then True else (ok_functionNamed n (upd i 36 (1 : Int32)) l I J (l 41) ∧ True)) else (ok_isLetter i l I J (i 35) ∧ (if mj_cnd .eq (lg_cmp (l 41) (l 42)) (0 : Int32) = true then True else (ok_functionNamed n (upd i 36 (0 : Int32)) l I J (l 41) ∧ True))))) else (ok_byteAt i l I J (i 35) ∧ okl_letters n 45 i (vp_updL l 41 (((l 41) <<< (((8 : Int32)).toInt64 &&& 63)) ||| ((a_byteAt i l I J (i 35))).toInt64)) I J v w)))) := hok
      refine ms1 dm_letters_7 rfl rfl rfl rfl ?_
      refine ms0 (S' := .int (8 : Int32) :: _) dm_letters_8 rfl rfl rfl rfl ?_
      refine ms_2c dm_letters_10 rfl rfl (fun hb1 => ?_) (fun hb1 => ?_)
      · have hb1 : mj_cnd .ge (v 1) (8 : Int32) = true := hb1
        rw [if_pos hb1] at hok
        refine ms1 dm_letters_61 rfl rfl rfl rfl ?_
        refine ms1 dm_letters_62 rfl rfl rfl rfl ?_
        refine ms1 dm_letters_63 rfl rfl rfl rfl ?_
        refine ms3 dm_letters_64 (r_get (v := .int (i 35)) hm h2 rfl (rg_35 _ _ _)) rfl rfl rfl ?_
        obtain ⟨ho, hok⟩ := hok
        refine ms4 dm_letters_67 rfl (r_inv (As := [.int (i 35)]) hm h2 rfl rfl rfl) (q_isDigit hm h2 ho) rfl rfl rfl ?_
        refine ms_1c dm_letters_70 rfl rfl (fun hb2 => ?_) (fun hb2 => ?_)
        · have hb2 : mj_cnd .ne (a_isDigit i l I J (i 35)) (0 : Int32) = true := hb2
          rw [if_pos hb2] at hok
          refine ms0 (S' := .int (1 : Int32) :: _) dm_letters_84 rfl rfl rfl rfl ?_
          refine ms2 dm_letters_85 rfl rfl rfl ?_
          refine ms3 dm_letters_89 (r_putb (Or.inr rfl) hm h2 rfl (rF_lt 36 rfl) (rf_36 _ _ _ _)) rfl rfl rfl ?_
          refine ms1 dm_letters_92 rfl rfl rfl rfl ?_
          refine ms3 dm_letters_93 (r_get (v := .long (l 41)) hm h2 rfl (rg_41 _ _ _)) rfl rfl rfl ?_
          refine ms1 dm_letters_96 rfl rfl rfl rfl ?_
          refine ms3 dm_letters_97 (r_get (v := .long (l 42)) hm h2 rfl (rg_42 _ _ _)) rfl rfl rfl ?_
          refine ms0 dm_letters_100 rfl rfl rfl rfl ?_
          refine ms_1c dm_letters_101 rfl rfl (fun hb3 => ?_) (fun hb3 => ?_)
          · have hb3 : mj_cnd .eq (lg_cmp (l 41) (l 42)) (0 : Int32) = true := hb3
            rw [if_pos hb3] at hok
            refine ms0 (S' := .int (1 : Int32) :: _) dm_letters_115 rfl rfl rfl rfl ?_
            refine ms2 dm_letters_116 rfl rfl rfl ?_
            refine ms1 dm_letters_120 rfl rfl rfl rfl ?_
            refine ms1 dm_letters_121 rfl rfl rfl rfl ?_
            refine ms1 dm_letters_122 rfl rfl rfl rfl ?_
            refine ms_1f dm_letters_123 rfl (by decide) rfl ?_
            refine ms0 (S' := .int (4 : Int32) :: _) dm_letters_126 rfl rfl rfl rfl ?_
            refine ms2 dm_letters_127 rfl rfl rfl ?_
            refine ms3 dm_letters_131 (r_puti hm h2 rfl (rF_lt 38 rfl) (rf_38 _ _ _ _)) rfl rfl rfl ?_
            refine ms1 dm_letters_134 rfl rfl rfl rfl ?_
            refine ms_1f dm_letters_135 rfl (by decide) rfl ?_
            refine ms1 dm_letters_138 rfl rfl rfl rfl ?_
            refine ms1 dm_letters_139 rfl rfl rfl rfl ?_
            refine ms3 dm_letters_140 (r_get (v := .int ((upd (upd i 36 (1 : Int32)) 38 (4 : Int32)) 35)) hm h2 rfl (rg_35 _ _ _)) rfl rfl rfl ?_
            refine ms3 dm_letters_143 (r_puti hm h2 rfl (rF_lt 37 rfl) (rf_37 _ _ _ _)) rfl rfl rfl ?_
            have he : lp_letters (n + 1) 7 i l I J v w = ((), (upd (upd (upd i 36 (1 : Int32)) 38 (4 : Int32)) 37 ((upd (upd i 36 (1 : Int32)) 38 (4 : Int32)) 35)), l, I, J) := by
              rw [lb_letters_7]
              simp only [hb1, hb2, hb3, Bool.false_eq_true, if_true, if_false]
            rw [he]
            exact ms5 dm_letters_146 rfl rfl rfl
          · have hb3 : ¬ (mj_cnd .eq (lg_cmp (l 41) (l 42)) (0 : Int32) = true) := hb3
            rw [if_neg hb3] at hok
            refine ms1 dm_letters_104 rfl rfl rfl rfl ?_
            refine ms1 dm_letters_105 rfl rfl rfl rfl ?_
            refine ms3 dm_letters_106 (r_get (v := .long (l 41)) hm h2 rfl (rg_41 _ _ _)) rfl rfl rfl ?_
            obtain ⟨ho, hok⟩ := hok
            refine ms4 dm_letters_109 rfl (r_inv (As := [.long (l 41)]) hm h2 rfl rfl rfl) (q_functionNamed hm h2 ho) rfl rfl rfl ?_
            refine ms_1c dm_letters_112 rfl rfl (fun hb4 => ?_) (fun hb4 => ?_)
            · have hb4 : mj_cnd .lt ((s_functionNamed n (upd i 36 (1 : Int32)) l I J (l 41)).1) (0 : Int32) = true := hb4
              refine ms0 (S' := .int (0 : Int32) :: _) dm_letters_119 rfl rfl rfl rfl ?_
              refine ms1 dm_letters_120 rfl rfl rfl rfl ?_
              refine ms1 dm_letters_121 rfl rfl rfl rfl ?_
              refine ms1 dm_letters_122 rfl rfl rfl rfl ?_
              refine ms_1t dm_letters_123 rfl rfl ?_
              refine ms0 (S' := .int (3 : Int32) :: _) dm_letters_130 rfl rfl rfl rfl ?_
              refine ms3 dm_letters_131 (r_puti hm h2 rfl (rF_lt 38 rfl) (rf_38 _ _ _ _)) rfl rfl rfl ?_
              refine ms1 dm_letters_134 rfl rfl rfl rfl ?_
              refine ms_1t dm_letters_135 rfl rfl ?_
              have he : lp_letters (n + 1) 7 i l I J v w = ((), (upd ((s_functionNamed n (upd i 36 (1 : Int32)) l I J (l 41)).2.1) 38 (3 : Int32)), ((s_functionNamed n (upd i 36 (1 : Int32)) l I J (l 41)).2.2.1), ((s_functionNamed n (upd i 36 (1 : Int32)) l I J (l 41)).2.2.2.1), ((s_functionNamed n (upd i 36 (1 : Int32)) l I J (l 41)).2.2.2.2)) := by
                rw [lb_letters_7]
                simp only [hb1, hb2, hb3, hb4, Bool.false_eq_true, if_true, if_false]
              rw [he]
              exact ms5 dm_letters_146 rfl rfl rfl
            · have hb4 : ¬ (mj_cnd .lt ((s_functionNamed n (upd i 36 (1 : Int32)) l I J (l 41)).1) (0 : Int32) = true) := hb4
              refine ms0 (S' := .int (1 : Int32) :: _) dm_letters_115 rfl rfl rfl rfl ?_
              refine ms2 dm_letters_116 rfl rfl rfl ?_
              refine ms1 dm_letters_120 rfl rfl rfl rfl ?_
              refine ms1 dm_letters_121 rfl rfl rfl rfl ?_
              refine ms1 dm_letters_122 rfl rfl rfl rfl ?_
              refine ms_1f dm_letters_123 rfl (by decide) rfl ?_
              refine ms0 (S' := .int (4 : Int32) :: _) dm_letters_126 rfl rfl rfl rfl ?_
              refine ms2 dm_letters_127 rfl rfl rfl ?_
              refine ms3 dm_letters_131 (r_puti hm h2 rfl (rF_lt 38 rfl) (rf_38 _ _ _ _)) rfl rfl rfl ?_
              refine ms1 dm_letters_134 rfl rfl rfl rfl ?_
              refine ms_1f dm_letters_135 rfl (by decide) rfl ?_
              refine ms1 dm_letters_138 rfl rfl rfl rfl ?_
              refine ms1 dm_letters_139 rfl rfl rfl rfl ?_
              refine ms3 dm_letters_140 (r_get (v := .int ((upd ((s_functionNamed n (upd i 36 (1 : Int32)) l I J (l 41)).2.1) 38 (4 : Int32)) 35)) hm h2 rfl (rg_35 _ _ _)) rfl rfl rfl ?_
              refine ms3 dm_letters_143 (r_puti hm h2 rfl (rF_lt 37 rfl) (rf_37 _ _ _ _)) rfl rfl rfl ?_
              have he : lp_letters (n + 1) 7 i l I J v w = ((), (upd (upd ((s_functionNamed n (upd i 36 (1 : Int32)) l I J (l 41)).2.1) 38 (4 : Int32)) 37 ((upd ((s_functionNamed n (upd i 36 (1 : Int32)) l I J (l 41)).2.1) 38 (4 : Int32)) 35)), ((s_functionNamed n (upd i 36 (1 : Int32)) l I J (l 41)).2.2.1), ((s_functionNamed n (upd i 36 (1 : Int32)) l I J (l 41)).2.2.2.1), ((s_functionNamed n (upd i 36 (1 : Int32)) l I J (l 41)).2.2.2.2)) := by
                rw [lb_letters_7]
                simp only [hb1, hb2, hb3, hb4, Bool.false_eq_true, if_true, if_false]
              rw [he]
              exact ms5 dm_letters_146 rfl rfl rfl
        · have hb2 : ¬ (mj_cnd .ne (a_isDigit i l I J (i 35)) (0 : Int32) = true) := hb2
          rw [if_neg hb2] at hok
          refine ms1 dm_letters_73 rfl rfl rfl rfl ?_
          refine ms1 dm_letters_74 rfl rfl rfl rfl ?_
          refine ms3 dm_letters_75 (r_get (v := .int (i 35)) hm h2 rfl (rg_35 _ _ _)) rfl rfl rfl ?_
          obtain ⟨ho, hok⟩ := hok
          refine ms4 dm_letters_78 rfl (r_inv (As := [.int (i 35)]) hm h2 rfl rfl rfl) (q_isLetter hm h2 ho) rfl rfl rfl ?_
          refine ms_1c dm_letters_81 rfl rfl (fun hb5 => ?_) (fun hb5 => ?_)
          · have hb5 : mj_cnd .eq (a_isLetter i l I J (i 35)) (0 : Int32) = true := hb5
            rw [if_pos hb5] at hok
            refine ms0 (S' := .int (0 : Int32) :: _) dm_letters_88 rfl rfl rfl rfl ?_
            refine ms3 dm_letters_89 (r_putb (Or.inl rfl) hm h2 rfl (rF_lt 36 rfl) (rf_36 _ _ _ _)) rfl rfl rfl ?_
            refine ms1 dm_letters_92 rfl rfl rfl rfl ?_
            refine ms3 dm_letters_93 (r_get (v := .long (l 41)) hm h2 rfl (rg_41 _ _ _)) rfl rfl rfl ?_
            refine ms1 dm_letters_96 rfl rfl rfl rfl ?_
            refine ms3 dm_letters_97 (r_get (v := .long (l 42)) hm h2 rfl (rg_42 _ _ _)) rfl rfl rfl ?_
            refine ms0 dm_letters_100 rfl rfl rfl rfl ?_
            refine ms_1c dm_letters_101 rfl rfl (fun hb6 => ?_) (fun hb6 => ?_)
            · have hb6 : mj_cnd .eq (lg_cmp (l 41) (l 42)) (0 : Int32) = true := hb6
              rw [if_pos hb6] at hok
              refine ms0 (S' := .int (1 : Int32) :: _) dm_letters_115 rfl rfl rfl rfl ?_
              refine ms2 dm_letters_116 rfl rfl rfl ?_
              refine ms1 dm_letters_120 rfl rfl rfl rfl ?_
              refine ms1 dm_letters_121 rfl rfl rfl rfl ?_
              refine ms1 dm_letters_122 rfl rfl rfl rfl ?_
              refine ms_1f dm_letters_123 rfl (by decide) rfl ?_
              refine ms0 (S' := .int (4 : Int32) :: _) dm_letters_126 rfl rfl rfl rfl ?_
              refine ms2 dm_letters_127 rfl rfl rfl ?_
              refine ms3 dm_letters_131 (r_puti hm h2 rfl (rF_lt 38 rfl) (rf_38 _ _ _ _)) rfl rfl rfl ?_
              refine ms1 dm_letters_134 rfl rfl rfl rfl ?_
              refine ms_1f dm_letters_135 rfl (by decide) rfl ?_
              refine ms1 dm_letters_138 rfl rfl rfl rfl ?_
              refine ms1 dm_letters_139 rfl rfl rfl rfl ?_
              refine ms3 dm_letters_140 (r_get (v := .int ((upd (upd i 36 (0 : Int32)) 38 (4 : Int32)) 35)) hm h2 rfl (rg_35 _ _ _)) rfl rfl rfl ?_
              refine ms3 dm_letters_143 (r_puti hm h2 rfl (rF_lt 37 rfl) (rf_37 _ _ _ _)) rfl rfl rfl ?_
              have he : lp_letters (n + 1) 7 i l I J v w = ((), (upd (upd (upd i 36 (0 : Int32)) 38 (4 : Int32)) 37 ((upd (upd i 36 (0 : Int32)) 38 (4 : Int32)) 35)), l, I, J) := by
                rw [lb_letters_7]
                simp only [hb1, hb2, hb5, hb6, Bool.false_eq_true, if_true, if_false]
              rw [he]
              exact ms5 dm_letters_146 rfl rfl rfl
            · have hb6 : ¬ (mj_cnd .eq (lg_cmp (l 41) (l 42)) (0 : Int32) = true) := hb6
              rw [if_neg hb6] at hok
              refine ms1 dm_letters_104 rfl rfl rfl rfl ?_
              refine ms1 dm_letters_105 rfl rfl rfl rfl ?_
              refine ms3 dm_letters_106 (r_get (v := .long (l 41)) hm h2 rfl (rg_41 _ _ _)) rfl rfl rfl ?_
              obtain ⟨ho, hok⟩ := hok
              refine ms4 dm_letters_109 rfl (r_inv (As := [.long (l 41)]) hm h2 rfl rfl rfl) (q_functionNamed hm h2 ho) rfl rfl rfl ?_
              refine ms_1c dm_letters_112 rfl rfl (fun hb7 => ?_) (fun hb7 => ?_)
              · have hb7 : mj_cnd .lt ((s_functionNamed n (upd i 36 (0 : Int32)) l I J (l 41)).1) (0 : Int32) = true := hb7
                refine ms0 (S' := .int (0 : Int32) :: _) dm_letters_119 rfl rfl rfl rfl ?_
                refine ms1 dm_letters_120 rfl rfl rfl rfl ?_
                refine ms1 dm_letters_121 rfl rfl rfl rfl ?_
                refine ms1 dm_letters_122 rfl rfl rfl rfl ?_
                refine ms_1t dm_letters_123 rfl rfl ?_
                refine ms0 (S' := .int (3 : Int32) :: _) dm_letters_130 rfl rfl rfl rfl ?_
                refine ms3 dm_letters_131 (r_puti hm h2 rfl (rF_lt 38 rfl) (rf_38 _ _ _ _)) rfl rfl rfl ?_
                refine ms1 dm_letters_134 rfl rfl rfl rfl ?_
                refine ms_1t dm_letters_135 rfl rfl ?_
                have he : lp_letters (n + 1) 7 i l I J v w = ((), (upd ((s_functionNamed n (upd i 36 (0 : Int32)) l I J (l 41)).2.1) 38 (3 : Int32)), ((s_functionNamed n (upd i 36 (0 : Int32)) l I J (l 41)).2.2.1), ((s_functionNamed n (upd i 36 (0 : Int32)) l I J (l 41)).2.2.2.1), ((s_functionNamed n (upd i 36 (0 : Int32)) l I J (l 41)).2.2.2.2)) := by
                  rw [lb_letters_7]
                  simp only [hb1, hb2, hb5, hb6, hb7, Bool.false_eq_true, if_true, if_false]
                rw [he]
                exact ms5 dm_letters_146 rfl rfl rfl
              · have hb7 : ¬ (mj_cnd .lt ((s_functionNamed n (upd i 36 (0 : Int32)) l I J (l 41)).1) (0 : Int32) = true) := hb7
                refine ms0 (S' := .int (1 : Int32) :: _) dm_letters_115 rfl rfl rfl rfl ?_
                refine ms2 dm_letters_116 rfl rfl rfl ?_
                refine ms1 dm_letters_120 rfl rfl rfl rfl ?_
                refine ms1 dm_letters_121 rfl rfl rfl rfl ?_
                refine ms1 dm_letters_122 rfl rfl rfl rfl ?_
                refine ms_1f dm_letters_123 rfl (by decide) rfl ?_
                refine ms0 (S' := .int (4 : Int32) :: _) dm_letters_126 rfl rfl rfl rfl ?_
                refine ms2 dm_letters_127 rfl rfl rfl ?_
                refine ms3 dm_letters_131 (r_puti hm h2 rfl (rF_lt 38 rfl) (rf_38 _ _ _ _)) rfl rfl rfl ?_
                refine ms1 dm_letters_134 rfl rfl rfl rfl ?_
                refine ms_1f dm_letters_135 rfl (by decide) rfl ?_
                refine ms1 dm_letters_138 rfl rfl rfl rfl ?_
                refine ms1 dm_letters_139 rfl rfl rfl rfl ?_
                refine ms3 dm_letters_140 (r_get (v := .int ((upd ((s_functionNamed n (upd i 36 (0 : Int32)) l I J (l 41)).2.1) 38 (4 : Int32)) 35)) hm h2 rfl (rg_35 _ _ _)) rfl rfl rfl ?_
                refine ms3 dm_letters_143 (r_puti hm h2 rfl (rF_lt 37 rfl) (rf_37 _ _ _ _)) rfl rfl rfl ?_
                have he : lp_letters (n + 1) 7 i l I J v w = ((), (upd (upd ((s_functionNamed n (upd i 36 (0 : Int32)) l I J (l 41)).2.1) 38 (4 : Int32)) 37 ((upd ((s_functionNamed n (upd i 36 (0 : Int32)) l I J (l 41)).2.1) 38 (4 : Int32)) 35)), ((s_functionNamed n (upd i 36 (0 : Int32)) l I J (l 41)).2.2.1), ((s_functionNamed n (upd i 36 (0 : Int32)) l I J (l 41)).2.2.2.1), ((s_functionNamed n (upd i 36 (0 : Int32)) l I J (l 41)).2.2.2.2)) := by
                  rw [lb_letters_7]
                  simp only [hb1, hb2, hb5, hb6, hb7, Bool.false_eq_true, if_true, if_false]
                rw [he]
                exact ms5 dm_letters_146 rfl rfl rfl
          · have hb5 : ¬ (mj_cnd .eq (a_isLetter i l I J (i 35)) (0 : Int32) = true) := hb5
            rw [if_neg hb5] at hok
            refine ms0 (S' := .int (1 : Int32) :: _) dm_letters_84 rfl rfl rfl rfl ?_
            refine ms2 dm_letters_85 rfl rfl rfl ?_
            refine ms3 dm_letters_89 (r_putb (Or.inr rfl) hm h2 rfl (rF_lt 36 rfl) (rf_36 _ _ _ _)) rfl rfl rfl ?_
            refine ms1 dm_letters_92 rfl rfl rfl rfl ?_
            refine ms3 dm_letters_93 (r_get (v := .long (l 41)) hm h2 rfl (rg_41 _ _ _)) rfl rfl rfl ?_
            refine ms1 dm_letters_96 rfl rfl rfl rfl ?_
            refine ms3 dm_letters_97 (r_get (v := .long (l 42)) hm h2 rfl (rg_42 _ _ _)) rfl rfl rfl ?_
            refine ms0 dm_letters_100 rfl rfl rfl rfl ?_
            refine ms_1c dm_letters_101 rfl rfl (fun hb8 => ?_) (fun hb8 => ?_)
            · have hb8 : mj_cnd .eq (lg_cmp (l 41) (l 42)) (0 : Int32) = true := hb8
              rw [if_pos hb8] at hok
              refine ms0 (S' := .int (1 : Int32) :: _) dm_letters_115 rfl rfl rfl rfl ?_
              refine ms2 dm_letters_116 rfl rfl rfl ?_
              refine ms1 dm_letters_120 rfl rfl rfl rfl ?_
              refine ms1 dm_letters_121 rfl rfl rfl rfl ?_
              refine ms1 dm_letters_122 rfl rfl rfl rfl ?_
              refine ms_1f dm_letters_123 rfl (by decide) rfl ?_
              refine ms0 (S' := .int (4 : Int32) :: _) dm_letters_126 rfl rfl rfl rfl ?_
              refine ms2 dm_letters_127 rfl rfl rfl ?_
              refine ms3 dm_letters_131 (r_puti hm h2 rfl (rF_lt 38 rfl) (rf_38 _ _ _ _)) rfl rfl rfl ?_
              refine ms1 dm_letters_134 rfl rfl rfl rfl ?_
              refine ms_1f dm_letters_135 rfl (by decide) rfl ?_
              refine ms1 dm_letters_138 rfl rfl rfl rfl ?_
              refine ms1 dm_letters_139 rfl rfl rfl rfl ?_
              refine ms3 dm_letters_140 (r_get (v := .int ((upd (upd i 36 (1 : Int32)) 38 (4 : Int32)) 35)) hm h2 rfl (rg_35 _ _ _)) rfl rfl rfl ?_
              refine ms3 dm_letters_143 (r_puti hm h2 rfl (rF_lt 37 rfl) (rf_37 _ _ _ _)) rfl rfl rfl ?_
              have he : lp_letters (n + 1) 7 i l I J v w = ((), (upd (upd (upd i 36 (1 : Int32)) 38 (4 : Int32)) 37 ((upd (upd i 36 (1 : Int32)) 38 (4 : Int32)) 35)), l, I, J) := by
                rw [lb_letters_7]
                simp only [hb1, hb2, hb5, hb8, Bool.false_eq_true, if_true, if_false]
              rw [he]
              exact ms5 dm_letters_146 rfl rfl rfl
            · have hb8 : ¬ (mj_cnd .eq (lg_cmp (l 41) (l 42)) (0 : Int32) = true) := hb8
              rw [if_neg hb8] at hok
              refine ms1 dm_letters_104 rfl rfl rfl rfl ?_
              refine ms1 dm_letters_105 rfl rfl rfl rfl ?_
              refine ms3 dm_letters_106 (r_get (v := .long (l 41)) hm h2 rfl (rg_41 _ _ _)) rfl rfl rfl ?_
              obtain ⟨ho, hok⟩ := hok
              refine ms4 dm_letters_109 rfl (r_inv (As := [.long (l 41)]) hm h2 rfl rfl rfl) (q_functionNamed hm h2 ho) rfl rfl rfl ?_
              refine ms_1c dm_letters_112 rfl rfl (fun hb9 => ?_) (fun hb9 => ?_)
              · have hb9 : mj_cnd .lt ((s_functionNamed n (upd i 36 (1 : Int32)) l I J (l 41)).1) (0 : Int32) = true := hb9
                refine ms0 (S' := .int (0 : Int32) :: _) dm_letters_119 rfl rfl rfl rfl ?_
                refine ms1 dm_letters_120 rfl rfl rfl rfl ?_
                refine ms1 dm_letters_121 rfl rfl rfl rfl ?_
                refine ms1 dm_letters_122 rfl rfl rfl rfl ?_
                refine ms_1t dm_letters_123 rfl rfl ?_
                refine ms0 (S' := .int (3 : Int32) :: _) dm_letters_130 rfl rfl rfl rfl ?_
                refine ms3 dm_letters_131 (r_puti hm h2 rfl (rF_lt 38 rfl) (rf_38 _ _ _ _)) rfl rfl rfl ?_
                refine ms1 dm_letters_134 rfl rfl rfl rfl ?_
                refine ms_1t dm_letters_135 rfl rfl ?_
                have he : lp_letters (n + 1) 7 i l I J v w = ((), (upd ((s_functionNamed n (upd i 36 (1 : Int32)) l I J (l 41)).2.1) 38 (3 : Int32)), ((s_functionNamed n (upd i 36 (1 : Int32)) l I J (l 41)).2.2.1), ((s_functionNamed n (upd i 36 (1 : Int32)) l I J (l 41)).2.2.2.1), ((s_functionNamed n (upd i 36 (1 : Int32)) l I J (l 41)).2.2.2.2)) := by
                  rw [lb_letters_7]
                  simp only [hb1, hb2, hb5, hb8, hb9, Bool.false_eq_true, if_true, if_false]
                rw [he]
                exact ms5 dm_letters_146 rfl rfl rfl
              · have hb9 : ¬ (mj_cnd .lt ((s_functionNamed n (upd i 36 (1 : Int32)) l I J (l 41)).1) (0 : Int32) = true) := hb9
                refine ms0 (S' := .int (1 : Int32) :: _) dm_letters_115 rfl rfl rfl rfl ?_
                refine ms2 dm_letters_116 rfl rfl rfl ?_
                refine ms1 dm_letters_120 rfl rfl rfl rfl ?_
                refine ms1 dm_letters_121 rfl rfl rfl rfl ?_
                refine ms1 dm_letters_122 rfl rfl rfl rfl ?_
                refine ms_1f dm_letters_123 rfl (by decide) rfl ?_
                refine ms0 (S' := .int (4 : Int32) :: _) dm_letters_126 rfl rfl rfl rfl ?_
                refine ms2 dm_letters_127 rfl rfl rfl ?_
                refine ms3 dm_letters_131 (r_puti hm h2 rfl (rF_lt 38 rfl) (rf_38 _ _ _ _)) rfl rfl rfl ?_
                refine ms1 dm_letters_134 rfl rfl rfl rfl ?_
                refine ms_1f dm_letters_135 rfl (by decide) rfl ?_
                refine ms1 dm_letters_138 rfl rfl rfl rfl ?_
                refine ms1 dm_letters_139 rfl rfl rfl rfl ?_
                refine ms3 dm_letters_140 (r_get (v := .int ((upd ((s_functionNamed n (upd i 36 (1 : Int32)) l I J (l 41)).2.1) 38 (4 : Int32)) 35)) hm h2 rfl (rg_35 _ _ _)) rfl rfl rfl ?_
                refine ms3 dm_letters_143 (r_puti hm h2 rfl (rF_lt 37 rfl) (rf_37 _ _ _ _)) rfl rfl rfl ?_
                have he : lp_letters (n + 1) 7 i l I J v w = ((), (upd (upd ((s_functionNamed n (upd i 36 (1 : Int32)) l I J (l 41)).2.1) 38 (4 : Int32)) 37 ((upd ((s_functionNamed n (upd i 36 (1 : Int32)) l I J (l 41)).2.1) 38 (4 : Int32)) 35)), ((s_functionNamed n (upd i 36 (1 : Int32)) l I J (l 41)).2.2.1), ((s_functionNamed n (upd i 36 (1 : Int32)) l I J (l 41)).2.2.2.1), ((s_functionNamed n (upd i 36 (1 : Int32)) l I J (l 41)).2.2.2.2)) := by
                  rw [lb_letters_7]
                  simp only [hb1, hb2, hb5, hb8, hb9, Bool.false_eq_true, if_true, if_false]
                rw [he]
                exact ms5 dm_letters_146 rfl rfl rfl
      · have hb1 : ¬ (mj_cnd .ge (v 1) (8 : Int32) = true) := hb1
        rw [if_neg hb1] at hok
        refine ms1 dm_letters_13 rfl rfl rfl rfl ?_
        refine ms1 dm_letters_14 rfl rfl rfl rfl ?_
        refine ms3 dm_letters_15 (r_get (v := .int (i 35)) hm h2 rfl (rg_35 _ _ _)) rfl rfl rfl ?_
        obtain ⟨ho, hok⟩ := hok
        refine ms4 dm_letters_18 rfl (r_inv (As := [.int (i 35)]) hm h2 rfl rfl rfl) (q_isLetter hm h2 ho) rfl rfl rfl ?_
        refine ms_1c dm_letters_21 rfl rfl (fun hb10 => ?_) (fun hb10 => ?_)
        · have hb10 : mj_cnd .eq (a_isLetter i l I J (i 35)) (0 : Int32) = true := hb10
          rw [if_pos hb10] at hok
          refine ms1 dm_letters_61 rfl rfl rfl rfl ?_
          refine ms1 dm_letters_62 rfl rfl rfl rfl ?_
          refine ms1 dm_letters_63 rfl rfl rfl rfl ?_
          refine ms3 dm_letters_64 (r_get (v := .int (i 35)) hm h2 rfl (rg_35 _ _ _)) rfl rfl rfl ?_
          obtain ⟨ho, hok⟩ := hok
          refine ms4 dm_letters_67 rfl (r_inv (As := [.int (i 35)]) hm h2 rfl rfl rfl) (q_isDigit hm h2 ho) rfl rfl rfl ?_
          refine ms_1c dm_letters_70 rfl rfl (fun hb11 => ?_) (fun hb11 => ?_)
          · have hb11 : mj_cnd .ne (a_isDigit i l I J (i 35)) (0 : Int32) = true := hb11
            rw [if_pos hb11] at hok
            refine ms0 (S' := .int (1 : Int32) :: _) dm_letters_84 rfl rfl rfl rfl ?_
            refine ms2 dm_letters_85 rfl rfl rfl ?_
            refine ms3 dm_letters_89 (r_putb (Or.inr rfl) hm h2 rfl (rF_lt 36 rfl) (rf_36 _ _ _ _)) rfl rfl rfl ?_
            refine ms1 dm_letters_92 rfl rfl rfl rfl ?_
            refine ms3 dm_letters_93 (r_get (v := .long (l 41)) hm h2 rfl (rg_41 _ _ _)) rfl rfl rfl ?_
            refine ms1 dm_letters_96 rfl rfl rfl rfl ?_
            refine ms3 dm_letters_97 (r_get (v := .long (l 42)) hm h2 rfl (rg_42 _ _ _)) rfl rfl rfl ?_
            refine ms0 dm_letters_100 rfl rfl rfl rfl ?_
            refine ms_1c dm_letters_101 rfl rfl (fun hb12 => ?_) (fun hb12 => ?_)
            · have hb12 : mj_cnd .eq (lg_cmp (l 41) (l 42)) (0 : Int32) = true := hb12
              rw [if_pos hb12] at hok
              refine ms0 (S' := .int (1 : Int32) :: _) dm_letters_115 rfl rfl rfl rfl ?_
              refine ms2 dm_letters_116 rfl rfl rfl ?_
              refine ms1 dm_letters_120 rfl rfl rfl rfl ?_
              refine ms1 dm_letters_121 rfl rfl rfl rfl ?_
              refine ms1 dm_letters_122 rfl rfl rfl rfl ?_
              refine ms_1f dm_letters_123 rfl (by decide) rfl ?_
              refine ms0 (S' := .int (4 : Int32) :: _) dm_letters_126 rfl rfl rfl rfl ?_
              refine ms2 dm_letters_127 rfl rfl rfl ?_
              refine ms3 dm_letters_131 (r_puti hm h2 rfl (rF_lt 38 rfl) (rf_38 _ _ _ _)) rfl rfl rfl ?_
              refine ms1 dm_letters_134 rfl rfl rfl rfl ?_
              refine ms_1f dm_letters_135 rfl (by decide) rfl ?_
              refine ms1 dm_letters_138 rfl rfl rfl rfl ?_
              refine ms1 dm_letters_139 rfl rfl rfl rfl ?_
              refine ms3 dm_letters_140 (r_get (v := .int ((upd (upd i 36 (1 : Int32)) 38 (4 : Int32)) 35)) hm h2 rfl (rg_35 _ _ _)) rfl rfl rfl ?_
              refine ms3 dm_letters_143 (r_puti hm h2 rfl (rF_lt 37 rfl) (rf_37 _ _ _ _)) rfl rfl rfl ?_
              have he : lp_letters (n + 1) 7 i l I J v w = ((), (upd (upd (upd i 36 (1 : Int32)) 38 (4 : Int32)) 37 ((upd (upd i 36 (1 : Int32)) 38 (4 : Int32)) 35)), l, I, J) := by
                rw [lb_letters_7]
                simp only [hb1, hb10, hb11, hb12, Bool.false_eq_true, if_true, if_false]
              rw [he]
              exact ms5 dm_letters_146 rfl rfl rfl
            · have hb12 : ¬ (mj_cnd .eq (lg_cmp (l 41) (l 42)) (0 : Int32) = true) := hb12
              rw [if_neg hb12] at hok
              refine ms1 dm_letters_104 rfl rfl rfl rfl ?_
              refine ms1 dm_letters_105 rfl rfl rfl rfl ?_
              refine ms3 dm_letters_106 (r_get (v := .long (l 41)) hm h2 rfl (rg_41 _ _ _)) rfl rfl rfl ?_
              obtain ⟨ho, hok⟩ := hok
              refine ms4 dm_letters_109 rfl (r_inv (As := [.long (l 41)]) hm h2 rfl rfl rfl) (q_functionNamed hm h2 ho) rfl rfl rfl ?_
              refine ms_1c dm_letters_112 rfl rfl (fun hb13 => ?_) (fun hb13 => ?_)
              · have hb13 : mj_cnd .lt ((s_functionNamed n (upd i 36 (1 : Int32)) l I J (l 41)).1) (0 : Int32) = true := hb13
                refine ms0 (S' := .int (0 : Int32) :: _) dm_letters_119 rfl rfl rfl rfl ?_
                refine ms1 dm_letters_120 rfl rfl rfl rfl ?_
                refine ms1 dm_letters_121 rfl rfl rfl rfl ?_
                refine ms1 dm_letters_122 rfl rfl rfl rfl ?_
                refine ms_1t dm_letters_123 rfl rfl ?_
                refine ms0 (S' := .int (3 : Int32) :: _) dm_letters_130 rfl rfl rfl rfl ?_
                refine ms3 dm_letters_131 (r_puti hm h2 rfl (rF_lt 38 rfl) (rf_38 _ _ _ _)) rfl rfl rfl ?_
                refine ms1 dm_letters_134 rfl rfl rfl rfl ?_
                refine ms_1t dm_letters_135 rfl rfl ?_
                have he : lp_letters (n + 1) 7 i l I J v w = ((), (upd ((s_functionNamed n (upd i 36 (1 : Int32)) l I J (l 41)).2.1) 38 (3 : Int32)), ((s_functionNamed n (upd i 36 (1 : Int32)) l I J (l 41)).2.2.1), ((s_functionNamed n (upd i 36 (1 : Int32)) l I J (l 41)).2.2.2.1), ((s_functionNamed n (upd i 36 (1 : Int32)) l I J (l 41)).2.2.2.2)) := by
                  rw [lb_letters_7]
                  simp only [hb1, hb10, hb11, hb12, hb13, Bool.false_eq_true, if_true, if_false]
                rw [he]
                exact ms5 dm_letters_146 rfl rfl rfl
              · have hb13 : ¬ (mj_cnd .lt ((s_functionNamed n (upd i 36 (1 : Int32)) l I J (l 41)).1) (0 : Int32) = true) := hb13
                refine ms0 (S' := .int (1 : Int32) :: _) dm_letters_115 rfl rfl rfl rfl ?_
                refine ms2 dm_letters_116 rfl rfl rfl ?_
                refine ms1 dm_letters_120 rfl rfl rfl rfl ?_
                refine ms1 dm_letters_121 rfl rfl rfl rfl ?_
                refine ms1 dm_letters_122 rfl rfl rfl rfl ?_
                refine ms_1f dm_letters_123 rfl (by decide) rfl ?_
                refine ms0 (S' := .int (4 : Int32) :: _) dm_letters_126 rfl rfl rfl rfl ?_
                refine ms2 dm_letters_127 rfl rfl rfl ?_
                refine ms3 dm_letters_131 (r_puti hm h2 rfl (rF_lt 38 rfl) (rf_38 _ _ _ _)) rfl rfl rfl ?_
                refine ms1 dm_letters_134 rfl rfl rfl rfl ?_
                refine ms_1f dm_letters_135 rfl (by decide) rfl ?_
                refine ms1 dm_letters_138 rfl rfl rfl rfl ?_
                refine ms1 dm_letters_139 rfl rfl rfl rfl ?_
                refine ms3 dm_letters_140 (r_get (v := .int ((upd ((s_functionNamed n (upd i 36 (1 : Int32)) l I J (l 41)).2.1) 38 (4 : Int32)) 35)) hm h2 rfl (rg_35 _ _ _)) rfl rfl rfl ?_
                refine ms3 dm_letters_143 (r_puti hm h2 rfl (rF_lt 37 rfl) (rf_37 _ _ _ _)) rfl rfl rfl ?_
                have he : lp_letters (n + 1) 7 i l I J v w = ((), (upd (upd ((s_functionNamed n (upd i 36 (1 : Int32)) l I J (l 41)).2.1) 38 (4 : Int32)) 37 ((upd ((s_functionNamed n (upd i 36 (1 : Int32)) l I J (l 41)).2.1) 38 (4 : Int32)) 35)), ((s_functionNamed n (upd i 36 (1 : Int32)) l I J (l 41)).2.2.1), ((s_functionNamed n (upd i 36 (1 : Int32)) l I J (l 41)).2.2.2.1), ((s_functionNamed n (upd i 36 (1 : Int32)) l I J (l 41)).2.2.2.2)) := by
                  rw [lb_letters_7]
                  simp only [hb1, hb10, hb11, hb12, hb13, Bool.false_eq_true, if_true, if_false]
                rw [he]
                exact ms5 dm_letters_146 rfl rfl rfl
          · have hb11 : ¬ (mj_cnd .ne (a_isDigit i l I J (i 35)) (0 : Int32) = true) := hb11
            rw [if_neg hb11] at hok
            refine ms1 dm_letters_73 rfl rfl rfl rfl ?_
            refine ms1 dm_letters_74 rfl rfl rfl rfl ?_
            refine ms3 dm_letters_75 (r_get (v := .int (i 35)) hm h2 rfl (rg_35 _ _ _)) rfl rfl rfl ?_
            obtain ⟨ho, hok⟩ := hok
            refine ms4 dm_letters_78 rfl (r_inv (As := [.int (i 35)]) hm h2 rfl rfl rfl) (q_isLetter hm h2 ho) rfl rfl rfl ?_
            refine ms_1t dm_letters_81 rfl hb10 ?_
            refine ms0 (S' := .int (0 : Int32) :: _) dm_letters_88 rfl rfl rfl rfl ?_
            refine ms3 dm_letters_89 (r_putb (Or.inl rfl) hm h2 rfl (rF_lt 36 rfl) (rf_36 _ _ _ _)) rfl rfl rfl ?_
            refine ms1 dm_letters_92 rfl rfl rfl rfl ?_
            refine ms3 dm_letters_93 (r_get (v := .long (l 41)) hm h2 rfl (rg_41 _ _ _)) rfl rfl rfl ?_
            refine ms1 dm_letters_96 rfl rfl rfl rfl ?_
            refine ms3 dm_letters_97 (r_get (v := .long (l 42)) hm h2 rfl (rg_42 _ _ _)) rfl rfl rfl ?_
            refine ms0 dm_letters_100 rfl rfl rfl rfl ?_
            refine ms_1c dm_letters_101 rfl rfl (fun hb14 => ?_) (fun hb14 => ?_)
            · have hb14 : mj_cnd .eq (lg_cmp (l 41) (l 42)) (0 : Int32) = true := hb14
              rw [if_pos hb14] at hok
              refine ms0 (S' := .int (1 : Int32) :: _) dm_letters_115 rfl rfl rfl rfl ?_
              refine ms2 dm_letters_116 rfl rfl rfl ?_
              refine ms1 dm_letters_120 rfl rfl rfl rfl ?_
              refine ms1 dm_letters_121 rfl rfl rfl rfl ?_
              refine ms1 dm_letters_122 rfl rfl rfl rfl ?_
              refine ms_1f dm_letters_123 rfl (by decide) rfl ?_
              refine ms0 (S' := .int (4 : Int32) :: _) dm_letters_126 rfl rfl rfl rfl ?_
              refine ms2 dm_letters_127 rfl rfl rfl ?_
              refine ms3 dm_letters_131 (r_puti hm h2 rfl (rF_lt 38 rfl) (rf_38 _ _ _ _)) rfl rfl rfl ?_
              refine ms1 dm_letters_134 rfl rfl rfl rfl ?_
              refine ms_1f dm_letters_135 rfl (by decide) rfl ?_
              refine ms1 dm_letters_138 rfl rfl rfl rfl ?_
              refine ms1 dm_letters_139 rfl rfl rfl rfl ?_
              refine ms3 dm_letters_140 (r_get (v := .int ((upd (upd i 36 (0 : Int32)) 38 (4 : Int32)) 35)) hm h2 rfl (rg_35 _ _ _)) rfl rfl rfl ?_
              refine ms3 dm_letters_143 (r_puti hm h2 rfl (rF_lt 37 rfl) (rf_37 _ _ _ _)) rfl rfl rfl ?_
              have he : lp_letters (n + 1) 7 i l I J v w = ((), (upd (upd (upd i 36 (0 : Int32)) 38 (4 : Int32)) 37 ((upd (upd i 36 (0 : Int32)) 38 (4 : Int32)) 35)), l, I, J) := by
                rw [lb_letters_7]
                simp only [hb1, hb10, hb11, hb14, Bool.false_eq_true, if_true, if_false]
              rw [he]
              exact ms5 dm_letters_146 rfl rfl rfl
            · have hb14 : ¬ (mj_cnd .eq (lg_cmp (l 41) (l 42)) (0 : Int32) = true) := hb14
              rw [if_neg hb14] at hok
              refine ms1 dm_letters_104 rfl rfl rfl rfl ?_
              refine ms1 dm_letters_105 rfl rfl rfl rfl ?_
              refine ms3 dm_letters_106 (r_get (v := .long (l 41)) hm h2 rfl (rg_41 _ _ _)) rfl rfl rfl ?_
              obtain ⟨ho, hok⟩ := hok
              refine ms4 dm_letters_109 rfl (r_inv (As := [.long (l 41)]) hm h2 rfl rfl rfl) (q_functionNamed hm h2 ho) rfl rfl rfl ?_
              refine ms_1c dm_letters_112 rfl rfl (fun hb15 => ?_) (fun hb15 => ?_)
              · have hb15 : mj_cnd .lt ((s_functionNamed n (upd i 36 (0 : Int32)) l I J (l 41)).1) (0 : Int32) = true := hb15
                refine ms0 (S' := .int (0 : Int32) :: _) dm_letters_119 rfl rfl rfl rfl ?_
                refine ms1 dm_letters_120 rfl rfl rfl rfl ?_
                refine ms1 dm_letters_121 rfl rfl rfl rfl ?_
                refine ms1 dm_letters_122 rfl rfl rfl rfl ?_
                refine ms_1t dm_letters_123 rfl rfl ?_
                refine ms0 (S' := .int (3 : Int32) :: _) dm_letters_130 rfl rfl rfl rfl ?_
                refine ms3 dm_letters_131 (r_puti hm h2 rfl (rF_lt 38 rfl) (rf_38 _ _ _ _)) rfl rfl rfl ?_
                refine ms1 dm_letters_134 rfl rfl rfl rfl ?_
                refine ms_1t dm_letters_135 rfl rfl ?_
                have he : lp_letters (n + 1) 7 i l I J v w = ((), (upd ((s_functionNamed n (upd i 36 (0 : Int32)) l I J (l 41)).2.1) 38 (3 : Int32)), ((s_functionNamed n (upd i 36 (0 : Int32)) l I J (l 41)).2.2.1), ((s_functionNamed n (upd i 36 (0 : Int32)) l I J (l 41)).2.2.2.1), ((s_functionNamed n (upd i 36 (0 : Int32)) l I J (l 41)).2.2.2.2)) := by
                  rw [lb_letters_7]
                  simp only [hb1, hb10, hb11, hb14, hb15, Bool.false_eq_true, if_true, if_false]
                rw [he]
                exact ms5 dm_letters_146 rfl rfl rfl
              · have hb15 : ¬ (mj_cnd .lt ((s_functionNamed n (upd i 36 (0 : Int32)) l I J (l 41)).1) (0 : Int32) = true) := hb15
                refine ms0 (S' := .int (1 : Int32) :: _) dm_letters_115 rfl rfl rfl rfl ?_
                refine ms2 dm_letters_116 rfl rfl rfl ?_
                refine ms1 dm_letters_120 rfl rfl rfl rfl ?_
                refine ms1 dm_letters_121 rfl rfl rfl rfl ?_
                refine ms1 dm_letters_122 rfl rfl rfl rfl ?_
                refine ms_1f dm_letters_123 rfl (by decide) rfl ?_
                refine ms0 (S' := .int (4 : Int32) :: _) dm_letters_126 rfl rfl rfl rfl ?_
                refine ms2 dm_letters_127 rfl rfl rfl ?_
                refine ms3 dm_letters_131 (r_puti hm h2 rfl (rF_lt 38 rfl) (rf_38 _ _ _ _)) rfl rfl rfl ?_
                refine ms1 dm_letters_134 rfl rfl rfl rfl ?_
                refine ms_1f dm_letters_135 rfl (by decide) rfl ?_
                refine ms1 dm_letters_138 rfl rfl rfl rfl ?_
                refine ms1 dm_letters_139 rfl rfl rfl rfl ?_
                refine ms3 dm_letters_140 (r_get (v := .int ((upd ((s_functionNamed n (upd i 36 (0 : Int32)) l I J (l 41)).2.1) 38 (4 : Int32)) 35)) hm h2 rfl (rg_35 _ _ _)) rfl rfl rfl ?_
                refine ms3 dm_letters_143 (r_puti hm h2 rfl (rF_lt 37 rfl) (rf_37 _ _ _ _)) rfl rfl rfl ?_
                have he : lp_letters (n + 1) 7 i l I J v w = ((), (upd (upd ((s_functionNamed n (upd i 36 (0 : Int32)) l I J (l 41)).2.1) 38 (4 : Int32)) 37 ((upd ((s_functionNamed n (upd i 36 (0 : Int32)) l I J (l 41)).2.1) 38 (4 : Int32)) 35)), ((s_functionNamed n (upd i 36 (0 : Int32)) l I J (l 41)).2.2.1), ((s_functionNamed n (upd i 36 (0 : Int32)) l I J (l 41)).2.2.2.1), ((s_functionNamed n (upd i 36 (0 : Int32)) l I J (l 41)).2.2.2.2)) := by
                  rw [lb_letters_7]
                  simp only [hb1, hb10, hb11, hb14, hb15, Bool.false_eq_true, if_true, if_false]
                rw [he]
                exact ms5 dm_letters_146 rfl rfl rfl
        · have hb10 : ¬ (mj_cnd .eq (a_isLetter i l I J (i 35)) (0 : Int32) = true) := hb10
          rw [if_neg hb10] at hok
          refine ms1 dm_letters_24 rfl rfl rfl rfl ?_
          refine ms1 dm_letters_25 rfl rfl rfl rfl ?_
          refine ms3 dm_letters_26 (r_get (v := .long (l 41)) hm h2 rfl (rg_41 _ _ _)) rfl rfl rfl ?_
          refine ms0 (S' := .int (8 : Int32) :: _) dm_letters_29 rfl rfl rfl rfl ?_
          refine ms0 dm_letters_31 rfl rfl rfl rfl ?_
          refine ms1 dm_letters_32 rfl rfl rfl rfl ?_
          refine ms1 dm_letters_33 rfl rfl rfl rfl ?_
          refine ms3 dm_letters_34 (r_get (v := .int (i 35)) hm h2 rfl (rg_35 _ _ _)) rfl rfl rfl ?_
          obtain ⟨ho, hok⟩ := hok
          refine ms4 dm_letters_37 rfl (r_inv (As := [.int (i 35)]) hm h2 rfl rfl rfl) (q_byteAt hm h2 ho) rfl rfl rfl ?_
          refine ms0 dm_letters_40 rfl rfl rfl rfl ?_
          refine ms0 dm_letters_41 rfl rfl rfl rfl ?_
          refine ms3 dm_letters_42 (r_putl hm h2 rfl (rF_lt 41 rfl) (rf_41 _ _ _ _)) rfl rfl rfl ?_
          have he : lp_letters (n + 1) 7 i l I J v w = lp_letters n 45 i (vp_updL l 41 (((l 41) <<< (((8 : Int32)).toInt64 &&& 63)) ||| ((a_byteAt i l I J (i 35))).toInt64)) I J v w := by
            rw [lb_letters_7]
            simp only [hb1, hb10, Bool.false_eq_true, if_true, if_false]
          rw [he]
          exact mjR_sub rfl rfl rfl (ih.2 _ _ _ _ _ _ hok)
    · intro i l I J v w hok
      have hok : okl_letters n 7 (upd i 35 ((i 35) + (1 : Int32))) l I J (upd v 1 ((v 1) + Int32.ofInt (1))) w := hok
      refine ms1 dm_letters_45 rfl rfl rfl rfl ?_
      refine ms0 dm_letters_46 rfl rfl rfl rfl ?_
      refine ms3 dm_letters_47 (r_get (v := .int (i 35)) hm h2 rfl (rg_35 _ _ _)) rfl rfl rfl ?_
      refine ms0 (S' := .int (1 : Int32) :: _) dm_letters_50 rfl rfl rfl rfl ?_
      refine ms0 dm_letters_51 rfl rfl rfl rfl ?_
      refine ms3 dm_letters_52 (r_puti hm h2 rfl (rF_lt 35 rfl) (rf_35 _ _ _ _)) rfl rfl rfl ?_
      refine ms1 dm_letters_55 rfl rfl rfl rfl ?_
      refine ms2 dm_letters_58 rfl rfl rfl ?_
      have he : lp_letters (n + 1) 45 i l I J v w = lp_letters n 7 (upd i 35 ((i 35) + (1 : Int32))) l I J (upd v 1 ((v 1) + Int32.ofInt (1))) w := by
        rw [lb_letters_45]
      rw [he]
      exact mjR_sub rfl rfl rfl (ih.1 _ _ _ _ _ _ hok)
set_option maxRecDepth 20000 in
theorem q_letters {xt : mj_X} {pre post : mj_H} {m : Nat} {i : Nat → Int32} {l : Nat → Int64} {I : Nat → Nat → Int32} {J : Nat → Nat → Int64} {d : Nat} (hm : pre.length = m) (h2 : 2 ≤ m)  {n : Nat} (hok : ok_letters n i l I J ) : pgC xt (d + 3) k_letters (.ref m :: []) (rH pre post m i l I J) none (rH pre post m (s_letters n i l I J ).2.1 (s_letters n i l I J ).2.2.1 (s_letters n i l I J ).2.2.2.1 (s_letters n i l I J ).2.2.2.2) := by
  unfold ok_letters at hok
  refine ms_call pm_letters (Nat.le_of_ble_eq_true rfl) ?_
  dsimp only
  refine ms1 dm_letters_0 rfl rfl rfl rfl ?_
  refine ms0 (S' := .long (0 : Int64) :: _) dm_letters_1 rfl rfl rfl rfl ?_
  refine ms3 dm_letters_2 (r_putl hm h2 rfl (rF_lt 41 rfl) (rf_41 _ _ _ _)) rfl rfl rfl ?_
  refine ms0 (S' := .int (0 : Int32) :: _) dm_letters_5 rfl rfl rfl rfl ?_
  refine ms1 dm_letters_6 rfl rfl rfl rfl ?_
  have he : s_letters n i l I J  = lp_letters n 7 i (vp_updL l 41 (0 : Int64)) I J (upd (fun _ => 0) 1 (0 : Int32)) (fun _ => 0) := by
    unfold s_letters
    rfl
  rw [he]
  exact mjR_sub rfl rfl rfl ((ql_letters hm h2 n).1 _ _ _ _ _ _ hok)
def k_quote : Nat := 208
set_option maxRecDepth 20000 in
theorem pm_quote : mj_mmof pg_ms k_quote = some ((⟨"ArrayCalculatorModel", "quote", "()V"⟩, prog_14_method_76_code, 2, (Option.none : Option Jvm.ClassFile.FieldType)), 12, false, mj_dec prog_14_method_76_code) := rfl
theorem dm_quote_0 : mj_dec prog_14_method_76_code 0 = some (.iconst 0, 1) := by decide +kernel
theorem dm_quote_1 : mj_dec prog_14_method_76_code 1 = some (.istore_n 1, 1) := by decide +kernel
theorem dm_quote_2 : mj_dec prog_14_method_76_code 2 = some (.aload_n 0, 1) := by decide +kernel
theorem dm_quote_3 : mj_dec prog_14_method_76_code 3 = some (.aload_n 0, 1) := by decide +kernel
theorem dm_quote_4 : mj_dec prog_14_method_76_code 4 = some (.getfield 383, 3) := by decide +kernel
theorem dm_quote_7 : mj_dec prog_14_method_76_code 7 = some (.iconst 1, 1) := by decide +kernel
theorem dm_quote_8 : mj_dec prog_14_method_76_code 8 = some (.iadd, 1) := by decide +kernel
theorem dm_quote_9 : mj_dec prog_14_method_76_code 9 = some (.iload_n 1, 1) := by decide +kernel
theorem dm_quote_10 : mj_dec prog_14_method_76_code 10 = some (.iadd, 1) := by decide +kernel
theorem dm_quote_11 : mj_dec prog_14_method_76_code 11 = some (.invokevirtual 373, 3) := by decide +kernel
theorem dm_quote_14 : mj_dec prog_14_method_76_code 14 = some (.bipush 32, 2) := by decide +kernel
theorem dm_quote_16 : mj_dec prog_14_method_76_code 16 = some (.if_icmp .lt 43, 3) := by decide +kernel
theorem dm_quote_19 : mj_dec prog_14_method_76_code 19 = some (.aload_n 0, 1) := by decide +kernel
theorem dm_quote_20 : mj_dec prog_14_method_76_code 20 = some (.aload_n 0, 1) := by decide +kernel
theorem dm_quote_21 : mj_dec prog_14_method_76_code 21 = some (.getfield 383, 3) := by decide +kernel
theorem dm_quote_24 : mj_dec prog_14_method_76_code 24 = some (.iconst 1, 1) := by decide +kernel
theorem dm_quote_25 : mj_dec prog_14_method_76_code 25 = some (.iadd, 1) := by decide +kernel
theorem dm_quote_26 : mj_dec prog_14_method_76_code 26 = some (.iload_n 1, 1) := by decide +kernel
theorem dm_quote_27 : mj_dec prog_14_method_76_code 27 = some (.iadd, 1) := by decide +kernel
theorem dm_quote_28 : mj_dec prog_14_method_76_code 28 = some (.invokevirtual 373, 3) := by decide +kernel
theorem dm_quote_31 : mj_dec prog_14_method_76_code 31 = some (.bipush 126, 2) := by decide +kernel
theorem dm_quote_33 : mj_dec prog_14_method_76_code 33 = some (.if_icmp .gt 26, 3) := by decide +kernel
theorem dm_quote_36 : mj_dec prog_14_method_76_code 36 = some (.aload_n 0, 1) := by decide +kernel
theorem dm_quote_37 : mj_dec prog_14_method_76_code 37 = some (.aload_n 0, 1) := by decide +kernel
theorem dm_quote_38 : mj_dec prog_14_method_76_code 38 = some (.getfield 383, 3) := by decide +kernel
theorem dm_quote_41 : mj_dec prog_14_method_76_code 41 = some (.iconst 1, 1) := by decide +kernel
theorem dm_quote_42 : mj_dec prog_14_method_76_code 42 = some (.iadd, 1) := by decide +kernel
theorem dm_quote_43 : mj_dec prog_14_method_76_code 43 = some (.iload_n 1, 1) := by decide +kernel
theorem dm_quote_44 : mj_dec prog_14_method_76_code 44 = some (.iadd, 1) := by decide +kernel
theorem dm_quote_45 : mj_dec prog_14_method_76_code 45 = some (.invokevirtual 373, 3) := by decide +kernel
theorem dm_quote_48 : mj_dec prog_14_method_76_code 48 = some (.bipush 39, 2) := by decide +kernel
theorem dm_quote_50 : mj_dec prog_14_method_76_code 50 = some (.if_icmp .eq 9, 3) := by decide +kernel
theorem dm_quote_53 : mj_dec prog_14_method_76_code 53 = some (.iinc 1 1, 3) := by decide +kernel
theorem dm_quote_56 : mj_dec prog_14_method_76_code 56 = some (.goto (-54), 3) := by decide +kernel
theorem dm_quote_59 : mj_dec prog_14_method_76_code 59 = some (.aload_n 0, 1) := by decide +kernel
theorem dm_quote_60 : mj_dec prog_14_method_76_code 60 = some (.iload_n 1, 1) := by decide +kernel
theorem dm_quote_61 : mj_dec prog_14_method_76_code 61 = some (.ifCond .eq 26, 3) := by decide +kernel
theorem dm_quote_64 : mj_dec prog_14_method_76_code 64 = some (.iload_n 1, 1) := by decide +kernel
theorem dm_quote_65 : mj_dec prog_14_method_76_code 65 = some (.bipush 60, 2) := by decide +kernel
theorem dm_quote_67 : mj_dec prog_14_method_76_code 67 = some (.if_icmp .gt 20, 3) := by decide +kernel
theorem dm_quote_70 : mj_dec prog_14_method_76_code 70 = some (.aload_n 0, 1) := by decide +kernel
theorem dm_quote_71 : mj_dec prog_14_method_76_code 71 = some (.aload_n 0, 1) := by decide +kernel
theorem dm_quote_72 : mj_dec prog_14_method_76_code 72 = some (.getfield 383, 3) := by decide +kernel
theorem dm_quote_75 : mj_dec prog_14_method_76_code 75 = some (.iconst 1, 1) := by decide +kernel
theorem dm_quote_76 : mj_dec prog_14_method_76_code 76 = some (.iadd, 1) := by decide +kernel
theorem dm_quote_77 : mj_dec prog_14_method_76_code 77 = some (.iload_n 1, 1) := by decide +kernel
theorem dm_quote_78 : mj_dec prog_14_method_76_code 78 = some (.iadd, 1) := by decide +kernel
theorem dm_quote_79 : mj_dec prog_14_method_76_code 79 = some (.invokevirtual 373, 3) := by decide +kernel
theorem dm_quote_82 : mj_dec prog_14_method_76_code 82 = some (.bipush 39, 2) := by decide +kernel
theorem dm_quote_84 : mj_dec prog_14_method_76_code 84 = some (.if_icmp .eq 8, 3) := by decide +kernel
theorem dm_quote_87 : mj_dec prog_14_method_76_code 87 = some (.bipush 8, 2) := by decide +kernel
theorem dm_quote_89 : mj_dec prog_14_method_76_code 89 = some (.goto 4, 3) := by decide +kernel
theorem dm_quote_92 : mj_dec prog_14_method_76_code 92 = some (.iconst 2, 1) := by decide +kernel
theorem dm_quote_93 : mj_dec prog_14_method_76_code 93 = some (.putfield 380, 3) := by decide +kernel
theorem dm_quote_96 : mj_dec prog_14_method_76_code 96 = some (.aload_n 0, 1) := by decide +kernel
theorem dm_quote_97 : mj_dec prog_14_method_76_code 97 = some (.iload_n 1, 1) := by decide +kernel
theorem dm_quote_98 : mj_dec prog_14_method_76_code 98 = some (.putfield 414, 3) := by decide +kernel
theorem dm_quote_101 : mj_dec prog_14_method_76_code 101 = some (.aload_n 0, 1) := by decide +kernel
theorem dm_quote_102 : mj_dec prog_14_method_76_code 102 = some (.getfield 380, 3) := by decide +kernel
theorem dm_quote_105 : mj_dec prog_14_method_76_code 105 = some (.iconst 2, 1) := by decide +kernel
theorem dm_quote_106 : mj_dec prog_14_method_76_code 106 = some (.if_icmp .ne 15, 3) := by decide +kernel
theorem dm_quote_109 : mj_dec prog_14_method_76_code 109 = some (.aload_n 0, 1) := by decide +kernel
theorem dm_quote_110 : mj_dec prog_14_method_76_code 110 = some (.dup, 1) := by decide +kernel
theorem dm_quote_111 : mj_dec prog_14_method_76_code 111 = some (.getfield 383, 3) := by decide +kernel
theorem dm_quote_114 : mj_dec prog_14_method_76_code 114 = some (.iload_n 1, 1) := by decide +kernel
theorem dm_quote_115 : mj_dec prog_14_method_76_code 115 = some (.iconst 2, 1) := by decide +kernel
theorem dm_quote_116 : mj_dec prog_14_method_76_code 116 = some (.iadd, 1) := by decide +kernel
theorem dm_quote_117 : mj_dec prog_14_method_76_code 117 = some (.iadd, 1) := by decide +kernel
theorem dm_quote_118 : mj_dec prog_14_method_76_code 118 = some (.putfield 383, 3) := by decide +kernel
theorem dm_quote_121 : mj_dec prog_14_method_76_code 121 = some (.return_, 1) := by decide +kernel
def lp_quote : Nat → Nat → (Nat → Int32) → (Nat → Int64) → (Nat → Nat → Int32) → (Nat → Nat → Int64) → (Nat → Int32) → (Nat → Int64) → Unit × (Nat → Int32) × (Nat → Int64) × (Nat → Nat → Int32) × (Nat → Nat → Int64)
  | 0, _, i, l, I, J, _, _ => ((), i, l, I, J)
  | n + 1, hd, i, l, I, J, v, w => match hd with
    | 2 => (if mj_cnd .lt (a_byteAt i l I J (((i 35) + (1 : Int32)) + (v 1))) (32 : Int32) = true then (if mj_cnd .eq (v 1) (0 : Int32) = true then ((), (upd (upd i 38 (8 : Int32)) 40 (v 1)), l, I, J) else (if mj_cnd .gt (v 1) (60 : Int32) = true then ((), (upd (upd i 38 (8 : Int32)) 40 (v 1)), l, I, J) else (if mj_cnd .eq (a_byteAt i l I J (((i 35) + (1 : Int32)) + (v 1))) (39 : Int32) = true then ((), (upd (upd (upd i 38 (2 : Int32)) 40 (v 1)) 35 (((upd (upd i 38 (2 : Int32)) 40 (v 1)) 35) + ((v 1) + (2 : Int32)))), l, I, J) else ((), (upd (upd i 38 (8 : Int32)) 40 (v 1)), l, I, J)))) else (if mj_cnd .gt (a_byteAt i l I J (((i 35) + (1 : Int32)) + (v 1))) (126 : Int32) = true then (if mj_cnd .eq (v 1) (0 : Int32) = true then ((), (upd (upd i 38 (8 : Int32)) 40 (v 1)), l, I, J) else (if mj_cnd .gt (v 1) (60 : Int32) = true then ((), (upd (upd i 38 (8 : Int32)) 40 (v 1)), l, I, J) else (if mj_cnd .eq (a_byteAt i l I J (((i 35) + (1 : Int32)) + (v 1))) (39 : Int32) = true then ((), (upd (upd (upd i 38 (2 : Int32)) 40 (v 1)) 35 (((upd (upd i 38 (2 : Int32)) 40 (v 1)) 35) + ((v 1) + (2 : Int32)))), l, I, J) else ((), (upd (upd i 38 (8 : Int32)) 40 (v 1)), l, I, J)))) else (if mj_cnd .eq (a_byteAt i l I J (((i 35) + (1 : Int32)) + (v 1))) (39 : Int32) = true then (if mj_cnd .eq (v 1) (0 : Int32) = true then ((), (upd (upd i 38 (8 : Int32)) 40 (v 1)), l, I, J) else (if mj_cnd .gt (v 1) (60 : Int32) = true then ((), (upd (upd i 38 (8 : Int32)) 40 (v 1)), l, I, J) else ((), (upd (upd (upd i 38 (2 : Int32)) 40 (v 1)) 35 (((upd (upd i 38 (2 : Int32)) 40 (v 1)) 35) + ((v 1) + (2 : Int32)))), l, I, J))) else lp_quote n 2 i l I J (upd v 1 ((v 1) + Int32.ofInt (1))) w)))
    | _ => ((), i, l, I, J)
theorem lb_quote_2 (n : Nat) (i : Nat → Int32) (l : Nat → Int64) (I : Nat → Nat → Int32) (J : Nat → Nat → Int64) (v : Nat → Int32) (w : Nat → Int64) : lp_quote (n + 1) 2 i l I J v w = (if mj_cnd .lt (a_byteAt i l I J (((i 35) + (1 : Int32)) + (v 1))) (32 : Int32) = true then (if mj_cnd .eq (v 1) (0 : Int32) = true then ((), (upd (upd i 38 (8 : Int32)) 40 (v 1)), l, I, J) else (if mj_cnd .gt (v 1) (60 : Int32) = true then ((), (upd (upd i 38 (8 : Int32)) 40 (v 1)), l, I, J) else (if mj_cnd .eq (a_byteAt i l I J (((i 35) + (1 : Int32)) + (v 1))) (39 : Int32) = true then ((), (upd (upd (upd i 38 (2 : Int32)) 40 (v 1)) 35 (((upd (upd i 38 (2 : Int32)) 40 (v 1)) 35) + ((v 1) + (2 : Int32)))), l, I, J) else ((), (upd (upd i 38 (8 : Int32)) 40 (v 1)), l, I, J)))) else (if mj_cnd .gt (a_byteAt i l I J (((i 35) + (1 : Int32)) + (v 1))) (126 : Int32) = true then (if mj_cnd .eq (v 1) (0 : Int32) = true then ((), (upd (upd i 38 (8 : Int32)) 40 (v 1)), l, I, J) else (if mj_cnd .gt (v 1) (60 : Int32) = true then ((), (upd (upd i 38 (8 : Int32)) 40 (v 1)), l, I, J) else (if mj_cnd .eq (a_byteAt i l I J (((i 35) + (1 : Int32)) + (v 1))) (39 : Int32) = true then ((), (upd (upd (upd i 38 (2 : Int32)) 40 (v 1)) 35 (((upd (upd i 38 (2 : Int32)) 40 (v 1)) 35) + ((v 1) + (2 : Int32)))), l, I, J) else ((), (upd (upd i 38 (8 : Int32)) 40 (v 1)), l, I, J)))) else (if mj_cnd .eq (a_byteAt i l I J (((i 35) + (1 : Int32)) + (v 1))) (39 : Int32) = true then (if mj_cnd .eq (v 1) (0 : Int32) = true then ((), (upd (upd i 38 (8 : Int32)) 40 (v 1)), l, I, J) else (if mj_cnd .gt (v 1) (60 : Int32) = true then ((), (upd (upd i 38 (8 : Int32)) 40 (v 1)), l, I, J) else ((), (upd (upd (upd i 38 (2 : Int32)) 40 (v 1)) 35 (((upd (upd i 38 (2 : Int32)) 40 (v 1)) 35) + ((v 1) + (2 : Int32)))), l, I, J))) else lp_quote n 2 i l I J (upd v 1 ((v 1) + Int32.ofInt (1))) w))) := rfl
def okl_quote : Nat → Nat → (Nat → Int32) → (Nat → Int64) → (Nat → Nat → Int32) → (Nat → Nat → Int64) → (Nat → Int32) → (Nat → Int64) → Prop
  | 0, _, _, _, _, _, _, _ => False
  | n + 1, hd, i, l, I, J, v, w => match hd with
    | 2 => (ok_byteAt i l I J (((i 35) + (1 : Int32)) + (v 1)) ∧ (if mj_cnd .lt (a_byteAt i l I J (((i 35) + (1 : Int32)) + (v 1))) (32 : Int32) = true then (if mj_cnd .eq (v 1) (0 : Int32) = true then True else (if mj_cnd .gt (v 1) (60 : Int32) = true then True else (ok_byteAt i l I J (((i 35) + (1 : Int32)) + (v 1)) ∧ True))) else (ok_byteAt i l I J (((i 35) + (1 : Int32)) + (v 1)) ∧ (if mj_cnd .gt (a_byteAt i l I J (((i 35) + (1 : Int32)) + (v 1))) (126 : Int32) = true then (if mj_cnd .eq (v 1) (0 : Int32) = true then True else (if mj_cnd .gt (v 1) (60 : Int32) = true then True else (ok_byteAt i l I J (((i 35) + (1 : Int32)) + (v 1)) ∧ True))) else (ok_byteAt i l I J (((i 35) + (1 : Int32)) + (v 1)) ∧ (if mj_cnd .eq (a_byteAt i l I J (((i 35) + (1 : Int32)) + (v 1))) (39 : Int32) = true then (if mj_cnd .eq (v 1) (0 : Int32) = true then True else (if mj_cnd .gt (v 1) (60 : Int32) = true then True else (ok_byteAt i l I J (((i 35) + (1 : Int32)) + (v 1)) ∧ True))) else okl_quote n 2 i l I J (upd v 1 ((v 1) + Int32.ofInt (1))) w))))))
    | _ => False
def s_quote (n : Nat) (i : Nat → Int32) (l : Nat → Int64) (I : Nat → Nat → Int32) (J : Nat → Nat → Int64)  : Unit × (Nat → Int32) × (Nat → Int64) × (Nat → Nat → Int32) × (Nat → Nat → Int64) := lp_quote n 2 i l I J (upd (fun _ => 0) 1 (0 : Int32)) (fun _ => 0)
def ok_quote (n : Nat) (i : Nat → Int32) (l : Nat → Int64) (I : Nat → Nat → Int32) (J : Nat → Nat → Int64)  : Prop := okl_quote n 2 i l I J (upd (fun _ => 0) 1 (0 : Int32)) (fun _ => 0)
set_option maxRecDepth 20000 in
theorem ql_quote {xt : mj_X} {pre post : mj_H} {m : Nat} {d : Nat} (hm : pre.length = m) (h2 : 2 ≤ m) : ∀ n : Nat, (∀ i l I J v w, okl_quote n 2 i l I J v w → mjR (fun N => mj_call (mj_mmof pg_ms) (mj_TTof pg_TL) xt pg_tl 2 (d + 1) N) (mj_TTof pg_TL 12).1 (mj_TTof pg_TL 12).2 xt pg_tl 2 2 (d + 1) false (Option.none : Option Jvm.ClassFile.FieldType) (mj_dec prog_14_method_76_code) 2 [(0, .ref m), (1, .int (v 1))] [] (rH pre post m i l I J) none (rH pre post m (lp_quote n 2 i l I J v w).2.1 (lp_quote n 2 i l I J v w).2.2.1 (lp_quote n 2 i l I J v w).2.2.2.1 (lp_quote n 2 i l I J v w).2.2.2.2)) := by
  intro n
  induction n with
  | zero => exact fun i l I J v w h => absurd h id
  | succ n ih =>
    · intro i l I J v w hok
      have hok : (ok_byteAt i l I J (((i 35) + (1 : Int32)) + (v 1)) ∧ (if mj_cnd .lt (a_byteAt i l I J (((i 35) + (1 : Int32)) + (v 1))) (32 : Int32) = true then (if mj_cnd .eq (v 1) (0 : Int32) = true then True else (if mj_cnd .gt (v 1) (60 : Int32) = true then True else (ok_byteAt i l I J (((i 35) + (1 : Int32)) + (v 1)) ∧ True))) else (ok_byteAt i l I J (((i 35) + (1 : Int32)) + (v 1)) ∧ (if mj_cnd .gt (a_byteAt i l I J (((i 35) + (1 : Int32)) + (v 1))) (126 : Int32) = true then (if mj_cnd .eq (v 1) (0 : Int32) = true then True else (if mj_cnd .gt (v 1) (60 : Int32) = true then True else (ok_byteAt i l I J (((i 35) + (1 : Int32)) + (v 1)) ∧ True))) else (ok_byteAt i l I J (((i 35) + (1 : Int32)) + (v 1)) ∧ (if mj_cnd .eq (a_byteAt i l I J (((i 35) + (1 : Int32)) + (v 1))) (39 : Int32) = true then (if mj_cnd .eq (v 1) (0 : Int32) = true then True else (if mj_cnd .gt (v 1) (60 : Int32) = true then True else (ok_byteAt i l I J (((i 35) + (1 : Int32)) + (v 1)) ∧ True))) else okl_quote n 2 i l I J (upd v 1 ((v 1) + Int32.ofInt (1))) w)))))) := hok
      refine ms1 dm_quote_2 rfl rfl rfl rfl ?_
      refine ms1 dm_quote_3 rfl rfl rfl rfl ?_
      refine ms3 dm_quote_4 (r_get (v := .int (i 35)) hm h2 rfl (rg_35 _ _ _)) rfl rfl rfl ?_
      refine ms0 (S' := .int (1 : Int32) :: _) dm_quote_7 rfl rfl rfl rfl ?_
      refine ms0 dm_quote_8 rfl rfl rfl rfl ?_
      refine ms1 dm_quote_9 rfl rfl rfl rfl ?_
      refine ms0 dm_quote_10 rfl rfl rfl rfl ?_
      obtain ⟨ho, hok⟩ := hok
      refine ms4 dm_quote_11 rfl (r_inv (As := [.int (((i 35) + (1 : Int32)) + (v 1))]) hm h2 rfl rfl rfl) (q_byteAt hm h2 ho) rfl rfl rfl ?_
      refine ms0 (S' := .int (32 : Int32) :: _) dm_quote_14 rfl rfl rfl rfl ?_
      refine ms_2c dm_quote_16 rfl rfl (fun hb1 => ?_) (fun hb1 => ?_)
      · have hb1 : mj_cnd .lt (a_byteAt i l I J (((i 35) + (1 : Int32)) + (v 1))) (32 : Int32) = true := hb1
        rw [if_pos hb1] at hok
        refine ms1 dm_quote_59 rfl rfl rfl rfl ?_
        refine ms1 dm_quote_60 rfl rfl rfl rfl ?_
        refine ms_1c dm_quote_61 rfl rfl (fun hb2 => ?_) (fun hb2 => ?_)
        · have hb2 : mj_cnd .eq (v 1) (0 : Int32) = true := hb2
          rw [if_pos hb2] at hok
          refine ms0 (S' := .int (8 : Int32) :: _) dm_quote_87 rfl rfl rfl rfl ?_
          refine ms2 dm_quote_89 rfl rfl rfl ?_
          refine ms3 dm_quote_93 (r_puti hm h2 rfl (rF_lt 38 rfl) (rf_38 _ _ _ _)) rfl rfl rfl ?_
          refine ms1 dm_quote_96 rfl rfl rfl rfl ?_
          refine ms1 dm_quote_97 rfl rfl rfl rfl ?_
          refine ms3 dm_quote_98 (r_puti hm h2 rfl (rF_lt 40 rfl) (rf_40 _ _ _ _)) rfl rfl rfl ?_
          refine ms1 dm_quote_101 rfl rfl rfl rfl ?_
          refine ms3 dm_quote_102 (r_get (v := .int (8 : Int32)) hm h2 rfl (rg_38 _ _ _)) rfl rfl rfl ?_
          refine ms0 (S' := .int (2 : Int32) :: _) dm_quote_105 rfl rfl rfl rfl ?_
          refine ms_2t dm_quote_106 rfl rfl ?_
          have he : lp_quote (n + 1) 2 i l I J v w = ((), (upd (upd i 38 (8 : Int32)) 40 (v 1)), l, I, J) := by
            rw [lb_quote_2]
            simp only [hb1, hb2, Bool.false_eq_true, if_true, if_false]
          rw [he]
          exact ms5 dm_quote_121 rfl rfl rfl
        · have hb2 : ¬ (mj_cnd .eq (v 1) (0 : Int32) = true) := hb2
          rw [if_neg hb2] at hok
          refine ms1 dm_quote_64 rfl rfl rfl rfl ?_
          refine ms0 (S' := .int (60 : Int32) :: _) dm_quote_65 rfl rfl rfl rfl ?_
          refine ms_2c dm_quote_67 rfl rfl (fun hb3 => ?_) (fun hb3 => ?_)
          · have hb3 : mj_cnd .gt (v 1) (60 : Int32) = true := hb3
            rw [if_pos hb3] at hok
            refine ms0 (S' := .int (8 : Int32) :: _) dm_quote_87 rfl rfl rfl rfl ?_
            refine ms2 dm_quote_89 rfl rfl rfl ?_
            refine ms3 dm_quote_93 (r_puti hm h2 rfl (rF_lt 38 rfl) (rf_38 _ _ _ _)) rfl rfl rfl ?_
            refine ms1 dm_quote_96 rfl rfl rfl rfl ?_
            refine ms1 dm_quote_97 rfl rfl rfl rfl ?_
            refine ms3 dm_quote_98 (r_puti hm h2 rfl (rF_lt 40 rfl) (rf_40 _ _ _ _)) rfl rfl rfl ?_
            refine ms1 dm_quote_101 rfl rfl rfl rfl ?_
            refine ms3 dm_quote_102 (r_get (v := .int (8 : Int32)) hm h2 rfl (rg_38 _ _ _)) rfl rfl rfl ?_
            refine ms0 (S' := .int (2 : Int32) :: _) dm_quote_105 rfl rfl rfl rfl ?_
            refine ms_2t dm_quote_106 rfl rfl ?_
            have he : lp_quote (n + 1) 2 i l I J v w = ((), (upd (upd i 38 (8 : Int32)) 40 (v 1)), l, I, J) := by
              rw [lb_quote_2]
              simp only [hb1, hb2, hb3, Bool.false_eq_true, if_true, if_false]
            rw [he]
            exact ms5 dm_quote_121 rfl rfl rfl
          · have hb3 : ¬ (mj_cnd .gt (v 1) (60 : Int32) = true) := hb3
            rw [if_neg hb3] at hok
            refine ms1 dm_quote_70 rfl rfl rfl rfl ?_
            refine ms1 dm_quote_71 rfl rfl rfl rfl ?_
            refine ms3 dm_quote_72 (r_get (v := .int (i 35)) hm h2 rfl (rg_35 _ _ _)) rfl rfl rfl ?_
            refine ms0 (S' := .int (1 : Int32) :: _) dm_quote_75 rfl rfl rfl rfl ?_
            refine ms0 dm_quote_76 rfl rfl rfl rfl ?_
            refine ms1 dm_quote_77 rfl rfl rfl rfl ?_
            refine ms0 dm_quote_78 rfl rfl rfl rfl ?_
            obtain ⟨ho, hok⟩ := hok
            refine ms4 dm_quote_79 rfl (r_inv (As := [.int (((i 35) + (1 : Int32)) + (v 1))]) hm h2 rfl rfl rfl) (q_byteAt hm h2 ho) rfl rfl rfl ?_
            refine ms0 (S' := .int (39 : Int32) :: _) dm_quote_82 rfl rfl rfl rfl ?_
            refine ms_2c dm_quote_84 rfl rfl (fun hb4 => ?_) (fun hb4 => ?_)
            · have hb4 : mj_cnd .eq (a_byteAt i l I J (((i 35) + (1 : Int32)) + (v 1))) (39 : Int32) = true := hb4
              refine ms0 (S' := .int (2 : Int32) :: _) dm_quote_92 rfl rfl rfl rfl ?_
              refine ms3 dm_quote_93 (r_puti hm h2 rfl (rF_lt 38 rfl) (rf_38 _ _ _ _)) rfl rfl rfl ?_
              refine ms1 dm_quote_96 rfl rfl rfl rfl ?_
              refine ms1 dm_quote_97 rfl rfl rfl rfl ?_
              refine ms3 dm_quote_98 (r_puti hm h2 rfl (rF_lt 40 rfl) (rf_40 _ _ _ _)) rfl rfl rfl ?_
              refine ms1 dm_quote_101 rfl rfl rfl rfl ?_
              refine ms3 dm_quote_102 (r_get (v := .int (2 : Int32)) hm h2 rfl (rg_38 _ _ _)) rfl rfl rfl ?_
              refine ms0 (S' := .int (2 : Int32) :: _) dm_quote_105 rfl rfl rfl rfl ?_
              refine ms_2f dm_quote_106 rfl (by decide) rfl ?_
              refine ms1 dm_quote_109 rfl rfl rfl rfl ?_
              refine ms0 dm_quote_110 rfl rfl rfl rfl ?_
              refine ms3 dm_quote_111 (r_get (v := .int ((upd (upd i 38 (2 : Int32)) 40 (v 1)) 35)) hm h2 rfl (rg_35 _ _ _)) rfl rfl rfl ?_
              refine ms1 dm_quote_114 rfl rfl rfl rfl ?_
              refine ms0 (S' := .int (2 : Int32) :: _) dm_quote_115 rfl rfl rfl rfl ?_
              refine ms0 dm_quote_116 rfl rfl rfl rfl ?_
              refine ms0 dm_quote_117 rfl rfl rfl rfl ?_
              refine ms3 dm_quote_118 (r_puti hm h2 rfl (rF_lt 35 rfl) (rf_35 _ _ _ _)) rfl rfl rfl ?_
              have he : lp_quote (n + 1) 2 i l I J v w = ((), (upd (upd (upd i 38 (2 : Int32)) 40 (v 1)) 35 (((upd (upd i 38 (2 : Int32)) 40 (v 1)) 35) + ((v 1) + (2 : Int32)))), l, I, J) := by
                rw [lb_quote_2]
                simp only [hb1, hb2, hb3, hb4, Bool.false_eq_true, if_true, if_false]
              rw [he]
              exact ms5 dm_quote_121 rfl rfl rfl
            · have hb4 : ¬ (mj_cnd .eq (a_byteAt i l I J (((i 35) + (1 : Int32)) + (v 1))) (39 : Int32) = true) := hb4
              refine ms0 (S' := .int (8 : Int32) :: _) dm_quote_87 rfl rfl rfl rfl ?_
              refine ms2 dm_quote_89 rfl rfl rfl ?_
              refine ms3 dm_quote_93 (r_puti hm h2 rfl (rF_lt 38 rfl) (rf_38 _ _ _ _)) rfl rfl rfl ?_
              refine ms1 dm_quote_96 rfl rfl rfl rfl ?_
              refine ms1 dm_quote_97 rfl rfl rfl rfl ?_
              refine ms3 dm_quote_98 (r_puti hm h2 rfl (rF_lt 40 rfl) (rf_40 _ _ _ _)) rfl rfl rfl ?_
              refine ms1 dm_quote_101 rfl rfl rfl rfl ?_
              refine ms3 dm_quote_102 (r_get (v := .int (8 : Int32)) hm h2 rfl (rg_38 _ _ _)) rfl rfl rfl ?_
              refine ms0 (S' := .int (2 : Int32) :: _) dm_quote_105 rfl rfl rfl rfl ?_
              refine ms_2t dm_quote_106 rfl rfl ?_
              have he : lp_quote (n + 1) 2 i l I J v w = ((), (upd (upd i 38 (8 : Int32)) 40 (v 1)), l, I, J) := by
                rw [lb_quote_2]
                simp only [hb1, hb2, hb3, hb4, Bool.false_eq_true, if_true, if_false]
              rw [he]
              exact ms5 dm_quote_121 rfl rfl rfl
      · have hb1 : ¬ (mj_cnd .lt (a_byteAt i l I J (((i 35) + (1 : Int32)) + (v 1))) (32 : Int32) = true) := hb1
        rw [if_neg hb1] at hok
        refine ms1 dm_quote_19 rfl rfl rfl rfl ?_
        refine ms1 dm_quote_20 rfl rfl rfl rfl ?_
        refine ms3 dm_quote_21 (r_get (v := .int (i 35)) hm h2 rfl (rg_35 _ _ _)) rfl rfl rfl ?_
        refine ms0 (S' := .int (1 : Int32) :: _) dm_quote_24 rfl rfl rfl rfl ?_
        refine ms0 dm_quote_25 rfl rfl rfl rfl ?_
        refine ms1 dm_quote_26 rfl rfl rfl rfl ?_
        refine ms0 dm_quote_27 rfl rfl rfl rfl ?_
        obtain ⟨ho, hok⟩ := hok
        refine ms4 dm_quote_28 rfl (r_inv (As := [.int (((i 35) + (1 : Int32)) + (v 1))]) hm h2 rfl rfl rfl) (q_byteAt hm h2 ho) rfl rfl rfl ?_
        refine ms0 (S' := .int (126 : Int32) :: _) dm_quote_31 rfl rfl rfl rfl ?_
        refine ms_2c dm_quote_33 rfl rfl (fun hb5 => ?_) (fun hb5 => ?_)
        · have hb5 : mj_cnd .gt (a_byteAt i l I J (((i 35) + (1 : Int32)) + (v 1))) (126 : Int32) = true := hb5
          rw [if_pos hb5] at hok
          refine ms1 dm_quote_59 rfl rfl rfl rfl ?_
          refine ms1 dm_quote_60 rfl rfl rfl rfl ?_
          refine ms_1c dm_quote_61 rfl rfl (fun hb6 => ?_) (fun hb6 => ?_)
          · have hb6 : mj_cnd .eq (v 1) (0 : Int32) = true := hb6
            rw [if_pos hb6] at hok
            refine ms0 (S' := .int (8 : Int32) :: _) dm_quote_87 rfl rfl rfl rfl ?_
            refine ms2 dm_quote_89 rfl rfl rfl ?_
            refine ms3 dm_quote_93 (r_puti hm h2 rfl (rF_lt 38 rfl) (rf_38 _ _ _ _)) rfl rfl rfl ?_
            refine ms1 dm_quote_96 rfl rfl rfl rfl ?_
            refine ms1 dm_quote_97 rfl rfl rfl rfl ?_
            refine ms3 dm_quote_98 (r_puti hm h2 rfl (rF_lt 40 rfl) (rf_40 _ _ _ _)) rfl rfl rfl ?_
            refine ms1 dm_quote_101 rfl rfl rfl rfl ?_
            refine ms3 dm_quote_102 (r_get (v := .int (8 : Int32)) hm h2 rfl (rg_38 _ _ _)) rfl rfl rfl ?_
            refine ms0 (S' := .int (2 : Int32) :: _) dm_quote_105 rfl rfl rfl rfl ?_
            refine ms_2t dm_quote_106 rfl rfl ?_
            have he : lp_quote (n + 1) 2 i l I J v w = ((), (upd (upd i 38 (8 : Int32)) 40 (v 1)), l, I, J) := by
              rw [lb_quote_2]
              simp only [hb1, hb5, hb6, Bool.false_eq_true, if_true, if_false]
            rw [he]
            exact ms5 dm_quote_121 rfl rfl rfl
          · have hb6 : ¬ (mj_cnd .eq (v 1) (0 : Int32) = true) := hb6
            rw [if_neg hb6] at hok
            refine ms1 dm_quote_64 rfl rfl rfl rfl ?_
            refine ms0 (S' := .int (60 : Int32) :: _) dm_quote_65 rfl rfl rfl rfl ?_
            refine ms_2c dm_quote_67 rfl rfl (fun hb7 => ?_) (fun hb7 => ?_)
            · have hb7 : mj_cnd .gt (v 1) (60 : Int32) = true := hb7
              rw [if_pos hb7] at hok
              refine ms0 (S' := .int (8 : Int32) :: _) dm_quote_87 rfl rfl rfl rfl ?_
              refine ms2 dm_quote_89 rfl rfl rfl ?_
              refine ms3 dm_quote_93 (r_puti hm h2 rfl (rF_lt 38 rfl) (rf_38 _ _ _ _)) rfl rfl rfl ?_
              refine ms1 dm_quote_96 rfl rfl rfl rfl ?_
              refine ms1 dm_quote_97 rfl rfl rfl rfl ?_
              refine ms3 dm_quote_98 (r_puti hm h2 rfl (rF_lt 40 rfl) (rf_40 _ _ _ _)) rfl rfl rfl ?_
              refine ms1 dm_quote_101 rfl rfl rfl rfl ?_
              refine ms3 dm_quote_102 (r_get (v := .int (8 : Int32)) hm h2 rfl (rg_38 _ _ _)) rfl rfl rfl ?_
              refine ms0 (S' := .int (2 : Int32) :: _) dm_quote_105 rfl rfl rfl rfl ?_
              refine ms_2t dm_quote_106 rfl rfl ?_
              have he : lp_quote (n + 1) 2 i l I J v w = ((), (upd (upd i 38 (8 : Int32)) 40 (v 1)), l, I, J) := by
                rw [lb_quote_2]
                simp only [hb1, hb5, hb6, hb7, Bool.false_eq_true, if_true, if_false]
              rw [he]
              exact ms5 dm_quote_121 rfl rfl rfl
            · have hb7 : ¬ (mj_cnd .gt (v 1) (60 : Int32) = true) := hb7
              rw [if_neg hb7] at hok
              refine ms1 dm_quote_70 rfl rfl rfl rfl ?_
              refine ms1 dm_quote_71 rfl rfl rfl rfl ?_
              refine ms3 dm_quote_72 (r_get (v := .int (i 35)) hm h2 rfl (rg_35 _ _ _)) rfl rfl rfl ?_
              refine ms0 (S' := .int (1 : Int32) :: _) dm_quote_75 rfl rfl rfl rfl ?_
              refine ms0 dm_quote_76 rfl rfl rfl rfl ?_
              refine ms1 dm_quote_77 rfl rfl rfl rfl ?_
              refine ms0 dm_quote_78 rfl rfl rfl rfl ?_
              obtain ⟨ho, hok⟩ := hok
              refine ms4 dm_quote_79 rfl (r_inv (As := [.int (((i 35) + (1 : Int32)) + (v 1))]) hm h2 rfl rfl rfl) (q_byteAt hm h2 ho) rfl rfl rfl ?_
              refine ms0 (S' := .int (39 : Int32) :: _) dm_quote_82 rfl rfl rfl rfl ?_
              refine ms_2c dm_quote_84 rfl rfl (fun hb8 => ?_) (fun hb8 => ?_)
              · have hb8 : mj_cnd .eq (a_byteAt i l I J (((i 35) + (1 : Int32)) + (v 1))) (39 : Int32) = true := hb8
                refine ms0 (S' := .int (2 : Int32) :: _) dm_quote_92 rfl rfl rfl rfl ?_
                refine ms3 dm_quote_93 (r_puti hm h2 rfl (rF_lt 38 rfl) (rf_38 _ _ _ _)) rfl rfl rfl ?_
                refine ms1 dm_quote_96 rfl rfl rfl rfl ?_
                refine ms1 dm_quote_97 rfl rfl rfl rfl ?_
                refine ms3 dm_quote_98 (r_puti hm h2 rfl (rF_lt 40 rfl) (rf_40 _ _ _ _)) rfl rfl rfl ?_
                refine ms1 dm_quote_101 rfl rfl rfl rfl ?_
                refine ms3 dm_quote_102 (r_get (v := .int (2 : Int32)) hm h2 rfl (rg_38 _ _ _)) rfl rfl rfl ?_
                refine ms0 (S' := .int (2 : Int32) :: _) dm_quote_105 rfl rfl rfl rfl ?_
                refine ms_2f dm_quote_106 rfl (by decide) rfl ?_
                refine ms1 dm_quote_109 rfl rfl rfl rfl ?_
                refine ms0 dm_quote_110 rfl rfl rfl rfl ?_
                refine ms3 dm_quote_111 (r_get (v := .int ((upd (upd i 38 (2 : Int32)) 40 (v 1)) 35)) hm h2 rfl (rg_35 _ _ _)) rfl rfl rfl ?_
                refine ms1 dm_quote_114 rfl rfl rfl rfl ?_
                refine ms0 (S' := .int (2 : Int32) :: _) dm_quote_115 rfl rfl rfl rfl ?_
                refine ms0 dm_quote_116 rfl rfl rfl rfl ?_
                refine ms0 dm_quote_117 rfl rfl rfl rfl ?_
                refine ms3 dm_quote_118 (r_puti hm h2 rfl (rF_lt 35 rfl) (rf_35 _ _ _ _)) rfl rfl rfl ?_
                have he : lp_quote (n + 1) 2 i l I J v w = ((), (upd (upd (upd i 38 (2 : Int32)) 40 (v 1)) 35 (((upd (upd i 38 (2 : Int32)) 40 (v 1)) 35) + ((v 1) + (2 : Int32)))), l, I, J) := by
                  rw [lb_quote_2]
                  simp only [hb1, hb5, hb6, hb7, hb8, Bool.false_eq_true, if_true, if_false]
                rw [he]
                exact ms5 dm_quote_121 rfl rfl rfl
              · have hb8 : ¬ (mj_cnd .eq (a_byteAt i l I J (((i 35) + (1 : Int32)) + (v 1))) (39 : Int32) = true) := hb8
                refine ms0 (S' := .int (8 : Int32) :: _) dm_quote_87 rfl rfl rfl rfl ?_
                refine ms2 dm_quote_89 rfl rfl rfl ?_
                refine ms3 dm_quote_93 (r_puti hm h2 rfl (rF_lt 38 rfl) (rf_38 _ _ _ _)) rfl rfl rfl ?_
                refine ms1 dm_quote_96 rfl rfl rfl rfl ?_
                refine ms1 dm_quote_97 rfl rfl rfl rfl ?_
                refine ms3 dm_quote_98 (r_puti hm h2 rfl (rF_lt 40 rfl) (rf_40 _ _ _ _)) rfl rfl rfl ?_
                refine ms1 dm_quote_101 rfl rfl rfl rfl ?_
                refine ms3 dm_quote_102 (r_get (v := .int (8 : Int32)) hm h2 rfl (rg_38 _ _ _)) rfl rfl rfl ?_
                refine ms0 (S' := .int (2 : Int32) :: _) dm_quote_105 rfl rfl rfl rfl ?_
                refine ms_2t dm_quote_106 rfl rfl ?_
                have he : lp_quote (n + 1) 2 i l I J v w = ((), (upd (upd i 38 (8 : Int32)) 40 (v 1)), l, I, J) := by
                  rw [lb_quote_2]
                  simp only [hb1, hb5, hb6, hb7, hb8, Bool.false_eq_true, if_true, if_false]
                rw [he]
                exact ms5 dm_quote_121 rfl rfl rfl
        · have hb5 : ¬ (mj_cnd .gt (a_byteAt i l I J (((i 35) + (1 : Int32)) + (v 1))) (126 : Int32) = true) := hb5
          rw [if_neg hb5] at hok
          refine ms1 dm_quote_36 rfl rfl rfl rfl ?_
          refine ms1 dm_quote_37 rfl rfl rfl rfl ?_
          refine ms3 dm_quote_38 (r_get (v := .int (i 35)) hm h2 rfl (rg_35 _ _ _)) rfl rfl rfl ?_
          refine ms0 (S' := .int (1 : Int32) :: _) dm_quote_41 rfl rfl rfl rfl ?_
          refine ms0 dm_quote_42 rfl rfl rfl rfl ?_
          refine ms1 dm_quote_43 rfl rfl rfl rfl ?_
          refine ms0 dm_quote_44 rfl rfl rfl rfl ?_
          obtain ⟨ho, hok⟩ := hok
          refine ms4 dm_quote_45 rfl (r_inv (As := [.int (((i 35) + (1 : Int32)) + (v 1))]) hm h2 rfl rfl rfl) (q_byteAt hm h2 ho) rfl rfl rfl ?_
          refine ms0 (S' := .int (39 : Int32) :: _) dm_quote_48 rfl rfl rfl rfl ?_
          refine ms_2c dm_quote_50 rfl rfl (fun hb9 => ?_) (fun hb9 => ?_)
          · have hb9 : mj_cnd .eq (a_byteAt i l I J (((i 35) + (1 : Int32)) + (v 1))) (39 : Int32) = true := hb9
            rw [if_pos hb9] at hok
            refine ms1 dm_quote_59 rfl rfl rfl rfl ?_
            refine ms1 dm_quote_60 rfl rfl rfl rfl ?_
            refine ms_1c dm_quote_61 rfl rfl (fun hb10 => ?_) (fun hb10 => ?_)
            · have hb10 : mj_cnd .eq (v 1) (0 : Int32) = true := hb10
              rw [if_pos hb10] at hok
              refine ms0 (S' := .int (8 : Int32) :: _) dm_quote_87 rfl rfl rfl rfl ?_
              refine ms2 dm_quote_89 rfl rfl rfl ?_
              refine ms3 dm_quote_93 (r_puti hm h2 rfl (rF_lt 38 rfl) (rf_38 _ _ _ _)) rfl rfl rfl ?_
              refine ms1 dm_quote_96 rfl rfl rfl rfl ?_
              refine ms1 dm_quote_97 rfl rfl rfl rfl ?_
              refine ms3 dm_quote_98 (r_puti hm h2 rfl (rF_lt 40 rfl) (rf_40 _ _ _ _)) rfl rfl rfl ?_
              refine ms1 dm_quote_101 rfl rfl rfl rfl ?_
              refine ms3 dm_quote_102 (r_get (v := .int (8 : Int32)) hm h2 rfl (rg_38 _ _ _)) rfl rfl rfl ?_
              refine ms0 (S' := .int (2 : Int32) :: _) dm_quote_105 rfl rfl rfl rfl ?_
              refine ms_2t dm_quote_106 rfl rfl ?_
              have he : lp_quote (n + 1) 2 i l I J v w = ((), (upd (upd i 38 (8 : Int32)) 40 (v 1)), l, I, J) := by
                rw [lb_quote_2]
                simp only [hb1, hb5, hb9, hb10, Bool.false_eq_true, if_true, if_false]
              rw [he]
              exact ms5 dm_quote_121 rfl rfl rfl
            · have hb10 : ¬ (mj_cnd .eq (v 1) (0 : Int32) = true) := hb10
              rw [if_neg hb10] at hok
              refine ms1 dm_quote_64 rfl rfl rfl rfl ?_
              refine ms0 (S' := .int (60 : Int32) :: _) dm_quote_65 rfl rfl rfl rfl ?_
              refine ms_2c dm_quote_67 rfl rfl (fun hb11 => ?_) (fun hb11 => ?_)
              · have hb11 : mj_cnd .gt (v 1) (60 : Int32) = true := hb11
                rw [if_pos hb11] at hok
                refine ms0 (S' := .int (8 : Int32) :: _) dm_quote_87 rfl rfl rfl rfl ?_
                refine ms2 dm_quote_89 rfl rfl rfl ?_
                refine ms3 dm_quote_93 (r_puti hm h2 rfl (rF_lt 38 rfl) (rf_38 _ _ _ _)) rfl rfl rfl ?_
                refine ms1 dm_quote_96 rfl rfl rfl rfl ?_
                refine ms1 dm_quote_97 rfl rfl rfl rfl ?_
                refine ms3 dm_quote_98 (r_puti hm h2 rfl (rF_lt 40 rfl) (rf_40 _ _ _ _)) rfl rfl rfl ?_
                refine ms1 dm_quote_101 rfl rfl rfl rfl ?_
                refine ms3 dm_quote_102 (r_get (v := .int (8 : Int32)) hm h2 rfl (rg_38 _ _ _)) rfl rfl rfl ?_
                refine ms0 (S' := .int (2 : Int32) :: _) dm_quote_105 rfl rfl rfl rfl ?_
                refine ms_2t dm_quote_106 rfl rfl ?_
                have he : lp_quote (n + 1) 2 i l I J v w = ((), (upd (upd i 38 (8 : Int32)) 40 (v 1)), l, I, J) := by
                  rw [lb_quote_2]
                  simp only [hb1, hb5, hb9, hb10, hb11, Bool.false_eq_true, if_true, if_false]
                rw [he]
                exact ms5 dm_quote_121 rfl rfl rfl
              · have hb11 : ¬ (mj_cnd .gt (v 1) (60 : Int32) = true) := hb11
                rw [if_neg hb11] at hok
                refine ms1 dm_quote_70 rfl rfl rfl rfl ?_
                refine ms1 dm_quote_71 rfl rfl rfl rfl ?_
                refine ms3 dm_quote_72 (r_get (v := .int (i 35)) hm h2 rfl (rg_35 _ _ _)) rfl rfl rfl ?_
                refine ms0 (S' := .int (1 : Int32) :: _) dm_quote_75 rfl rfl rfl rfl ?_
                refine ms0 dm_quote_76 rfl rfl rfl rfl ?_
                refine ms1 dm_quote_77 rfl rfl rfl rfl ?_
                refine ms0 dm_quote_78 rfl rfl rfl rfl ?_
                obtain ⟨ho, hok⟩ := hok
                refine ms4 dm_quote_79 rfl (r_inv (As := [.int (((i 35) + (1 : Int32)) + (v 1))]) hm h2 rfl rfl rfl) (q_byteAt hm h2 ho) rfl rfl rfl ?_
                refine ms0 (S' := .int (39 : Int32) :: _) dm_quote_82 rfl rfl rfl rfl ?_
                refine ms_2t dm_quote_84 rfl hb9 ?_
                refine ms0 (S' := .int (2 : Int32) :: _) dm_quote_92 rfl rfl rfl rfl ?_
                refine ms3 dm_quote_93 (r_puti hm h2 rfl (rF_lt 38 rfl) (rf_38 _ _ _ _)) rfl rfl rfl ?_
                refine ms1 dm_quote_96 rfl rfl rfl rfl ?_
                refine ms1 dm_quote_97 rfl rfl rfl rfl ?_
                refine ms3 dm_quote_98 (r_puti hm h2 rfl (rF_lt 40 rfl) (rf_40 _ _ _ _)) rfl rfl rfl ?_
                refine ms1 dm_quote_101 rfl rfl rfl rfl ?_
                refine ms3 dm_quote_102 (r_get (v := .int (2 : Int32)) hm h2 rfl (rg_38 _ _ _)) rfl rfl rfl ?_
                refine ms0 (S' := .int (2 : Int32) :: _) dm_quote_105 rfl rfl rfl rfl ?_
                refine ms_2f dm_quote_106 rfl (by decide) rfl ?_
                refine ms1 dm_quote_109 rfl rfl rfl rfl ?_
                refine ms0 dm_quote_110 rfl rfl rfl rfl ?_
                refine ms3 dm_quote_111 (r_get (v := .int ((upd (upd i 38 (2 : Int32)) 40 (v 1)) 35)) hm h2 rfl (rg_35 _ _ _)) rfl rfl rfl ?_
                refine ms1 dm_quote_114 rfl rfl rfl rfl ?_
                refine ms0 (S' := .int (2 : Int32) :: _) dm_quote_115 rfl rfl rfl rfl ?_
                refine ms0 dm_quote_116 rfl rfl rfl rfl ?_
                refine ms0 dm_quote_117 rfl rfl rfl rfl ?_
                refine ms3 dm_quote_118 (r_puti hm h2 rfl (rF_lt 35 rfl) (rf_35 _ _ _ _)) rfl rfl rfl ?_
                have he : lp_quote (n + 1) 2 i l I J v w = ((), (upd (upd (upd i 38 (2 : Int32)) 40 (v 1)) 35 (((upd (upd i 38 (2 : Int32)) 40 (v 1)) 35) + ((v 1) + (2 : Int32)))), l, I, J) := by
                  rw [lb_quote_2]
                  simp only [hb1, hb5, hb9, hb10, hb11, Bool.false_eq_true, if_true, if_false]
                rw [he]
                exact ms5 dm_quote_121 rfl rfl rfl
          · have hb9 : ¬ (mj_cnd .eq (a_byteAt i l I J (((i 35) + (1 : Int32)) + (v 1))) (39 : Int32) = true) := hb9
            rw [if_neg hb9] at hok
            refine ms1 dm_quote_53 rfl rfl rfl rfl ?_
            refine ms2 dm_quote_56 rfl rfl rfl ?_
            have he : lp_quote (n + 1) 2 i l I J v w = lp_quote n 2 i l I J (upd v 1 ((v 1) + Int32.ofInt (1))) w := by
              rw [lb_quote_2]
              simp only [hb1, hb5, hb9, Bool.false_eq_true, if_true, if_false]
            rw [he]
            exact mjR_sub rfl rfl rfl (ih _ _ _ _ _ _ hok)
set_option maxRecDepth 20000 in
theorem q_quote {xt : mj_X} {pre post : mj_H} {m : Nat} {i : Nat → Int32} {l : Nat → Int64} {I : Nat → Nat → Int32} {J : Nat → Nat → Int64} {d : Nat} (hm : pre.length = m) (h2 : 2 ≤ m)  {n : Nat} (hok : ok_quote n i l I J ) : pgC xt (d + 2) k_quote (.ref m :: []) (rH pre post m i l I J) none (rH pre post m (s_quote n i l I J ).2.1 (s_quote n i l I J ).2.2.1 (s_quote n i l I J ).2.2.2.1 (s_quote n i l I J ).2.2.2.2) := by
  unfold ok_quote at hok
  refine ms_call pm_quote (Nat.le_of_ble_eq_true rfl) ?_
  dsimp only
  refine ms0 (S' := .int (0 : Int32) :: _) dm_quote_0 rfl rfl rfl rfl ?_
  refine ms1 dm_quote_1 rfl rfl rfl rfl ?_
  have he : s_quote n i l I J  = lp_quote n 2 i l I J (upd (fun _ => 0) 1 (0 : Int32)) (fun _ => 0) := by
    unfold s_quote
    rfl
  rw [he]
  exact mjR_sub rfl rfl rfl ((ql_quote hm h2 n) _ _ _ _ _ _ hok)
def k_isMark : Nat := 209
set_option maxRecDepth 20000 in
theorem pm_isMark : mj_mmof pg_ms k_isMark = some ((⟨"ArrayCalculatorModel", "isMark", "(I)Z"⟩, prog_14_method_72_code, 1, (Option.some Jvm.ClassFile.FieldType.boolean)), 12, false, mj_dec prog_14_method_72_code) := rfl
theorem dm_isMark_0 : mj_dec prog_14_method_72_code 0 = some (.iload_n 0, 1) := by decide +kernel
theorem dm_isMark_1 : mj_dec prog_14_method_72_code 1 = some (.bipush 59, 2) := by decide +kernel
theorem dm_isMark_3 : mj_dec prog_14_method_72_code 3 = some (.if_icmp .eq 45, 3) := by decide +kernel
theorem dm_isMark_6 : mj_dec prog_14_method_72_code 6 = some (.iload_n 0, 1) := by decide +kernel
theorem dm_isMark_7 : mj_dec prog_14_method_72_code 7 = some (.bipush 40, 2) := by decide +kernel
theorem dm_isMark_9 : mj_dec prog_14_method_72_code 9 = some (.if_icmp .eq 39, 3) := by decide +kernel
theorem dm_isMark_12 : mj_dec prog_14_method_72_code 12 = some (.iload_n 0, 1) := by decide +kernel
theorem dm_isMark_13 : mj_dec prog_14_method_72_code 13 = some (.bipush 41, 2) := by decide +kernel
theorem dm_isMark_15 : mj_dec prog_14_method_72_code 15 = some (.if_icmp .eq 33, 3) := by decide +kernel
theorem dm_isMark_18 : mj_dec prog_14_method_72_code 18 = some (.iload_n 0, 1) := by decide +kernel
theorem dm_isMark_19 : mj_dec prog_14_method_72_code 19 = some (.bipush 91, 2) := by decide +kernel
theorem dm_isMark_21 : mj_dec prog_14_method_72_code 21 = some (.if_icmp .eq 27, 3) := by decide +kernel
theorem dm_isMark_24 : mj_dec prog_14_method_72_code 24 = some (.iload_n 0, 1) := by decide +kernel
theorem dm_isMark_25 : mj_dec prog_14_method_72_code 25 = some (.bipush 93, 2) := by decide +kernel
theorem dm_isMark_27 : mj_dec prog_14_method_72_code 27 = some (.if_icmp .eq 21, 3) := by decide +kernel
theorem dm_isMark_30 : mj_dec prog_14_method_72_code 30 = some (.iload_n 0, 1) := by decide +kernel
theorem dm_isMark_31 : mj_dec prog_14_method_72_code 31 = some (.bipush 123, 2) := by decide +kernel
theorem dm_isMark_33 : mj_dec prog_14_method_72_code 33 = some (.if_icmp .eq 15, 3) := by decide +kernel
theorem dm_isMark_36 : mj_dec prog_14_method_72_code 36 = some (.iload_n 0, 1) := by decide +kernel
theorem dm_isMark_37 : mj_dec prog_14_method_72_code 37 = some (.bipush 125, 2) := by decide +kernel
theorem dm_isMark_39 : mj_dec prog_14_method_72_code 39 = some (.if_icmp .eq 9, 3) := by decide +kernel
theorem dm_isMark_42 : mj_dec prog_14_method_72_code 42 = some (.iload_n 0, 1) := by decide +kernel
theorem dm_isMark_43 : mj_dec prog_14_method_72_code 43 = some (.bipush 58, 2) := by decide +kernel
theorem dm_isMark_45 : mj_dec prog_14_method_72_code 45 = some (.if_icmp .ne 7, 3) := by decide +kernel
theorem dm_isMark_48 : mj_dec prog_14_method_72_code 48 = some (.iconst 1, 1) := by decide +kernel
theorem dm_isMark_49 : mj_dec prog_14_method_72_code 49 = some (.goto 4, 3) := by decide +kernel
theorem dm_isMark_52 : mj_dec prog_14_method_72_code 52 = some (.iconst 0, 1) := by decide +kernel
theorem dm_isMark_53 : mj_dec prog_14_method_72_code 53 = some (.ireturn, 1) := by decide +kernel
def a_isMark (i : Nat → Int32) (l : Nat → Int64) (I : Nat → Nat → Int32) (J : Nat → Nat → Int64) (p0 : Int32) : Int32 := (if mj_cnd .eq p0 (59 : Int32) = true then (1 : Int32) else (if mj_cnd .eq p0 (40 : Int32) = true then (1 : Int32) else (if mj_cnd .eq p0 (41 : Int32) = true then (1 : Int32) else (if mj_cnd .eq p0 (91 : Int32) = true then (1 : Int32) else (if mj_cnd .eq p0 (93 : Int32) = true then (1 : Int32) else (if mj_cnd .eq p0 (123 : Int32) = true then (1 : Int32) else (if mj_cnd .eq p0 (125 : Int32) = true then (1 : Int32) else (if mj_cnd .ne p0 (58 : Int32) = true then (0 : Int32) else (1 : Int32)))))))))
def ok_isMark (i : Nat → Int32) (l : Nat → Int64) (I : Nat → Nat → Int32) (J : Nat → Nat → Int64) (p0 : Int32) : Prop := True
set_option maxRecDepth 20000 in
theorem q_isMark {xt : mj_X} {pre post : mj_H} {m : Nat} {i : Nat → Int32} {l : Nat → Int64} {I : Nat → Nat → Int32} {J : Nat → Nat → Int64} {d : Nat} (hm : pre.length = m) (h2 : 2 ≤ m) {p0 : Int32} (hok : ok_isMark i l I J p0) : pgC xt (d + 1) k_isMark ([.int p0]) (rH pre post m i l I J) (some (.int (a_isMark i l I J p0))) (rH pre post m i l I J) := by
  unfold ok_isMark at hok
  refine ms_call pm_isMark (Nat.le_of_ble_eq_true rfl) ?_
  dsimp only
  refine ms1 dm_isMark_0 rfl rfl rfl rfl ?_
  refine ms0 (S' := .int (59 : Int32) :: _) dm_isMark_1 rfl rfl rfl rfl ?_
  refine ms_2c dm_isMark_3 rfl rfl (fun hb1 => ?_) (fun hb1 => ?_)
  · have hb1 : mj_cnd .eq p0 (59 : Int32) = true := hb1
    refine ms0 (S' := .int (1 : Int32) :: _) dm_isMark_48 rfl rfl rfl rfl ?_
    refine ms2 dm_isMark_49 rfl rfl rfl ?_
    simp only [a_isMark, hb1, Bool.false_eq_true, if_true, if_false]
    exact ms5 dm_isMark_53 rfl rfl rfl
  · have hb1 : ¬ (mj_cnd .eq p0 (59 : Int32) = true) := hb1
    refine ms1 dm_isMark_6 rfl rfl rfl rfl ?_
    refine ms0 (S' := .int (40 : Int32) :: _) dm_isMark_7 rfl rfl rfl rfl ?_
    refine ms_2c dm_isMark_9 rfl rfl (fun hb2 => ?_) (fun hb2 => ?_)
    · have hb2 : mj_cnd .eq p0 (40 : Int32) = true := hb2
      refine ms0 (S' := .int (1 : Int32) :: _) dm_isMark_48 rfl rfl rfl rfl ?_
      refine ms2 dm_isMark_49 rfl rfl rfl ?_
      simp only [a_isMark, hb1, hb2, Bool.false_eq_true, if_true, if_false]
      exact ms5 dm_isMark_53 rfl rfl rfl
    · have hb2 : ¬ (mj_cnd .eq p0 (40 : Int32) = true) := hb2
      refine ms1 dm_isMark_12 rfl rfl rfl rfl ?_
      refine ms0 (S' := .int (41 : Int32) :: _) dm_isMark_13 rfl rfl rfl rfl ?_
      refine ms_2c dm_isMark_15 rfl rfl (fun hb3 => ?_) (fun hb3 => ?_)
      · have hb3 : mj_cnd .eq p0 (41 : Int32) = true := hb3
        refine ms0 (S' := .int (1 : Int32) :: _) dm_isMark_48 rfl rfl rfl rfl ?_
        refine ms2 dm_isMark_49 rfl rfl rfl ?_
        simp only [a_isMark, hb1, hb2, hb3, Bool.false_eq_true, if_true, if_false]
        exact ms5 dm_isMark_53 rfl rfl rfl
      · have hb3 : ¬ (mj_cnd .eq p0 (41 : Int32) = true) := hb3
        refine ms1 dm_isMark_18 rfl rfl rfl rfl ?_
        refine ms0 (S' := .int (91 : Int32) :: _) dm_isMark_19 rfl rfl rfl rfl ?_
        refine ms_2c dm_isMark_21 rfl rfl (fun hb4 => ?_) (fun hb4 => ?_)
        · have hb4 : mj_cnd .eq p0 (91 : Int32) = true := hb4
          refine ms0 (S' := .int (1 : Int32) :: _) dm_isMark_48 rfl rfl rfl rfl ?_
          refine ms2 dm_isMark_49 rfl rfl rfl ?_
          simp only [a_isMark, hb1, hb2, hb3, hb4, Bool.false_eq_true, if_true, if_false]
          exact ms5 dm_isMark_53 rfl rfl rfl
        · have hb4 : ¬ (mj_cnd .eq p0 (91 : Int32) = true) := hb4
          refine ms1 dm_isMark_24 rfl rfl rfl rfl ?_
          refine ms0 (S' := .int (93 : Int32) :: _) dm_isMark_25 rfl rfl rfl rfl ?_
          refine ms_2c dm_isMark_27 rfl rfl (fun hb5 => ?_) (fun hb5 => ?_)
          · have hb5 : mj_cnd .eq p0 (93 : Int32) = true := hb5
            refine ms0 (S' := .int (1 : Int32) :: _) dm_isMark_48 rfl rfl rfl rfl ?_
            refine ms2 dm_isMark_49 rfl rfl rfl ?_
            simp only [a_isMark, hb1, hb2, hb3, hb4, hb5, Bool.false_eq_true, if_true, if_false]
            exact ms5 dm_isMark_53 rfl rfl rfl
          · have hb5 : ¬ (mj_cnd .eq p0 (93 : Int32) = true) := hb5
            refine ms1 dm_isMark_30 rfl rfl rfl rfl ?_
            refine ms0 (S' := .int (123 : Int32) :: _) dm_isMark_31 rfl rfl rfl rfl ?_
            refine ms_2c dm_isMark_33 rfl rfl (fun hb6 => ?_) (fun hb6 => ?_)
            · have hb6 : mj_cnd .eq p0 (123 : Int32) = true := hb6
              refine ms0 (S' := .int (1 : Int32) :: _) dm_isMark_48 rfl rfl rfl rfl ?_
              refine ms2 dm_isMark_49 rfl rfl rfl ?_
              simp only [a_isMark, hb1, hb2, hb3, hb4, hb5, hb6, Bool.false_eq_true, if_true, if_false]
              exact ms5 dm_isMark_53 rfl rfl rfl
            · have hb6 : ¬ (mj_cnd .eq p0 (123 : Int32) = true) := hb6
              refine ms1 dm_isMark_36 rfl rfl rfl rfl ?_
              refine ms0 (S' := .int (125 : Int32) :: _) dm_isMark_37 rfl rfl rfl rfl ?_
              refine ms_2c dm_isMark_39 rfl rfl (fun hb7 => ?_) (fun hb7 => ?_)
              · have hb7 : mj_cnd .eq p0 (125 : Int32) = true := hb7
                refine ms0 (S' := .int (1 : Int32) :: _) dm_isMark_48 rfl rfl rfl rfl ?_
                refine ms2 dm_isMark_49 rfl rfl rfl ?_
                simp only [a_isMark, hb1, hb2, hb3, hb4, hb5, hb6, hb7, Bool.false_eq_true, if_true, if_false]
                exact ms5 dm_isMark_53 rfl rfl rfl
              · have hb7 : ¬ (mj_cnd .eq p0 (125 : Int32) = true) := hb7
                refine ms1 dm_isMark_42 rfl rfl rfl rfl ?_
                refine ms0 (S' := .int (58 : Int32) :: _) dm_isMark_43 rfl rfl rfl rfl ?_
                refine ms_2c dm_isMark_45 rfl rfl (fun hb8 => ?_) (fun hb8 => ?_)
                · have hb8 : mj_cnd .ne p0 (58 : Int32) = true := hb8
                  refine ms0 (S' := .int (0 : Int32) :: _) dm_isMark_52 rfl rfl rfl rfl ?_
                  simp only [a_isMark, hb1, hb2, hb3, hb4, hb5, hb6, hb7, hb8, Bool.false_eq_true, if_true, if_false]
                  exact ms5 dm_isMark_53 rfl rfl rfl
                · have hb8 : ¬ (mj_cnd .ne p0 (58 : Int32) = true) := hb8
                  refine ms0 (S' := .int (1 : Int32) :: _) dm_isMark_48 rfl rfl rfl rfl ?_
                  refine ms2 dm_isMark_49 rfl rfl rfl ?_
                  simp only [a_isMark, hb1, hb2, hb3, hb4, hb5, hb6, hb7, hb8, Bool.false_eq_true, if_true, if_false]
                  exact ms5 dm_isMark_53 rfl rfl rfl
def k_isVerb : Nat := 210
set_option maxRecDepth 20000 in
theorem pm_isVerb : mj_mmof pg_ms k_isVerb = some ((⟨"ArrayCalculatorModel", "isVerb", "(I)Z"⟩, prog_14_method_71_code, 1, (Option.some Jvm.ClassFile.FieldType.boolean)), 12, false, mj_dec prog_14_method_71_code) := rfl
theorem dm_isVerb_0 : mj_dec prog_14_method_71_code 0 = some (.iload_n 0, 1) := by decide +kernel
theorem dm_isVerb_1 : mj_dec prog_14_method_71_code 1 = some (.lookupswitch 165 #[(33, 163), (35, 163), (36, 163), (37, 163), (38, 163), (42, 163), (43, 163), (44, 163), (45, 163), (46, 163), (60, 163), (61, 163), (62, 163), (63, 163), (64, 163), (94, 163), (95, 163), (124, 163), (126, 163)], 163) := by decide +kernel
theorem dm_isVerb_164 : mj_dec prog_14_method_71_code 164 = some (.iconst 1, 1) := by decide +kernel
theorem dm_isVerb_165 : mj_dec prog_14_method_71_code 165 = some (.ireturn, 1) := by decide +kernel
theorem dm_isVerb_166 : mj_dec prog_14_method_71_code 166 = some (.iconst 0, 1) := by decide +kernel
theorem dm_isVerb_167 : mj_dec prog_14_method_71_code 167 = some (.ireturn, 1) := by decide +kernel
def a_isVerb (i : Nat → Int32) (l : Nat → Int64) (I : Nat → Nat → Int32) (J : Nat → Nat → Int64) (p0 : Int32) : Int32 := (if mj_cnd .eq p0 (33 : Int32) = true then (1 : Int32) else (if mj_cnd .eq p0 (35 : Int32) = true then (1 : Int32) else (if mj_cnd .eq p0 (36 : Int32) = true then (1 : Int32) else (if mj_cnd .eq p0 (37 : Int32) = true then (1 : Int32) else (if mj_cnd .eq p0 (38 : Int32) = true then (1 : Int32) else (if mj_cnd .eq p0 (42 : Int32) = true then (1 : Int32) else (if mj_cnd .eq p0 (43 : Int32) = true then (1 : Int32) else (if mj_cnd .eq p0 (44 : Int32) = true then (1 : Int32) else (if mj_cnd .eq p0 (45 : Int32) = true then (1 : Int32) else (if mj_cnd .eq p0 (46 : Int32) = true then (1 : Int32) else (if mj_cnd .eq p0 (60 : Int32) = true then (1 : Int32) else (if mj_cnd .eq p0 (61 : Int32) = true then (1 : Int32) else (if mj_cnd .eq p0 (62 : Int32) = true then (1 : Int32) else (if mj_cnd .eq p0 (63 : Int32) = true then (1 : Int32) else (if mj_cnd .eq p0 (64 : Int32) = true then (1 : Int32) else (if mj_cnd .eq p0 (94 : Int32) = true then (1 : Int32) else (if mj_cnd .eq p0 (95 : Int32) = true then (1 : Int32) else (if mj_cnd .eq p0 (124 : Int32) = true then (1 : Int32) else (if mj_cnd .eq p0 (126 : Int32) = true then (1 : Int32) else (0 : Int32))))))))))))))))))))
def ok_isVerb (i : Nat → Int32) (l : Nat → Int64) (I : Nat → Nat → Int32) (J : Nat → Nat → Int64) (p0 : Int32) : Prop := True
set_option maxRecDepth 20000 in
theorem q_isVerb {xt : mj_X} {pre post : mj_H} {m : Nat} {i : Nat → Int32} {l : Nat → Int64} {I : Nat → Nat → Int32} {J : Nat → Nat → Int64} {d : Nat} (hm : pre.length = m) (h2 : 2 ≤ m) {p0 : Int32} (hok : ok_isVerb i l I J p0) : pgC xt (d + 1) k_isVerb ([.int p0]) (rH pre post m i l I J) (some (.int (a_isVerb i l I J p0))) (rH pre post m i l I J) := by
  unfold ok_isVerb at hok
  refine ms_call pm_isVerb (Nat.le_of_ble_eq_true rfl) ?_
  dsimp only
  refine ms1 dm_isVerb_0 rfl rfl rfl rfl ?_
  refine ms_sw (33 : Int32) dm_isVerb_1 rfl rfl rfl (fun hb1 => ?_) (fun hb1 => ?_)
  · have hb1 : mj_cnd .eq p0 (33 : Int32) = true := hb1
    refine ms0 (S' := .int (1 : Int32) :: _) dm_isVerb_164 rfl rfl rfl rfl ?_
    simp only [a_isVerb, hb1, Bool.false_eq_true, if_true, if_false]
    exact ms5 dm_isVerb_165 rfl rfl rfl
  · have hb1 : ¬ (mj_cnd .eq p0 (33 : Int32) = true) := hb1
    refine ms_sw (35 : Int32) dm_isVerb_1 rfl rfl rfl (fun hb2 => ?_) (fun hb2 => ?_)
    · have hb2 : mj_cnd .eq p0 (35 : Int32) = true := hb2
      refine ms0 (S' := .int (1 : Int32) :: _) dm_isVerb_164 rfl rfl rfl rfl ?_
      simp only [a_isVerb, hb1, hb2, Bool.false_eq_true, if_true, if_false]
      exact ms5 dm_isVerb_165 rfl rfl rfl
    · have hb2 : ¬ (mj_cnd .eq p0 (35 : Int32) = true) := hb2
      refine ms_sw (36 : Int32) dm_isVerb_1 rfl rfl rfl (fun hb3 => ?_) (fun hb3 => ?_)
      · have hb3 : mj_cnd .eq p0 (36 : Int32) = true := hb3
        refine ms0 (S' := .int (1 : Int32) :: _) dm_isVerb_164 rfl rfl rfl rfl ?_
        simp only [a_isVerb, hb1, hb2, hb3, Bool.false_eq_true, if_true, if_false]
        exact ms5 dm_isVerb_165 rfl rfl rfl
      · have hb3 : ¬ (mj_cnd .eq p0 (36 : Int32) = true) := hb3
        refine ms_sw (37 : Int32) dm_isVerb_1 rfl rfl rfl (fun hb4 => ?_) (fun hb4 => ?_)
        · have hb4 : mj_cnd .eq p0 (37 : Int32) = true := hb4
          refine ms0 (S' := .int (1 : Int32) :: _) dm_isVerb_164 rfl rfl rfl rfl ?_
          simp only [a_isVerb, hb1, hb2, hb3, hb4, Bool.false_eq_true, if_true, if_false]
          exact ms5 dm_isVerb_165 rfl rfl rfl
        · have hb4 : ¬ (mj_cnd .eq p0 (37 : Int32) = true) := hb4
          refine ms_sw (38 : Int32) dm_isVerb_1 rfl rfl rfl (fun hb5 => ?_) (fun hb5 => ?_)
          · have hb5 : mj_cnd .eq p0 (38 : Int32) = true := hb5
            refine ms0 (S' := .int (1 : Int32) :: _) dm_isVerb_164 rfl rfl rfl rfl ?_
            simp only [a_isVerb, hb1, hb2, hb3, hb4, hb5, Bool.false_eq_true, if_true, if_false]
            exact ms5 dm_isVerb_165 rfl rfl rfl
          · have hb5 : ¬ (mj_cnd .eq p0 (38 : Int32) = true) := hb5
            refine ms_sw (42 : Int32) dm_isVerb_1 rfl rfl rfl (fun hb6 => ?_) (fun hb6 => ?_)
            · have hb6 : mj_cnd .eq p0 (42 : Int32) = true := hb6
              refine ms0 (S' := .int (1 : Int32) :: _) dm_isVerb_164 rfl rfl rfl rfl ?_
              simp only [a_isVerb, hb1, hb2, hb3, hb4, hb5, hb6, Bool.false_eq_true, if_true, if_false]
              exact ms5 dm_isVerb_165 rfl rfl rfl
            · have hb6 : ¬ (mj_cnd .eq p0 (42 : Int32) = true) := hb6
              refine ms_sw (43 : Int32) dm_isVerb_1 rfl rfl rfl (fun hb7 => ?_) (fun hb7 => ?_)
              · have hb7 : mj_cnd .eq p0 (43 : Int32) = true := hb7
                refine ms0 (S' := .int (1 : Int32) :: _) dm_isVerb_164 rfl rfl rfl rfl ?_
                simp only [a_isVerb, hb1, hb2, hb3, hb4, hb5, hb6, hb7, Bool.false_eq_true, if_true, if_false]
                exact ms5 dm_isVerb_165 rfl rfl rfl
              · have hb7 : ¬ (mj_cnd .eq p0 (43 : Int32) = true) := hb7
                refine ms_sw (44 : Int32) dm_isVerb_1 rfl rfl rfl (fun hb8 => ?_) (fun hb8 => ?_)
                · have hb8 : mj_cnd .eq p0 (44 : Int32) = true := hb8
                  refine ms0 (S' := .int (1 : Int32) :: _) dm_isVerb_164 rfl rfl rfl rfl ?_
                  simp only [a_isVerb, hb1, hb2, hb3, hb4, hb5, hb6, hb7, hb8, Bool.false_eq_true, if_true, if_false]
                  exact ms5 dm_isVerb_165 rfl rfl rfl
                · have hb8 : ¬ (mj_cnd .eq p0 (44 : Int32) = true) := hb8
                  refine ms_sw (45 : Int32) dm_isVerb_1 rfl rfl rfl (fun hb9 => ?_) (fun hb9 => ?_)
                  · have hb9 : mj_cnd .eq p0 (45 : Int32) = true := hb9
                    refine ms0 (S' := .int (1 : Int32) :: _) dm_isVerb_164 rfl rfl rfl rfl ?_
                    simp only [a_isVerb, hb1, hb2, hb3, hb4, hb5, hb6, hb7, hb8, hb9, Bool.false_eq_true, if_true, if_false]
                    exact ms5 dm_isVerb_165 rfl rfl rfl
                  · have hb9 : ¬ (mj_cnd .eq p0 (45 : Int32) = true) := hb9
                    refine ms_sw (46 : Int32) dm_isVerb_1 rfl rfl rfl (fun hb10 => ?_) (fun hb10 => ?_)
                    · have hb10 : mj_cnd .eq p0 (46 : Int32) = true := hb10
                      refine ms0 (S' := .int (1 : Int32) :: _) dm_isVerb_164 rfl rfl rfl rfl ?_
                      simp only [a_isVerb, hb1, hb2, hb3, hb4, hb5, hb6, hb7, hb8, hb9, hb10, Bool.false_eq_true, if_true, if_false]
                      exact ms5 dm_isVerb_165 rfl rfl rfl
                    · have hb10 : ¬ (mj_cnd .eq p0 (46 : Int32) = true) := hb10
                      refine ms_sw (60 : Int32) dm_isVerb_1 rfl rfl rfl (fun hb11 => ?_) (fun hb11 => ?_)
                      · have hb11 : mj_cnd .eq p0 (60 : Int32) = true := hb11
                        refine ms0 (S' := .int (1 : Int32) :: _) dm_isVerb_164 rfl rfl rfl rfl ?_
                        simp only [a_isVerb, hb1, hb2, hb3, hb4, hb5, hb6, hb7, hb8, hb9, hb10, hb11, Bool.false_eq_true, if_true, if_false]
                        exact ms5 dm_isVerb_165 rfl rfl rfl
                      · have hb11 : ¬ (mj_cnd .eq p0 (60 : Int32) = true) := hb11
                        refine ms_sw (61 : Int32) dm_isVerb_1 rfl rfl rfl (fun hb12 => ?_) (fun hb12 => ?_)
                        · have hb12 : mj_cnd .eq p0 (61 : Int32) = true := hb12
                          refine ms0 (S' := .int (1 : Int32) :: _) dm_isVerb_164 rfl rfl rfl rfl ?_
                          simp only [a_isVerb, hb1, hb2, hb3, hb4, hb5, hb6, hb7, hb8, hb9, hb10, hb11, hb12, Bool.false_eq_true, if_true, if_false]
                          exact ms5 dm_isVerb_165 rfl rfl rfl
                        · have hb12 : ¬ (mj_cnd .eq p0 (61 : Int32) = true) := hb12
                          refine ms_sw (62 : Int32) dm_isVerb_1 rfl rfl rfl (fun hb13 => ?_) (fun hb13 => ?_)
                          · have hb13 : mj_cnd .eq p0 (62 : Int32) = true := hb13
                            refine ms0 (S' := .int (1 : Int32) :: _) dm_isVerb_164 rfl rfl rfl rfl ?_
                            simp only [a_isVerb, hb1, hb2, hb3, hb4, hb5, hb6, hb7, hb8, hb9, hb10, hb11, hb12, hb13, Bool.false_eq_true, if_true, if_false]
                            exact ms5 dm_isVerb_165 rfl rfl rfl
                          · have hb13 : ¬ (mj_cnd .eq p0 (62 : Int32) = true) := hb13
                            refine ms_sw (63 : Int32) dm_isVerb_1 rfl rfl rfl (fun hb14 => ?_) (fun hb14 => ?_)
                            · have hb14 : mj_cnd .eq p0 (63 : Int32) = true := hb14
                              refine ms0 (S' := .int (1 : Int32) :: _) dm_isVerb_164 rfl rfl rfl rfl ?_
                              simp only [a_isVerb, hb1, hb2, hb3, hb4, hb5, hb6, hb7, hb8, hb9, hb10, hb11, hb12, hb13, hb14, Bool.false_eq_true, if_true, if_false]
                              exact ms5 dm_isVerb_165 rfl rfl rfl
                            · have hb14 : ¬ (mj_cnd .eq p0 (63 : Int32) = true) := hb14
                              refine ms_sw (64 : Int32) dm_isVerb_1 rfl rfl rfl (fun hb15 => ?_) (fun hb15 => ?_)
                              · have hb15 : mj_cnd .eq p0 (64 : Int32) = true := hb15
                                refine ms0 (S' := .int (1 : Int32) :: _) dm_isVerb_164 rfl rfl rfl rfl ?_
                                simp only [a_isVerb, hb1, hb2, hb3, hb4, hb5, hb6, hb7, hb8, hb9, hb10, hb11, hb12, hb13, hb14, hb15, Bool.false_eq_true, if_true, if_false]
                                exact ms5 dm_isVerb_165 rfl rfl rfl
                              · have hb15 : ¬ (mj_cnd .eq p0 (64 : Int32) = true) := hb15
                                refine ms_sw (94 : Int32) dm_isVerb_1 rfl rfl rfl (fun hb16 => ?_) (fun hb16 => ?_)
                                · have hb16 : mj_cnd .eq p0 (94 : Int32) = true := hb16
                                  refine ms0 (S' := .int (1 : Int32) :: _) dm_isVerb_164 rfl rfl rfl rfl ?_
                                  simp only [a_isVerb, hb1, hb2, hb3, hb4, hb5, hb6, hb7, hb8, hb9, hb10, hb11, hb12, hb13, hb14, hb15, hb16, Bool.false_eq_true, if_true, if_false]
                                  exact ms5 dm_isVerb_165 rfl rfl rfl
                                · have hb16 : ¬ (mj_cnd .eq p0 (94 : Int32) = true) := hb16
                                  refine ms_sw (95 : Int32) dm_isVerb_1 rfl rfl rfl (fun hb17 => ?_) (fun hb17 => ?_)
                                  · have hb17 : mj_cnd .eq p0 (95 : Int32) = true := hb17
                                    refine ms0 (S' := .int (1 : Int32) :: _) dm_isVerb_164 rfl rfl rfl rfl ?_
                                    simp only [a_isVerb, hb1, hb2, hb3, hb4, hb5, hb6, hb7, hb8, hb9, hb10, hb11, hb12, hb13, hb14, hb15, hb16, hb17, Bool.false_eq_true, if_true, if_false]
                                    exact ms5 dm_isVerb_165 rfl rfl rfl
                                  · have hb17 : ¬ (mj_cnd .eq p0 (95 : Int32) = true) := hb17
                                    refine ms_sw (124 : Int32) dm_isVerb_1 rfl rfl rfl (fun hb18 => ?_) (fun hb18 => ?_)
                                    · have hb18 : mj_cnd .eq p0 (124 : Int32) = true := hb18
                                      refine ms0 (S' := .int (1 : Int32) :: _) dm_isVerb_164 rfl rfl rfl rfl ?_
                                      simp only [a_isVerb, hb1, hb2, hb3, hb4, hb5, hb6, hb7, hb8, hb9, hb10, hb11, hb12, hb13, hb14, hb15, hb16, hb17, hb18, Bool.false_eq_true, if_true, if_false]
                                      exact ms5 dm_isVerb_165 rfl rfl rfl
                                    · have hb18 : ¬ (mj_cnd .eq p0 (124 : Int32) = true) := hb18
                                      refine ms_sw (126 : Int32) dm_isVerb_1 rfl rfl rfl (fun hb19 => ?_) (fun hb19 => ?_)
                                      · have hb19 : mj_cnd .eq p0 (126 : Int32) = true := hb19
                                        refine ms0 (S' := .int (1 : Int32) :: _) dm_isVerb_164 rfl rfl rfl rfl ?_
                                        simp only [a_isVerb, hb1, hb2, hb3, hb4, hb5, hb6, hb7, hb8, hb9, hb10, hb11, hb12, hb13, hb14, hb15, hb16, hb17, hb18, hb19, Bool.false_eq_true, if_true, if_false]
                                        exact ms5 dm_isVerb_165 rfl rfl rfl
                                      · have hb19 : ¬ (mj_cnd .eq p0 (126 : Int32) = true) := hb19
                                        refine ms2 dm_isVerb_1 (sw_ldef [33, 35, 36, 37, 38, 42, 43, 44, 45, 46, 60, 61, 62, 63, 64, 94, 95, 124, 126] rfl rfl rfl ⟨hb1, hb2, hb3, hb4, hb5, hb6, hb7, hb8, hb9, hb10, hb11, hb12, hb13, hb14, hb15, hb16, hb17, hb18, hb19, trivial⟩) rfl rfl ?_
                                        refine ms0 (S' := .int (0 : Int32) :: _) dm_isVerb_166 rfl rfl rfl rfl ?_
                                        simp only [a_isVerb, hb1, hb2, hb3, hb4, hb5, hb6, hb7, hb8, hb9, hb10, hb11, hb12, hb13, hb14, hb15, hb16, hb17, hb18, hb19, Bool.false_eq_true, if_true, if_false]
                                        exact ms5 dm_isVerb_167 rfl rfl rfl
def k_isNoun : Nat := 218
set_option maxRecDepth 20000 in
theorem pm_isNoun : mj_mmof pg_ms k_isNoun = some ((⟨"ArrayCalculatorModel", "isNoun", "()Z"⟩, prog_14_method_83_code, 1, (Option.some Jvm.ClassFile.FieldType.boolean)), 12, false, mj_dec prog_14_method_83_code) := rfl
theorem dm_isNoun_0 : mj_dec prog_14_method_83_code 0 = some (.aload_n 0, 1) := by decide +kernel
theorem dm_isNoun_1 : mj_dec prog_14_method_83_code 1 = some (.getfield 380, 3) := by decide +kernel
theorem dm_isNoun_4 : mj_dec prog_14_method_83_code 4 = some (.iconst 1, 1) := by decide +kernel
theorem dm_isNoun_5 : mj_dec prog_14_method_83_code 5 = some (.if_icmp .eq 37, 3) := by decide +kernel
theorem dm_isNoun_8 : mj_dec prog_14_method_83_code 8 = some (.aload_n 0, 1) := by decide +kernel
theorem dm_isNoun_9 : mj_dec prog_14_method_83_code 9 = some (.getfield 380, 3) := by decide +kernel
theorem dm_isNoun_12 : mj_dec prog_14_method_83_code 12 = some (.iconst 2, 1) := by decide +kernel
theorem dm_isNoun_13 : mj_dec prog_14_method_83_code 13 = some (.if_icmp .eq 29, 3) := by decide +kernel
theorem dm_isNoun_16 : mj_dec prog_14_method_83_code 16 = some (.aload_n 0, 1) := by decide +kernel
theorem dm_isNoun_17 : mj_dec prog_14_method_83_code 17 = some (.getfield 380, 3) := by decide +kernel
theorem dm_isNoun_20 : mj_dec prog_14_method_83_code 20 = some (.iconst 3, 1) := by decide +kernel
theorem dm_isNoun_21 : mj_dec prog_14_method_83_code 21 = some (.if_icmp .eq 21, 3) := by decide +kernel
theorem dm_isNoun_24 : mj_dec prog_14_method_83_code 24 = some (.aload_n 0, 1) := by decide +kernel
theorem dm_isNoun_25 : mj_dec prog_14_method_83_code 25 = some (.bipush 40, 2) := by decide +kernel
theorem dm_isNoun_27 : mj_dec prog_14_method_83_code 27 = some (.invokevirtual 440, 3) := by decide +kernel
theorem dm_isNoun_30 : mj_dec prog_14_method_83_code 30 = some (.ifCond .ne 12, 3) := by decide +kernel
theorem dm_isNoun_33 : mj_dec prog_14_method_83_code 33 = some (.aload_n 0, 1) := by decide +kernel
theorem dm_isNoun_34 : mj_dec prog_14_method_83_code 34 = some (.bipush 91, 2) := by decide +kernel
theorem dm_isNoun_36 : mj_dec prog_14_method_83_code 36 = some (.invokevirtual 440, 3) := by decide +kernel
theorem dm_isNoun_39 : mj_dec prog_14_method_83_code 39 = some (.ifCond .eq 7, 3) := by decide +kernel
theorem dm_isNoun_42 : mj_dec prog_14_method_83_code 42 = some (.iconst 1, 1) := by decide +kernel
theorem dm_isNoun_43 : mj_dec prog_14_method_83_code 43 = some (.goto 4, 3) := by decide +kernel
theorem dm_isNoun_46 : mj_dec prog_14_method_83_code 46 = some (.iconst 0, 1) := by decide +kernel
theorem dm_isNoun_47 : mj_dec prog_14_method_83_code 47 = some (.ireturn, 1) := by decide +kernel
def a_isNoun (i : Nat → Int32) (l : Nat → Int64) (I : Nat → Nat → Int32) (J : Nat → Nat → Int64)  : Int32 := (if mj_cnd .eq (i 38) (1 : Int32) = true then (1 : Int32) else (if mj_cnd .eq (i 38) (2 : Int32) = true then (1 : Int32) else (if mj_cnd .eq (i 38) (3 : Int32) = true then (1 : Int32) else (if mj_cnd .ne (a_isMarked i l I J (40 : Int32)) (0 : Int32) = true then (1 : Int32) else (if mj_cnd .eq (a_isMarked i l I J (91 : Int32)) (0 : Int32) = true then (0 : Int32) else (1 : Int32))))))
def ok_isNoun (i : Nat → Int32) (l : Nat → Int64) (I : Nat → Nat → Int32) (J : Nat → Nat → Int64)  : Prop := (if mj_cnd .eq (i 38) (1 : Int32) = true then True else (if mj_cnd .eq (i 38) (2 : Int32) = true then True else (if mj_cnd .eq (i 38) (3 : Int32) = true then True else (ok_isMarked i l I J (40 : Int32) ∧ (if mj_cnd .ne (a_isMarked i l I J (40 : Int32)) (0 : Int32) = true then True else (ok_isMarked i l I J (91 : Int32) ∧ True))))))
set_option maxRecDepth 20000 in
theorem q_isNoun {xt : mj_X} {pre post : mj_H} {m : Nat} {i : Nat → Int32} {l : Nat → Int64} {I : Nat → Nat → Int32} {J : Nat → Nat → Int64} {d : Nat} (hm : pre.length = m) (h2 : 2 ≤ m)  (hok : ok_isNoun i l I J ) : pgC xt (d + 2) k_isNoun (.ref m :: []) (rH pre post m i l I J) (some (.int (a_isNoun i l I J ))) (rH pre post m i l I J) := by
  unfold ok_isNoun at hok
  refine ms_call pm_isNoun (Nat.le_of_ble_eq_true rfl) ?_
  dsimp only
  refine ms1 dm_isNoun_0 rfl rfl rfl rfl ?_
  refine ms3 dm_isNoun_1 (r_get (v := .int (i 38)) hm h2 rfl (rg_38 _ _ _)) rfl rfl rfl ?_
  refine ms0 (S' := .int (1 : Int32) :: _) dm_isNoun_4 rfl rfl rfl rfl ?_
  refine ms_2c dm_isNoun_5 rfl rfl (fun hb1 => ?_) (fun hb1 => ?_)
  · have hb1 : mj_cnd .eq (i 38) (1 : Int32) = true := hb1
    rw [if_pos hb1] at hok
    refine ms0 (S' := .int (1 : Int32) :: _) dm_isNoun_42 rfl rfl rfl rfl ?_
    refine ms2 dm_isNoun_43 rfl rfl rfl ?_
    simp only [a_isNoun, hb1, Bool.false_eq_true, if_true, if_false]
    exact ms5 dm_isNoun_47 rfl rfl rfl
  · have hb1 : ¬ (mj_cnd .eq (i 38) (1 : Int32) = true) := hb1
    rw [if_neg hb1] at hok
    refine ms1 dm_isNoun_8 rfl rfl rfl rfl ?_
    refine ms3 dm_isNoun_9 (r_get (v := .int (i 38)) hm h2 rfl (rg_38 _ _ _)) rfl rfl rfl ?_
    refine ms0 (S' := .int (2 : Int32) :: _) dm_isNoun_12 rfl rfl rfl rfl ?_
    refine ms_2c dm_isNoun_13 rfl rfl (fun hb2 => ?_) (fun hb2 => ?_)
    · have hb2 : mj_cnd .eq (i 38) (2 : Int32) = true := hb2
      rw [if_pos hb2] at hok
      refine ms0 (S' := .int (1 : Int32) :: _) dm_isNoun_42 rfl rfl rfl rfl ?_
      refine ms2 dm_isNoun_43 rfl rfl rfl ?_
      simp only [a_isNoun, hb1, hb2, Bool.false_eq_true, if_true, if_false]
      exact ms5 dm_isNoun_47 rfl rfl rfl
    · have hb2 : ¬ (mj_cnd .eq (i 38) (2 : Int32) = true) := hb2
      rw [if_neg hb2] at hok
      refine ms1 dm_isNoun_16 rfl rfl rfl rfl ?_
      refine ms3 dm_isNoun_17 (r_get (v := .int (i 38)) hm h2 rfl (rg_38 _ _ _)) rfl rfl rfl ?_
      refine ms0 (S' := .int (3 : Int32) :: _) dm_isNoun_20 rfl rfl rfl rfl ?_
      refine ms_2c dm_isNoun_21 rfl rfl (fun hb3 => ?_) (fun hb3 => ?_)
      · have hb3 : mj_cnd .eq (i 38) (3 : Int32) = true := hb3
        rw [if_pos hb3] at hok
        refine ms0 (S' := .int (1 : Int32) :: _) dm_isNoun_42 rfl rfl rfl rfl ?_
        refine ms2 dm_isNoun_43 rfl rfl rfl ?_
        simp only [a_isNoun, hb1, hb2, hb3, Bool.false_eq_true, if_true, if_false]
        exact ms5 dm_isNoun_47 rfl rfl rfl
      · have hb3 : ¬ (mj_cnd .eq (i 38) (3 : Int32) = true) := hb3
        rw [if_neg hb3] at hok
        refine ms1 dm_isNoun_24 rfl rfl rfl rfl ?_
        refine ms0 (S' := .int (40 : Int32) :: _) dm_isNoun_25 rfl rfl rfl rfl ?_
        obtain ⟨ho, hok⟩ := hok
        refine ms4 dm_isNoun_27 rfl (r_inv (As := [.int (40 : Int32)]) hm h2 rfl rfl rfl) (q_isMarked hm h2 ho) rfl rfl rfl ?_
        refine ms_1c dm_isNoun_30 rfl rfl (fun hb4 => ?_) (fun hb4 => ?_)
        · have hb4 : mj_cnd .ne (a_isMarked i l I J (40 : Int32)) (0 : Int32) = true := hb4
          rw [if_pos hb4] at hok
          refine ms0 (S' := .int (1 : Int32) :: _) dm_isNoun_42 rfl rfl rfl rfl ?_
          refine ms2 dm_isNoun_43 rfl rfl rfl ?_
          simp only [a_isNoun, hb1, hb2, hb3, hb4, Bool.false_eq_true, if_true, if_false]
          exact ms5 dm_isNoun_47 rfl rfl rfl
        · have hb4 : ¬ (mj_cnd .ne (a_isMarked i l I J (40 : Int32)) (0 : Int32) = true) := hb4
          rw [if_neg hb4] at hok
          refine ms1 dm_isNoun_33 rfl rfl rfl rfl ?_
          refine ms0 (S' := .int (91 : Int32) :: _) dm_isNoun_34 rfl rfl rfl rfl ?_
          obtain ⟨ho, hok⟩ := hok
          refine ms4 dm_isNoun_36 rfl (r_inv (As := [.int (91 : Int32)]) hm h2 rfl rfl rfl) (q_isMarked hm h2 ho) rfl rfl rfl ?_
          refine ms_1c dm_isNoun_39 rfl rfl (fun hb5 => ?_) (fun hb5 => ?_)
          · have hb5 : mj_cnd .eq (a_isMarked i l I J (91 : Int32)) (0 : Int32) = true := hb5
            refine ms0 (S' := .int (0 : Int32) :: _) dm_isNoun_46 rfl rfl rfl rfl ?_
            simp only [a_isNoun, hb1, hb2, hb3, hb4, hb5, Bool.false_eq_true, if_true, if_false]
            exact ms5 dm_isNoun_47 rfl rfl rfl
          · have hb5 : ¬ (mj_cnd .eq (a_isMarked i l I J (91 : Int32)) (0 : Int32) = true) := hb5
            refine ms0 (S' := .int (1 : Int32) :: _) dm_isNoun_42 rfl rfl rfl rfl ?_
            refine ms2 dm_isNoun_43 rfl rfl rfl ?_
            simp only [a_isNoun, hb1, hb2, hb3, hb4, hb5, Bool.false_eq_true, if_true, if_false]
            exact ms5 dm_isNoun_47 rfl rfl rfl
def k_node : Nat := 224
set_option maxRecDepth 20000 in
theorem pm_node : mj_mmof pg_ms k_node = some ((⟨"ArrayCalculatorModel", "node", "(IIIII)I"⟩, prog_14_method_79_code, 6, (Option.some Jvm.ClassFile.FieldType.int)), 12, false, mj_dec prog_14_method_79_code) := rfl
theorem dm_node_0 : mj_dec prog_14_method_79_code 0 = some (.aload_n 0, 1) := by decide +kernel
theorem dm_node_1 : mj_dec prog_14_method_79_code 1 = some (.getfield 75, 3) := by decide +kernel
theorem dm_node_4 : mj_dec prog_14_method_79_code 4 = some (.aload_n 0, 1) := by decide +kernel
theorem dm_node_5 : mj_dec prog_14_method_79_code 5 = some (.getfield 424, 3) := by decide +kernel
theorem dm_node_8 : mj_dec prog_14_method_79_code 8 = some (.iload_n 1, 1) := by decide +kernel
theorem dm_node_9 : mj_dec prog_14_method_79_code 9 = some (.iastore, 1) := by decide +kernel
theorem dm_node_10 : mj_dec prog_14_method_79_code 10 = some (.aload_n 0, 1) := by decide +kernel
theorem dm_node_11 : mj_dec prog_14_method_79_code 11 = some (.getfield 78, 3) := by decide +kernel
theorem dm_node_14 : mj_dec prog_14_method_79_code 14 = some (.aload_n 0, 1) := by decide +kernel
theorem dm_node_15 : mj_dec prog_14_method_79_code 15 = some (.getfield 424, 3) := by decide +kernel
theorem dm_node_18 : mj_dec prog_14_method_79_code 18 = some (.iload_n 2, 1) := by decide +kernel
theorem dm_node_19 : mj_dec prog_14_method_79_code 19 = some (.iastore, 1) := by decide +kernel
theorem dm_node_20 : mj_dec prog_14_method_79_code 20 = some (.aload_n 0, 1) := by decide +kernel
theorem dm_node_21 : mj_dec prog_14_method_79_code 21 = some (.getfield 81, 3) := by decide +kernel
theorem dm_node_24 : mj_dec prog_14_method_79_code 24 = some (.aload_n 0, 1) := by decide +kernel
theorem dm_node_25 : mj_dec prog_14_method_79_code 25 = some (.getfield 424, 3) := by decide +kernel
theorem dm_node_28 : mj_dec prog_14_method_79_code 28 = some (.iload_n 3, 1) := by decide +kernel
theorem dm_node_29 : mj_dec prog_14_method_79_code 29 = some (.iastore, 1) := by decide +kernel
theorem dm_node_30 : mj_dec prog_14_method_79_code 30 = some (.aload_n 0, 1) := by decide +kernel
theorem dm_node_31 : mj_dec prog_14_method_79_code 31 = some (.getfield 84, 3) := by decide +kernel
theorem dm_node_34 : mj_dec prog_14_method_79_code 34 = some (.aload_n 0, 1) := by decide +kernel
theorem dm_node_35 : mj_dec prog_14_method_79_code 35 = some (.getfield 424, 3) := by decide +kernel
theorem dm_node_38 : mj_dec prog_14_method_79_code 38 = some (.iload 4, 2) := by decide +kernel
theorem dm_node_40 : mj_dec prog_14_method_79_code 40 = some (.iastore, 1) := by decide +kernel
theorem dm_node_41 : mj_dec prog_14_method_79_code 41 = some (.aload_n 0, 1) := by decide +kernel
theorem dm_node_42 : mj_dec prog_14_method_79_code 42 = some (.getfield 87, 3) := by decide +kernel
theorem dm_node_45 : mj_dec prog_14_method_79_code 45 = some (.aload_n 0, 1) := by decide +kernel
theorem dm_node_46 : mj_dec prog_14_method_79_code 46 = some (.getfield 424, 3) := by decide +kernel
theorem dm_node_49 : mj_dec prog_14_method_79_code 49 = some (.iload 5, 2) := by decide +kernel
theorem dm_node_51 : mj_dec prog_14_method_79_code 51 = some (.iastore, 1) := by decide +kernel
theorem dm_node_52 : mj_dec prog_14_method_79_code 52 = some (.aload_n 0, 1) := by decide +kernel
theorem dm_node_53 : mj_dec prog_14_method_79_code 53 = some (.getfield 90, 3) := by decide +kernel
theorem dm_node_56 : mj_dec prog_14_method_79_code 56 = some (.aload_n 0, 1) := by decide +kernel
theorem dm_node_57 : mj_dec prog_14_method_79_code 57 = some (.getfield 424, 3) := by decide +kernel
theorem dm_node_60 : mj_dec prog_14_method_79_code 60 = some (.iconst (-1), 1) := by decide +kernel
theorem dm_node_61 : mj_dec prog_14_method_79_code 61 = some (.iastore, 1) := by decide +kernel
theorem dm_node_62 : mj_dec prog_14_method_79_code 62 = some (.aload_n 0, 1) := by decide +kernel
theorem dm_node_63 : mj_dec prog_14_method_79_code 63 = some (.dup, 1) := by decide +kernel
theorem dm_node_64 : mj_dec prog_14_method_79_code 64 = some (.getfield 424, 3) := by decide +kernel
theorem dm_node_67 : mj_dec prog_14_method_79_code 67 = some (.iconst 1, 1) := by decide +kernel
theorem dm_node_68 : mj_dec prog_14_method_79_code 68 = some (.iadd, 1) := by decide +kernel
theorem dm_node_69 : mj_dec prog_14_method_79_code 69 = some (.putfield 424, 3) := by decide +kernel
theorem dm_node_72 : mj_dec prog_14_method_79_code 72 = some (.aload_n 0, 1) := by decide +kernel
theorem dm_node_73 : mj_dec prog_14_method_79_code 73 = some (.getfield 424, 3) := by decide +kernel
theorem dm_node_76 : mj_dec prog_14_method_79_code 76 = some (.iconst 1, 1) := by decide +kernel
theorem dm_node_77 : mj_dec prog_14_method_79_code 77 = some (.isub, 1) := by decide +kernel
theorem dm_node_78 : mj_dec prog_14_method_79_code 78 = some (.ireturn, 1) := by decide +kernel
def lp_node : Nat → Nat → (Nat → Int32) → (Nat → Int64) → (Nat → Nat → Int32) → (Nat → Nat → Int64) → (Nat → Int32) → (Nat → Int64) → Int32 × (Nat → Int32) × (Nat → Int64) × (Nat → Nat → Int32) × (Nat → Nat → Int64)
  | 0, _, i, l, I, J, _, _ => (0, i, l, I, J)
  | n + 1, hd, i, l, I, J, v, w => match hd with
    | 20 => lp_node n 41 i l (va_up (va_up I 45 (upd (I 45) ((i 50)).toNatClampNeg (v 3))) 46 (upd ((va_up I 45 (upd (I 45) ((i 50)).toNatClampNeg (v 3))) 46) ((i 50)).toNatClampNeg (v 4))) J v w
    | 41 => lp_node n 62 i l (va_up (va_up I 47 (upd (I 47) ((i 50)).toNatClampNeg (v 5))) 48 (upd ((va_up I 47 (upd (I 47) ((i 50)).toNatClampNeg (v 5))) 48) ((i 50)).toNatClampNeg (-1 : Int32))) J v w
    | 62 => ((((i 50) + (1 : Int32)) - (1 : Int32)), (upd i 50 ((i 50) + (1 : Int32))), l, I, J)
    | _ => (0, i, l, I, J)
theorem lb_node_20 (n : Nat) (i : Nat → Int32) (l : Nat → Int64) (I : Nat → Nat → Int32) (J : Nat → Nat → Int64) (v : Nat → Int32) (w : Nat → Int64) : lp_node (n + 1) 20 i l I J v w = lp_node n 41 i l (va_up (va_up I 45 (upd (I 45) ((i 50)).toNatClampNeg (v 3))) 46 (upd ((va_up I 45 (upd (I 45) ((i 50)).toNatClampNeg (v 3))) 46) ((i 50)).toNatClampNeg (v 4))) J v w := rfl
theorem lb_node_41 (n : Nat) (i : Nat → Int32) (l : Nat → Int64) (I : Nat → Nat → Int32) (J : Nat → Nat → Int64) (v : Nat → Int32) (w : Nat → Int64) : lp_node (n + 1) 41 i l I J v w = lp_node n 62 i l (va_up (va_up I 47 (upd (I 47) ((i 50)).toNatClampNeg (v 5))) 48 (upd ((va_up I 47 (upd (I 47) ((i 50)).toNatClampNeg (v 5))) 48) ((i 50)).toNatClampNeg (-1 : Int32))) J v w := rfl
theorem lb_node_62 (n : Nat) (i : Nat → Int32) (l : Nat → Int64) (I : Nat → Nat → Int32) (J : Nat → Nat → Int64) (v : Nat → Int32) (w : Nat → Int64) : lp_node (n + 1) 62 i l I J v w = ((((i 50) + (1 : Int32)) - (1 : Int32)), (upd i 50 ((i 50) + (1 : Int32))), l, I, J) := rfl
def okl_node : Nat → Nat → (Nat → Int32) → (Nat → Int64) → (Nat → Nat → Int32) → (Nat → Nat → Int64) → (Nat → Int32) → (Nat → Int64) → Prop
  | 0, _, _, _, _, _, _, _ => False
  | n + 1, hd, i, l, I, J, v, w => match hd with
    | 20 => (¬ ((i 50) < 0 ∨ 84000 ≤ ((i 50)).toNatClampNeg) ∧ (¬ ((i 50) < 0 ∨ 84000 ≤ ((i 50)).toNatClampNeg) ∧ okl_node n 41 i l (va_up (va_up I 45 (upd (I 45) ((i 50)).toNatClampNeg (v 3))) 46 (upd ((va_up I 45 (upd (I 45) ((i 50)).toNatClampNeg (v 3))) 46) ((i 50)).toNatClampNeg (v 4))) J v w))
    | 41 => (¬ ((i 50) < 0 ∨ 84000 ≤ ((i 50)).toNatClampNeg) ∧ (¬ ((i 50) < 0 ∨ 84000 ≤ ((i 50)).toNatClampNeg) ∧ okl_node n 62 i l (va_up (va_up I 47 (upd (I 47) ((i 50)).toNatClampNeg (v 5))) 48 (upd ((va_up I 47 (upd (I 47) ((i 50)).toNatClampNeg (v 5))) 48) ((i 50)).toNatClampNeg (-1 : Int32))) J v w))
    | 62 => True
    | _ => False
def s_node (n : Nat) (i : Nat → Int32) (l : Nat → Int64) (I : Nat → Nat → Int32) (J : Nat → Nat → Int64) (p0 : Int32) (p1 : Int32) (p2 : Int32) (p3 : Int32) (p4 : Int32) : Int32 × (Nat → Int32) × (Nat → Int64) × (Nat → Nat → Int32) × (Nat → Nat → Int64) := lp_node n 20 i l (va_up (va_up I 43 (upd (I 43) ((i 50)).toNatClampNeg p0)) 44 (upd ((va_up I 43 (upd (I 43) ((i 50)).toNatClampNeg p0)) 44) ((i 50)).toNatClampNeg p1)) J (upd (upd (upd (fun _ => 0) 3 p2) 4 p3) 5 p4) (fun _ => 0)
def ok_node (n : Nat) (i : Nat → Int32) (l : Nat → Int64) (I : Nat → Nat → Int32) (J : Nat → Nat → Int64) (p0 : Int32) (p1 : Int32) (p2 : Int32) (p3 : Int32) (p4 : Int32) : Prop := (¬ ((i 50) < 0 ∨ 84000 ≤ ((i 50)).toNatClampNeg) ∧ (¬ ((i 50) < 0 ∨ 84000 ≤ ((i 50)).toNatClampNeg) ∧ okl_node n 20 i l (va_up (va_up I 43 (upd (I 43) ((i 50)).toNatClampNeg p0)) 44 (upd ((va_up I 43 (upd (I 43) ((i 50)).toNatClampNeg p0)) 44) ((i 50)).toNatClampNeg p1)) J (upd (upd (upd (fun _ => 0) 3 p2) 4 p3) 5 p4) (fun _ => 0)))
set_option maxRecDepth 20000 in
theorem ql_node {xt : mj_X} {pre post : mj_H} {m : Nat} {d : Nat} (hm : pre.length = m) (h2 : 2 ≤ m) : ∀ n : Nat, (∀ i l I J v w, okl_node n 20 i l I J v w → mjR (fun N => mj_call (mj_mmof pg_ms) (mj_TTof pg_TL) xt pg_tl 2 (d + 0) N) (mj_TTof pg_TL 12).1 (mj_TTof pg_TL 12).2 xt pg_tl 2 6 (d + 0) false (Option.some Jvm.ClassFile.FieldType.int) (mj_dec prog_14_method_79_code) 20 [(0, .ref m), (3, .int (v 3)), (4, .int (v 4)), (5, .int (v 5))] [] (rH pre post m i l I J) (some (.int (lp_node n 20 i l I J v w).1)) (rH pre post m (lp_node n 20 i l I J v w).2.1 (lp_node n 20 i l I J v w).2.2.1 (lp_node n 20 i l I J v w).2.2.2.1 (lp_node n 20 i l I J v w).2.2.2.2)) ∧ (∀ i l I J v w, okl_node n 41 i l I J v w → mjR (fun N => mj_call (mj_mmof pg_ms) (mj_TTof pg_TL) xt pg_tl 2 (d + 0) N) (mj_TTof pg_TL 12).1 (mj_TTof pg_TL 12).2 xt pg_tl 2 6 (d + 0) false (Option.some Jvm.ClassFile.FieldType.int) (mj_dec prog_14_method_79_code) 41 [(0, .ref m), (5, .int (v 5))] [] (rH pre post m i l I J) (some (.int (lp_node n 41 i l I J v w).1)) (rH pre post m (lp_node n 41 i l I J v w).2.1 (lp_node n 41 i l I J v w).2.2.1 (lp_node n 41 i l I J v w).2.2.2.1 (lp_node n 41 i l I J v w).2.2.2.2)) ∧ (∀ i l I J v w, okl_node n 62 i l I J v w → mjR (fun N => mj_call (mj_mmof pg_ms) (mj_TTof pg_TL) xt pg_tl 2 (d + 0) N) (mj_TTof pg_TL 12).1 (mj_TTof pg_TL 12).2 xt pg_tl 2 6 (d + 0) false (Option.some Jvm.ClassFile.FieldType.int) (mj_dec prog_14_method_79_code) 62 [(0, .ref m)] [] (rH pre post m i l I J) (some (.int (lp_node n 62 i l I J v w).1)) (rH pre post m (lp_node n 62 i l I J v w).2.1 (lp_node n 62 i l I J v w).2.2.1 (lp_node n 62 i l I J v w).2.2.2.1 (lp_node n 62 i l I J v w).2.2.2.2)) := by
  intro n
  induction n with
  | zero => exact ⟨fun i l I J v w h => absurd h id, fun i l I J v w h => absurd h id, fun i l I J v w h => absurd h id⟩
  | succ n ih =>
    refine ⟨?_, ?_, ?_⟩
    · intro i l I J v w hok
      have hok : (¬ ((i 50) < 0 ∨ 84000 ≤ ((i 50)).toNatClampNeg) ∧ (¬ ((i 50) < 0 ∨ 84000 ≤ ((i 50)).toNatClampNeg) ∧ okl_node n 41 i l (va_up (va_up I 45 (upd (I 45) ((i 50)).toNatClampNeg (v 3))) 46 (upd ((va_up I 45 (upd (I 45) ((i 50)).toNatClampNeg (v 3))) 46) ((i 50)).toNatClampNeg (v 4))) J v w)) := hok
      refine ms1 dm_node_20 rfl rfl rfl rfl ?_
      refine ms3 dm_node_21 (r_get hm h2 rfl (rg_45 _ _ _)) rfl rfl rfl ?_
      refine ms1 dm_node_24 rfl rfl rfl rfl ?_
      refine ms3 dm_node_25 (r_get (v := .int (i 50)) hm h2 rfl (rg_50 _ _ _)) rfl rfl rfl ?_
      refine ms1 dm_node_28 rfl rfl rfl rfl ?_
      obtain ⟨ho, hok⟩ := hok
      refine ms3 dm_node_29 (r_iastk (k := 45) hm h2 (rc_45 _ _ _ _ _) rfl ho (rs_45 _ _ _ _ _ _)) rfl rfl rfl ?_
      refine ms1 dm_node_30 rfl rfl rfl rfl ?_
      refine ms3 dm_node_31 (r_get hm h2 rfl (rg_46 _ _ _)) rfl rfl rfl ?_
      refine ms1 dm_node_34 rfl rfl rfl rfl ?_
      refine ms3 dm_node_35 (r_get (v := .int (i 50)) hm h2 rfl (rg_50 _ _ _)) rfl rfl rfl ?_
      refine ms1 dm_node_38 rfl rfl rfl rfl ?_
      obtain ⟨ho, hok⟩ := hok
      refine ms3 dm_node_40 (r_iastk (k := 46) hm h2 (rc_46 _ _ _ _ _) rfl ho (rs_46 _ _ _ _ _ _)) rfl rfl rfl ?_
      have he : lp_node (n + 1) 20 i l I J v w = lp_node n 41 i l (va_up (va_up I 45 (upd (I 45) ((i 50)).toNatClampNeg (v 3))) 46 (upd ((va_up I 45 (upd (I 45) ((i 50)).toNatClampNeg (v 3))) 46) ((i 50)).toNatClampNeg (v 4))) J v w := by
        rw [lb_node_20]
      rw [he]
      exact mjR_sub rfl rfl rfl (ih.2.1 _ _ _ _ _ _ hok)
    · intro i l I J v w hok
      have hok : (¬ ((i 50) < 0 ∨ 84000 ≤ ((i 50)).toNatClampNeg) ∧ (¬ ((i 50) < 0 ∨ 84000 ≤ ((i 50)).toNatClampNeg) ∧ okl_node n 62 i l (va_up (va_up I 47 (upd (I 47) ((i 50)).toNatClampNeg (v 5))) 48 (upd ((va_up I 47 (upd (I 47) ((i 50)).toNatClampNeg (v 5))) 48) ((i 50)).toNatClampNeg (-1 : Int32))) J v w)) := hok
      refine ms1 dm_node_41 rfl rfl rfl rfl ?_
      refine ms3 dm_node_42 (r_get hm h2 rfl (rg_47 _ _ _)) rfl rfl rfl ?_
      refine ms1 dm_node_45 rfl rfl rfl rfl ?_
      refine ms3 dm_node_46 (r_get (v := .int (i 50)) hm h2 rfl (rg_50 _ _ _)) rfl rfl rfl ?_
      refine ms1 dm_node_49 rfl rfl rfl rfl ?_
      obtain ⟨ho, hok⟩ := hok
      refine ms3 dm_node_51 (r_iastk (k := 47) hm h2 (rc_47 _ _ _ _ _) rfl ho (rs_47 _ _ _ _ _ _)) rfl rfl rfl ?_
      refine ms1 dm_node_52 rfl rfl rfl rfl ?_
      refine ms3 dm_node_53 (r_get hm h2 rfl (rg_48 _ _ _)) rfl rfl rfl ?_
      refine ms1 dm_node_56 rfl rfl rfl rfl ?_
      refine ms3 dm_node_57 (r_get (v := .int (i 50)) hm h2 rfl (rg_50 _ _ _)) rfl rfl rfl ?_
      refine ms0 (S' := .int (-1 : Int32) :: _) dm_node_60 rfl rfl rfl rfl ?_
      obtain ⟨ho, hok⟩ := hok
      refine ms3 dm_node_61 (r_iastk (k := 48) hm h2 (rc_48 _ _ _ _ _) rfl ho (rs_48 _ _ _ _ _ _)) rfl rfl rfl ?_
      have he : lp_node (n + 1) 41 i l I J v w = lp_node n 62 i l (va_up (va_up I 47 (upd (I 47) ((i 50)).toNatClampNeg (v 5))) 48 (upd ((va_up I 47 (upd (I 47) ((i 50)).toNatClampNeg (v 5))) 48) ((i 50)).toNatClampNeg (-1 : Int32))) J v w := by
        rw [lb_node_41]
      rw [he]
      exact mjR_sub rfl rfl rfl (ih.2.2 _ _ _ _ _ _ hok)
    · intro i l I J v w hok
      have hok : True := hok
      refine ms1 dm_node_62 rfl rfl rfl rfl ?_
      refine ms0 dm_node_63 rfl rfl rfl rfl ?_
      refine ms3 dm_node_64 (r_get (v := .int (i 50)) hm h2 rfl (rg_50 _ _ _)) rfl rfl rfl ?_
      refine ms0 (S' := .int (1 : Int32) :: _) dm_node_67 rfl rfl rfl rfl ?_
      refine ms0 dm_node_68 rfl rfl rfl rfl ?_
      refine ms3 dm_node_69 (r_puti hm h2 rfl (rF_lt 50 rfl) (rf_50 _ _ _ _)) rfl rfl rfl ?_
      refine ms1 dm_node_72 rfl rfl rfl rfl ?_
      refine ms3 dm_node_73 (r_get (v := .int ((i 50) + (1 : Int32))) hm h2 rfl (rg_50 _ _ _)) rfl rfl rfl ?_
      refine ms0 (S' := .int (1 : Int32) :: _) dm_node_76 rfl rfl rfl rfl ?_
      refine ms0 dm_node_77 rfl rfl rfl rfl ?_
      have he : lp_node (n + 1) 62 i l I J v w = ((((i 50) + (1 : Int32)) - (1 : Int32)), (upd i 50 ((i 50) + (1 : Int32))), l, I, J) := by
        rw [lb_node_62]
      rw [he]
      exact ms5 dm_node_78 rfl rfl rfl
set_option maxRecDepth 20000 in
theorem q_node {xt : mj_X} {pre post : mj_H} {m : Nat} {i : Nat → Int32} {l : Nat → Int64} {I : Nat → Nat → Int32} {J : Nat → Nat → Int64} {d : Nat} (hm : pre.length = m) (h2 : 2 ≤ m) {p0 : Int32} {p1 : Int32} {p2 : Int32} {p3 : Int32} {p4 : Int32} {n : Nat} (hok : ok_node n i l I J p0 p1 p2 p3 p4) : pgC xt (d + 1) k_node (.ref m :: [.int p0, .int p1, .int p2, .int p3, .int p4]) (rH pre post m i l I J) (some (.int (s_node n i l I J p0 p1 p2 p3 p4).1)) (rH pre post m (s_node n i l I J p0 p1 p2 p3 p4).2.1 (s_node n i l I J p0 p1 p2 p3 p4).2.2.1 (s_node n i l I J p0 p1 p2 p3 p4).2.2.2.1 (s_node n i l I J p0 p1 p2 p3 p4).2.2.2.2) := by
  unfold ok_node at hok
  refine ms_call pm_node (Nat.le_of_ble_eq_true rfl) ?_
  dsimp only
  refine ms1 dm_node_0 rfl rfl rfl rfl ?_
  refine ms3 dm_node_1 (r_get hm h2 rfl (rg_43 _ _ _)) rfl rfl rfl ?_
  refine ms1 dm_node_4 rfl rfl rfl rfl ?_
  refine ms3 dm_node_5 (r_get (v := .int (i 50)) hm h2 rfl (rg_50 _ _ _)) rfl rfl rfl ?_
  refine ms1 dm_node_8 rfl rfl rfl rfl ?_
  obtain ⟨ho, hok⟩ := hok
  refine ms3 dm_node_9 (r_iastk (k := 43) hm h2 (rc_43 _ _ _ _ _) rfl ho (rs_43 _ _ _ _ _ _)) rfl rfl rfl ?_
  refine ms1 dm_node_10 rfl rfl rfl rfl ?_
  refine ms3 dm_node_11 (r_get hm h2 rfl (rg_44 _ _ _)) rfl rfl rfl ?_
  refine ms1 dm_node_14 rfl rfl rfl rfl ?_
  refine ms3 dm_node_15 (r_get (v := .int (i 50)) hm h2 rfl (rg_50 _ _ _)) rfl rfl rfl ?_
  refine ms1 dm_node_18 rfl rfl rfl rfl ?_
  obtain ⟨ho, hok⟩ := hok
  refine ms3 dm_node_19 (r_iastk (k := 44) hm h2 (rc_44 _ _ _ _ _) rfl ho (rs_44 _ _ _ _ _ _)) rfl rfl rfl ?_
  have he : s_node n i l I J p0 p1 p2 p3 p4 = lp_node n 20 i l (va_up (va_up I 43 (upd (I 43) ((i 50)).toNatClampNeg p0)) 44 (upd ((va_up I 43 (upd (I 43) ((i 50)).toNatClampNeg p0)) 44) ((i 50)).toNatClampNeg p1)) J (upd (upd (upd (fun _ => 0) 3 p2) 4 p3) 5 p4) (fun _ => 0) := by
    unfold s_node
    rfl
  rw [he]
  exact mjR_sub rfl rfl rfl ((ql_node hm h2 n).1 _ _ _ _ _ _ hok)
