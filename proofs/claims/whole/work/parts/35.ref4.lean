def k_isOpening : Nat := 228
set_option maxRecDepth 20000 in
theorem pm_isOpening : mj_mmof pg_ms k_isOpening = some ((⟨"ArrayCalculatorModel", "isOpening", "()Z"⟩, prog_14_method_88_code, 2, (Option.some Jvm.ClassFile.FieldType.boolean)), 12, false, mj_dec prog_14_method_88_code) := rfl
theorem dm_isOpening_0 : mj_dec prog_14_method_88_code 0 = some (.aload_n 0, 1) := by decide +kernel
theorem dm_isOpening_1 : mj_dec prog_14_method_88_code 1 = some (.getfield 383, 3) := by decide +kernel
theorem dm_isOpening_4 : mj_dec prog_14_method_88_code 4 = some (.istore_n 1, 1) := by decide +kernel
theorem dm_isOpening_5 : mj_dec prog_14_method_88_code 5 = some (.aload_n 0, 1) := by decide +kernel
theorem dm_isOpening_6 : mj_dec prog_14_method_88_code 6 = some (.iload_n 1, 1) := by decide +kernel
theorem dm_isOpening_7 : mj_dec prog_14_method_88_code 7 = some (.invokevirtual 373, 3) := by decide +kernel
theorem dm_isOpening_10 : mj_dec prog_14_method_88_code 10 = some (.bipush 32, 2) := by decide +kernel
theorem dm_isOpening_12 : mj_dec prog_14_method_88_code 12 = some (.if_icmp .ne 9, 3) := by decide +kernel
theorem dm_isOpening_15 : mj_dec prog_14_method_88_code 15 = some (.iinc 1 1, 3) := by decide +kernel
theorem dm_isOpening_18 : mj_dec prog_14_method_88_code 18 = some (.goto (-13), 3) := by decide +kernel
theorem dm_isOpening_21 : mj_dec prog_14_method_88_code 21 = some (.aload_n 0, 1) := by decide +kernel
theorem dm_isOpening_22 : mj_dec prog_14_method_88_code 22 = some (.iload_n 1, 1) := by decide +kernel
theorem dm_isOpening_23 : mj_dec prog_14_method_88_code 23 = some (.invokevirtual 373, 3) := by decide +kernel
theorem dm_isOpening_26 : mj_dec prog_14_method_88_code 26 = some (.bipush 40, 2) := by decide +kernel
theorem dm_isOpening_28 : mj_dec prog_14_method_88_code 28 = some (.if_icmp .ne 7, 3) := by decide +kernel
theorem dm_isOpening_31 : mj_dec prog_14_method_88_code 31 = some (.iconst 1, 1) := by decide +kernel
theorem dm_isOpening_32 : mj_dec prog_14_method_88_code 32 = some (.goto 4, 3) := by decide +kernel
theorem dm_isOpening_35 : mj_dec prog_14_method_88_code 35 = some (.iconst 0, 1) := by decide +kernel
theorem dm_isOpening_36 : mj_dec prog_14_method_88_code 36 = some (.ireturn, 1) := by decide +kernel
def lp_isOpening : Nat → Nat → (Nat → Int32) → (Nat → Int64) → (Nat → Nat → Int32) → (Nat → Nat → Int64) → (Nat → Int32) → (Nat → Int64) → Int32 × (Nat → Int32) × (Nat → Int64) × (Nat → Nat → Int32) × (Nat → Nat → Int64)
  | 0, _, i, l, I, J, _, _ => (0, i, l, I, J)
  | n + 1, hd, i, l, I, J, v, w => match hd with
    | 5 => (if mj_cnd .ne (a_byteAt i l I J (v 1)) (32 : Int32) = true then (if mj_cnd .ne (a_byteAt i l I J (v 1)) (40 : Int32) = true then ((0 : Int32), i, l, I, J) else ((1 : Int32), i, l, I, J)) else lp_isOpening n 5 i l I J (upd v 1 ((v 1) + Int32.ofInt (1))) w)
    | _ => (0, i, l, I, J)
theorem lb_isOpening_5 (n : Nat) (i : Nat → Int32) (l : Nat → Int64) (I : Nat → Nat → Int32) (J : Nat → Nat → Int64) (v : Nat → Int32) (w : Nat → Int64) : lp_isOpening (n + 1) 5 i l I J v w = (if mj_cnd .ne (a_byteAt i l I J (v 1)) (32 : Int32) = true then (if mj_cnd .ne (a_byteAt i l I J (v 1)) (40 : Int32) = true then ((0 : Int32), i, l, I, J) else ((1 : Int32), i, l, I, J)) else lp_isOpening n 5 i l I J (upd v 1 ((v 1) + Int32.ofInt (1))) w) := rfl
def okl_isOpening : Nat → Nat → (Nat → Int32) → (Nat → Int64) → (Nat → Nat → Int32) → (Nat → Nat → Int64) → (Nat → Int32) → (Nat → Int64) → Prop
  | 0, _, _, _, _, _, _, _ => False
  | n + 1, hd, i, l, I, J, v, w => match hd with
    | 5 => (ok_byteAt i l I J (v 1) ∧ (if mj_cnd .ne (a_byteAt i l I J (v 1)) (32 : Int32) = true then (ok_byteAt i l I J (v 1) ∧ True) else okl_isOpening n 5 i l I J (upd v 1 ((v 1) + Int32.ofInt (1))) w))
    | _ => False
def s_isOpening (n : Nat) (i : Nat → Int32) (l : Nat → Int64) (I : Nat → Nat → Int32) (J : Nat → Nat → Int64)  : Int32 × (Nat → Int32) × (Nat → Int64) × (Nat → Nat → Int32) × (Nat → Nat → Int64) := lp_isOpening n 5 i l I J (upd (fun _ => 0) 1 (i 35)) (fun _ => 0)
def ok_isOpening (n : Nat) (i : Nat → Int32) (l : Nat → Int64) (I : Nat → Nat → Int32) (J : Nat → Nat → Int64)  : Prop := okl_isOpening n 5 i l I J (upd (fun _ => 0) 1 (i 35)) (fun _ => 0)
set_option maxRecDepth 20000 in
theorem ql_isOpening {xt : mj_X} {pre post : mj_H} {m : Nat} {d : Nat} (hm : pre.length = m) (h2 : 2 ≤ m) : ∀ n : Nat, (∀ i l I J v w, okl_isOpening n 5 i l I J v w → mjR (fun N => mj_call (mj_mmof pg_ms) (mj_TTof pg_TL) xt pg_tl 2 (d + 1) N) (mj_TTof pg_TL 12).1 (mj_TTof pg_TL 12).2 xt pg_tl 2 2 (d + 1) false (Option.some Jvm.ClassFile.FieldType.boolean) (mj_dec prog_14_method_88_code) 5 [(0, .ref m), (1, .int (v 1))] [] (rH pre post m i l I J) (some (.int (lp_isOpening n 5 i l I J v w).1)) (rH pre post m (lp_isOpening n 5 i l I J v w).2.1 (lp_isOpening n 5 i l I J v w).2.2.1 (lp_isOpening n 5 i l I J v w).2.2.2.1 (lp_isOpening n 5 i l I J v w).2.2.2.2)) := by
  intro n
  induction n with
  | zero => exact fun i l I J v w h => absurd h id
  | succ n ih =>
    · intro i l I J v w hok
      have hok : (ok_byteAt i l I J (v 1) ∧ (if mj_cnd .ne (a_byteAt i l I J (v 1)) (32 : Int32) = true then (ok_byteAt i l I J (v 1) ∧ True) else okl_isOpening n 5 i l I J (upd v 1 ((v 1) + Int32.ofInt (1))) w)) := hok
      refine ms1 dm_isOpening_5 rfl rfl rfl rfl ?_
      refine ms1 dm_isOpening_6 rfl rfl rfl rfl ?_
      obtain ⟨ho, hok⟩ := hok
      refine ms4 dm_isOpening_7 rfl (r_inv (As := [.int (v 1)]) hm h2 rfl rfl rfl) (q_byteAt hm h2 ho) rfl rfl rfl ?_
      refine ms0 (S' := .int (32 : Int32) :: _) dm_isOpening_10 rfl rfl rfl rfl ?_
      refine ms_2c dm_isOpening_12 rfl rfl (fun hb1 => ?_) (fun hb1 => ?_)
      · have hb1 : mj_cnd .ne (a_byteAt i l I J (v 1)) (32 : Int32) = true := hb1
        rw [if_pos hb1] at hok
        refine ms1 dm_isOpening_21 rfl rfl rfl rfl ?_
        refine ms1 dm_isOpening_22 rfl rfl rfl rfl ?_
        obtain ⟨ho, hok⟩ := hok
        refine ms4 dm_isOpening_23 rfl (r_inv (As := [.int (v 1)]) hm h2 rfl rfl rfl) (q_byteAt hm h2 ho) rfl rfl rfl ?_
        refine ms0 (S' := .int (40 : Int32) :: _) dm_isOpening_26 rfl rfl rfl rfl ?_
        refine ms_2c dm_isOpening_28 rfl rfl (fun hb2 => ?_) (fun hb2 => ?_)
        · have hb2 : mj_cnd .ne (a_byteAt i l I J (v 1)) (40 : Int32) = true := hb2
          refine ms0 (S' := .int (0 : Int32) :: _) dm_isOpening_35 rfl rfl rfl rfl ?_
          have he : lp_isOpening (n + 1) 5 i l I J v w = ((0 : Int32), i, l, I, J) := by
            rw [lb_isOpening_5]
            simp only [hb1, hb2, Bool.false_eq_true, if_true, if_false]
          rw [he]
          exact ms5 dm_isOpening_36 rfl rfl rfl
        · have hb2 : ¬ (mj_cnd .ne (a_byteAt i l I J (v 1)) (40 : Int32) = true) := hb2
          refine ms0 (S' := .int (1 : Int32) :: _) dm_isOpening_31 rfl rfl rfl rfl ?_
          refine ms2 dm_isOpening_32 rfl rfl rfl ?_
          have he : lp_isOpening (n + 1) 5 i l I J v w = ((1 : Int32), i, l, I, J) := by
            rw [lb_isOpening_5]
            simp only [hb1, hb2, Bool.false_eq_true, if_true, if_false]
          rw [he]
          exact ms5 dm_isOpening_36 rfl rfl rfl
      · have hb1 : ¬ (mj_cnd .ne (a_byteAt i l I J (v 1)) (32 : Int32) = true) := hb1
        rw [if_neg hb1] at hok
        refine ms1 dm_isOpening_15 rfl rfl rfl rfl ?_
        refine ms2 dm_isOpening_18 rfl rfl rfl ?_
        have he : lp_isOpening (n + 1) 5 i l I J v w = lp_isOpening n 5 i l I J (upd v 1 ((v 1) + Int32.ofInt (1))) w := by
          rw [lb_isOpening_5]
          simp only [hb1, Bool.false_eq_true, if_true, if_false]
        rw [he]
        exact mjR_sub rfl rfl rfl (ih _ _ _ _ _ _ hok)
set_option maxRecDepth 20000 in
theorem q_isOpening {xt : mj_X} {pre post : mj_H} {m : Nat} {i : Nat → Int32} {l : Nat → Int64} {I : Nat → Nat → Int32} {J : Nat → Nat → Int64} {d : Nat} (hm : pre.length = m) (h2 : 2 ≤ m)  {n : Nat} (hok : ok_isOpening n i l I J ) : pgC xt (d + 2) k_isOpening (.ref m :: []) (rH pre post m i l I J) (some (.int (s_isOpening n i l I J ).1)) (rH pre post m (s_isOpening n i l I J ).2.1 (s_isOpening n i l I J ).2.2.1 (s_isOpening n i l I J ).2.2.2.1 (s_isOpening n i l I J ).2.2.2.2) := by
  unfold ok_isOpening at hok
  refine ms_call pm_isOpening (Nat.le_of_ble_eq_true rfl) ?_
  dsimp only
  refine ms1 dm_isOpening_0 rfl rfl rfl rfl ?_
  refine ms3 dm_isOpening_1 (r_get (v := .int (i 35)) hm h2 rfl (rg_35 _ _ _)) rfl rfl rfl ?_
  refine ms1 dm_isOpening_4 rfl rfl rfl rfl ?_
  have he : s_isOpening n i l I J  = lp_isOpening n 5 i l I J (upd (fun _ => 0) 1 (i 35)) (fun _ => 0) := by
    unfold s_isOpening
    rfl
  rw [he]
  exact mjR_sub rfl rfl rfl ((ql_isOpening hm h2 n) _ _ _ _ _ _ hok)
def k_isKnown : Nat := 231
set_option maxRecDepth 20000 in
theorem pm_isKnown : mj_mmof pg_ms k_isKnown = some ((⟨"ArrayCalculatorModel", "isKnown", "(J)Z"⟩, prog_14_method_96_code, 3, (Option.some Jvm.ClassFile.FieldType.boolean)), 12, false, mj_dec prog_14_method_96_code) := rfl
theorem dm_isKnown_0 : mj_dec prog_14_method_96_code 0 = some (.aload_n 0, 1) := by decide +kernel
theorem dm_isKnown_1 : mj_dec prog_14_method_96_code 1 = some (.lload_n 1, 1) := by decide +kernel
theorem dm_isKnown_2 : mj_dec prog_14_method_96_code 2 = some (.invokevirtual 367, 3) := by decide +kernel
theorem dm_isKnown_5 : mj_dec prog_14_method_96_code 5 = some (.ifCond .ge 11, 3) := by decide +kernel
theorem dm_isKnown_8 : mj_dec prog_14_method_96_code 8 = some (.aload_n 0, 1) := by decide +kernel
theorem dm_isKnown_9 : mj_dec prog_14_method_96_code 9 = some (.lload_n 1, 1) := by decide +kernel
theorem dm_isKnown_10 : mj_dec prog_14_method_96_code 10 = some (.invokevirtual 363, 3) := by decide +kernel
theorem dm_isKnown_13 : mj_dec prog_14_method_96_code 13 = some (.ifCond .lt 7, 3) := by decide +kernel
theorem dm_isKnown_16 : mj_dec prog_14_method_96_code 16 = some (.iconst 1, 1) := by decide +kernel
theorem dm_isKnown_17 : mj_dec prog_14_method_96_code 17 = some (.goto 4, 3) := by decide +kernel
theorem dm_isKnown_20 : mj_dec prog_14_method_96_code 20 = some (.iconst 0, 1) := by decide +kernel
theorem dm_isKnown_21 : mj_dec prog_14_method_96_code 21 = some (.ireturn, 1) := by decide +kernel
def a_isKnown (n : Nat) (i : Nat → Int32) (l : Nat → Int64) (I : Nat → Nat → Int32) (J : Nat → Nat → Int64) (p0 : Int64) : Int32 := (if mj_cnd .ge ((s_valueNamed n i l I J p0).1) (0 : Int32) = true then (1 : Int32) else (if mj_cnd .lt ((s_functionNamed n ((s_valueNamed n i l I J p0).2.1) ((s_valueNamed n i l I J p0).2.2.1) ((s_valueNamed n i l I J p0).2.2.2.1) ((s_valueNamed n i l I J p0).2.2.2.2) p0).1) (0 : Int32) = true then (0 : Int32) else (1 : Int32)))
def si_isKnown (n : Nat) (i : Nat → Int32) (l : Nat → Int64) (I : Nat → Nat → Int32) (J : Nat → Nat → Int64) (p0 : Int64) : Nat → Int32 := (if mj_cnd .ge ((s_valueNamed n i l I J p0).1) (0 : Int32) = true then ((s_valueNamed n i l I J p0).2.1) else (if mj_cnd .lt ((s_functionNamed n ((s_valueNamed n i l I J p0).2.1) ((s_valueNamed n i l I J p0).2.2.1) ((s_valueNamed n i l I J p0).2.2.2.1) ((s_valueNamed n i l I J p0).2.2.2.2) p0).1) (0 : Int32) = true then ((s_functionNamed n ((s_valueNamed n i l I J p0).2.1) ((s_valueNamed n i l I J p0).2.2.1) ((s_valueNamed n i l I J p0).2.2.2.1) ((s_valueNamed n i l I J p0).2.2.2.2) p0).2.1) else ((s_functionNamed n ((s_valueNamed n i l I J p0).2.1) ((s_valueNamed n i l I J p0).2.2.1) ((s_valueNamed n i l I J p0).2.2.2.1) ((s_valueNamed n i l I J p0).2.2.2.2) p0).2.1)))
def sl_isKnown (n : Nat) (i : Nat → Int32) (l : Nat → Int64) (I : Nat → Nat → Int32) (J : Nat → Nat → Int64) (p0 : Int64) : Nat → Int64 := (if mj_cnd .ge ((s_valueNamed n i l I J p0).1) (0 : Int32) = true then ((s_valueNamed n i l I J p0).2.2.1) else (if mj_cnd .lt ((s_functionNamed n ((s_valueNamed n i l I J p0).2.1) ((s_valueNamed n i l I J p0).2.2.1) ((s_valueNamed n i l I J p0).2.2.2.1) ((s_valueNamed n i l I J p0).2.2.2.2) p0).1) (0 : Int32) = true then ((s_functionNamed n ((s_valueNamed n i l I J p0).2.1) ((s_valueNamed n i l I J p0).2.2.1) ((s_valueNamed n i l I J p0).2.2.2.1) ((s_valueNamed n i l I J p0).2.2.2.2) p0).2.2.1) else ((s_functionNamed n ((s_valueNamed n i l I J p0).2.1) ((s_valueNamed n i l I J p0).2.2.1) ((s_valueNamed n i l I J p0).2.2.2.1) ((s_valueNamed n i l I J p0).2.2.2.2) p0).2.2.1)))
def sI_isKnown (n : Nat) (i : Nat → Int32) (l : Nat → Int64) (I : Nat → Nat → Int32) (J : Nat → Nat → Int64) (p0 : Int64) : Nat → Nat → Int32 := (if mj_cnd .ge ((s_valueNamed n i l I J p0).1) (0 : Int32) = true then ((s_valueNamed n i l I J p0).2.2.2.1) else (if mj_cnd .lt ((s_functionNamed n ((s_valueNamed n i l I J p0).2.1) ((s_valueNamed n i l I J p0).2.2.1) ((s_valueNamed n i l I J p0).2.2.2.1) ((s_valueNamed n i l I J p0).2.2.2.2) p0).1) (0 : Int32) = true then ((s_functionNamed n ((s_valueNamed n i l I J p0).2.1) ((s_valueNamed n i l I J p0).2.2.1) ((s_valueNamed n i l I J p0).2.2.2.1) ((s_valueNamed n i l I J p0).2.2.2.2) p0).2.2.2.1) else ((s_functionNamed n ((s_valueNamed n i l I J p0).2.1) ((s_valueNamed n i l I J p0).2.2.1) ((s_valueNamed n i l I J p0).2.2.2.1) ((s_valueNamed n i l I J p0).2.2.2.2) p0).2.2.2.1)))
def sJ_isKnown (n : Nat) (i : Nat → Int32) (l : Nat → Int64) (I : Nat → Nat → Int32) (J : Nat → Nat → Int64) (p0 : Int64) : Nat → Nat → Int64 := (if mj_cnd .ge ((s_valueNamed n i l I J p0).1) (0 : Int32) = true then ((s_valueNamed n i l I J p0).2.2.2.2) else (if mj_cnd .lt ((s_functionNamed n ((s_valueNamed n i l I J p0).2.1) ((s_valueNamed n i l I J p0).2.2.1) ((s_valueNamed n i l I J p0).2.2.2.1) ((s_valueNamed n i l I J p0).2.2.2.2) p0).1) (0 : Int32) = true then ((s_functionNamed n ((s_valueNamed n i l I J p0).2.1) ((s_valueNamed n i l I J p0).2.2.1) ((s_valueNamed n i l I J p0).2.2.2.1) ((s_valueNamed n i l I J p0).2.2.2.2) p0).2.2.2.2) else ((s_functionNamed n ((s_valueNamed n i l I J p0).2.1) ((s_valueNamed n i l I J p0).2.2.1) ((s_valueNamed n i l I J p0).2.2.2.1) ((s_valueNamed n i l I J p0).2.2.2.2) p0).2.2.2.2)))
def ok_isKnown (n : Nat) (i : Nat → Int32) (l : Nat → Int64) (I : Nat → Nat → Int32) (J : Nat → Nat → Int64) (p0 : Int64) : Prop := (ok_valueNamed n i l I J p0 ∧ (if mj_cnd .ge ((s_valueNamed n i l I J p0).1) (0 : Int32) = true then True else (ok_functionNamed n ((s_valueNamed n i l I J p0).2.1) ((s_valueNamed n i l I J p0).2.2.1) ((s_valueNamed n i l I J p0).2.2.2.1) ((s_valueNamed n i l I J p0).2.2.2.2) p0 ∧ True)))
set_option maxRecDepth 20000 in
theorem q_isKnown {xt : mj_X} {pre post : mj_H} {m : Nat} {i : Nat → Int32} {l : Nat → Int64} {I : Nat → Nat → Int32} {J : Nat → Nat → Int64} {d : Nat} (hm : pre.length = m) (h2 : 2 ≤ m) {p0 : Int64} {n : Nat} (hok : ok_isKnown n i l I J p0) : pgC xt (d + 2) k_isKnown (.ref m :: [.long p0]) (rH pre post m i l I J) (some (.int (a_isKnown n i l I J p0))) (rH pre post m (si_isKnown n i l I J p0) (sl_isKnown n i l I J p0) (sI_isKnown n i l I J p0) (sJ_isKnown n i l I J p0)) := by
  unfold ok_isKnown at hok
  refine ms_call pm_isKnown (Nat.le_of_ble_eq_true rfl) ?_
  dsimp only
  refine ms1 dm_isKnown_0 rfl rfl rfl rfl ?_
  refine ms1 dm_isKnown_1 rfl rfl rfl rfl ?_
  obtain ⟨ho, hok⟩ := hok
  refine ms4 dm_isKnown_2 rfl (r_inv (As := [.long p0]) hm h2 rfl rfl rfl) (q_valueNamed hm h2 ho) rfl rfl rfl ?_
  refine ms_1c dm_isKnown_5 rfl rfl (fun hb1 => ?_) (fun hb1 => ?_)
  · have hb1 : mj_cnd .ge ((s_valueNamed n i l I J p0).1) (0 : Int32) = true := hb1
    rw [if_pos hb1] at hok
    refine ms0 (S' := .int (1 : Int32) :: _) dm_isKnown_16 rfl rfl rfl rfl ?_
    refine ms2 dm_isKnown_17 rfl rfl rfl ?_
    simp only [a_isKnown, si_isKnown, sl_isKnown, sI_isKnown, sJ_isKnown, hb1, Bool.false_eq_true, if_true, if_false]
    exact ms5 dm_isKnown_21 rfl rfl rfl
  · have hb1 : ¬ (mj_cnd .ge ((s_valueNamed n i l I J p0).1) (0 : Int32) = true) := hb1
    rw [if_neg hb1] at hok
    refine ms1 dm_isKnown_8 rfl rfl rfl rfl ?_
    refine ms1 dm_isKnown_9 rfl rfl rfl rfl ?_
    obtain ⟨ho, hok⟩ := hok
    refine ms4 dm_isKnown_10 rfl (r_inv (As := [.long p0]) hm h2 rfl rfl rfl) (q_functionNamed hm h2 ho) rfl rfl rfl ?_
    refine ms_1c dm_isKnown_13 rfl rfl (fun hb2 => ?_) (fun hb2 => ?_)
    · have hb2 : mj_cnd .lt ((s_functionNamed n ((s_valueNamed n i l I J p0).2.1) ((s_valueNamed n i l I J p0).2.2.1) ((s_valueNamed n i l I J p0).2.2.2.1) ((s_valueNamed n i l I J p0).2.2.2.2) p0).1) (0 : Int32) = true := hb2
      refine ms0 (S' := .int (0 : Int32) :: _) dm_isKnown_20 rfl rfl rfl rfl ?_
      simp only [a_isKnown, si_isKnown, sl_isKnown, sI_isKnown, sJ_isKnown, hb1, hb2, Bool.false_eq_true, if_true, if_false]
      exact ms5 dm_isKnown_21 rfl rfl rfl
    · have hb2 : ¬ (mj_cnd .lt ((s_functionNamed n ((s_valueNamed n i l I J p0).2.1) ((s_valueNamed n i l I J p0).2.2.1) ((s_valueNamed n i l I J p0).2.2.2.1) ((s_valueNamed n i l I J p0).2.2.2.2) p0).1) (0 : Int32) = true) := hb2
      refine ms0 (S' := .int (1 : Int32) :: _) dm_isKnown_16 rfl rfl rfl rfl ?_
      refine ms2 dm_isKnown_17 rfl rfl rfl ?_
      simp only [a_isKnown, si_isKnown, sl_isKnown, sI_isKnown, sJ_isKnown, hb1, hb2, Bool.false_eq_true, if_true, if_false]
      exact ms5 dm_isKnown_21 rfl rfl rfl
def k_nodePlaceOfName : Nat := 233
set_option maxRecDepth 20000 in
theorem pm_nodePlaceOfName : mj_mmof pg_ms k_nodePlaceOfName = some ((⟨"ArrayCalculatorModel", "nodePlaceOfName", "()I"⟩, prog_14_method_98_code, 2, (Option.some Jvm.ClassFile.FieldType.int)), 12, false, mj_dec prog_14_method_98_code) := rfl
theorem dm_nodePlaceOfName_0 : mj_dec prog_14_method_98_code 0 = some (.iconst 0, 1) := by decide +kernel
theorem dm_nodePlaceOfName_1 : mj_dec prog_14_method_98_code 1 = some (.istore_n 1, 1) := by decide +kernel
theorem dm_nodePlaceOfName_2 : mj_dec prog_14_method_98_code 2 = some (.aload_n 0, 1) := by decide +kernel
theorem dm_nodePlaceOfName_3 : mj_dec prog_14_method_98_code 3 = some (.getfield 71, 3) := by decide +kernel
theorem dm_nodePlaceOfName_6 : mj_dec prog_14_method_98_code 6 = some (.iload_n 1, 1) := by decide +kernel
theorem dm_nodePlaceOfName_7 : mj_dec prog_14_method_98_code 7 = some (.baload, 1) := by decide +kernel
theorem dm_nodePlaceOfName_8 : mj_dec prog_14_method_98_code 8 = some (.bipush 32, 2) := by decide +kernel
theorem dm_nodePlaceOfName_10 : mj_dec prog_14_method_98_code 10 = some (.if_icmp .ne 9, 3) := by decide +kernel
theorem dm_nodePlaceOfName_13 : mj_dec prog_14_method_98_code 13 = some (.iinc 1 1, 3) := by decide +kernel
theorem dm_nodePlaceOfName_16 : mj_dec prog_14_method_98_code 16 = some (.goto (-14), 3) := by decide +kernel
theorem dm_nodePlaceOfName_19 : mj_dec prog_14_method_98_code 19 = some (.iload_n 1, 1) := by decide +kernel
theorem dm_nodePlaceOfName_20 : mj_dec prog_14_method_98_code 20 = some (.ireturn, 1) := by decide +kernel
def lp_nodePlaceOfName : Nat → Nat → (Nat → Int32) → (Nat → Int64) → (Nat → Nat → Int32) → (Nat → Nat → Int64) → (Nat → Int32) → (Nat → Int64) → Int32 × (Nat → Int32) × (Nat → Int64) × (Nat → Nat → Int32) × (Nat → Nat → Int64)
  | 0, _, i, l, I, J, _, _ => (0, i, l, I, J)
  | n + 1, hd, i, l, I, J, v, w => match hd with
    | 2 => (if mj_cnd .ne (I 32 ((v 1)).toNatClampNeg) (32 : Int32) = true then ((v 1), i, l, I, J) else lp_nodePlaceOfName n 2 i l I J (upd v 1 ((v 1) + Int32.ofInt (1))) w)
    | _ => (0, i, l, I, J)
theorem lb_nodePlaceOfName_2 (n : Nat) (i : Nat → Int32) (l : Nat → Int64) (I : Nat → Nat → Int32) (J : Nat → Nat → Int64) (v : Nat → Int32) (w : Nat → Int64) : lp_nodePlaceOfName (n + 1) 2 i l I J v w = (if mj_cnd .ne (I 32 ((v 1)).toNatClampNeg) (32 : Int32) = true then ((v 1), i, l, I, J) else lp_nodePlaceOfName n 2 i l I J (upd v 1 ((v 1) + Int32.ofInt (1))) w) := rfl
def okl_nodePlaceOfName : Nat → Nat → (Nat → Int32) → (Nat → Int64) → (Nat → Nat → Int32) → (Nat → Nat → Int64) → (Nat → Int32) → (Nat → Int64) → Prop
  | 0, _, _, _, _, _, _, _ => False
  | n + 1, hd, i, l, I, J, v, w => match hd with
    | 2 => (¬ ((v 1) < 0 ∨ 220 ≤ ((v 1)).toNatClampNeg) ∧ (if mj_cnd .ne (I 32 ((v 1)).toNatClampNeg) (32 : Int32) = true then True else okl_nodePlaceOfName n 2 i l I J (upd v 1 ((v 1) + Int32.ofInt (1))) w))
    | _ => False
def s_nodePlaceOfName (n : Nat) (i : Nat → Int32) (l : Nat → Int64) (I : Nat → Nat → Int32) (J : Nat → Nat → Int64)  : Int32 × (Nat → Int32) × (Nat → Int64) × (Nat → Nat → Int32) × (Nat → Nat → Int64) := lp_nodePlaceOfName n 2 i l I J (upd (fun _ => 0) 1 (0 : Int32)) (fun _ => 0)
def ok_nodePlaceOfName (n : Nat) (i : Nat → Int32) (l : Nat → Int64) (I : Nat → Nat → Int32) (J : Nat → Nat → Int64)  : Prop := okl_nodePlaceOfName n 2 i l I J (upd (fun _ => 0) 1 (0 : Int32)) (fun _ => 0)
set_option maxRecDepth 20000 in
theorem ql_nodePlaceOfName {xt : mj_X} {pre post : mj_H} {m : Nat} {d : Nat} (hm : pre.length = m) (h2 : 2 ≤ m) : ∀ n : Nat, (∀ i l I J v w, okl_nodePlaceOfName n 2 i l I J v w → mjR (fun N => mj_call (mj_mmof pg_ms) (mj_TTof pg_TL) xt pg_tl 2 (d + 0) N) (mj_TTof pg_TL 12).1 (mj_TTof pg_TL 12).2 xt pg_tl 2 2 (d + 0) false (Option.some Jvm.ClassFile.FieldType.int) (mj_dec prog_14_method_98_code) 2 [(0, .ref m), (1, .int (v 1))] [] (rH pre post m i l I J) (some (.int (lp_nodePlaceOfName n 2 i l I J v w).1)) (rH pre post m (lp_nodePlaceOfName n 2 i l I J v w).2.1 (lp_nodePlaceOfName n 2 i l I J v w).2.2.1 (lp_nodePlaceOfName n 2 i l I J v w).2.2.2.1 (lp_nodePlaceOfName n 2 i l I J v w).2.2.2.2)) := by
  intro n
  induction n with
  | zero => exact fun i l I J v w h => absurd h id
  | succ n ih =>
    · intro i l I J v w hok
      have hok : (¬ ((v 1) < 0 ∨ 220 ≤ ((v 1)).toNatClampNeg) ∧ (if mj_cnd .ne (I 32 ((v 1)).toNatClampNeg) (32 : Int32) = true then True else okl_nodePlaceOfName n 2 i l I J (upd v 1 ((v 1) + Int32.ofInt (1))) w)) := hok
      refine ms1 dm_nodePlaceOfName_2 rfl rfl rfl rfl ?_
      refine ms3 dm_nodePlaceOfName_3 (r_get hm h2 rfl (rg_32 _ _ _)) rfl rfl rfl ?_
      refine ms1 dm_nodePlaceOfName_6 rfl rfl rfl rfl ?_
      obtain ⟨ho, hok⟩ := hok
      refine ms3 dm_nodePlaceOfName_7 (r_bald hm h2 (rc_32 _ _ _ _ _) rfl ho) rfl rfl rfl ?_
      refine ms0 (S' := .int (32 : Int32) :: _) dm_nodePlaceOfName_8 rfl rfl rfl rfl ?_
      refine ms_2c dm_nodePlaceOfName_10 rfl rfl (fun hb1 => ?_) (fun hb1 => ?_)
      · have hb1 : mj_cnd .ne (I 32 ((v 1)).toNatClampNeg) (32 : Int32) = true := hb1
        rw [if_pos hb1] at hok
        refine ms1 dm_nodePlaceOfName_19 rfl rfl rfl rfl ?_
        have he : lp_nodePlaceOfName (n + 1) 2 i l I J v w = ((v 1), i, l, I, J) := by
          rw [lb_nodePlaceOfName_2]
          simp only [hb1, Bool.false_eq_true, if_true, if_false]
        rw [he]
        exact ms5 dm_nodePlaceOfName_20 rfl rfl rfl
      · have hb1 : ¬ (mj_cnd .ne (I 32 ((v 1)).toNatClampNeg) (32 : Int32) = true) := hb1
        rw [if_neg hb1] at hok
        refine ms1 dm_nodePlaceOfName_13 rfl rfl rfl rfl ?_
        refine ms2 dm_nodePlaceOfName_16 rfl rfl rfl ?_
        have he : lp_nodePlaceOfName (n + 1) 2 i l I J v w = lp_nodePlaceOfName n 2 i l I J (upd v 1 ((v 1) + Int32.ofInt (1))) w := by
          rw [lb_nodePlaceOfName_2]
          simp only [hb1, Bool.false_eq_true, if_true, if_false]
        rw [he]
        exact mjR_sub rfl rfl rfl (ih _ _ _ _ _ _ hok)
set_option maxRecDepth 20000 in
theorem q_nodePlaceOfName {xt : mj_X} {pre post : mj_H} {m : Nat} {i : Nat → Int32} {l : Nat → Int64} {I : Nat → Nat → Int32} {J : Nat → Nat → Int64} {d : Nat} (hm : pre.length = m) (h2 : 2 ≤ m)  {n : Nat} (hok : ok_nodePlaceOfName n i l I J ) : pgC xt (d + 1) k_nodePlaceOfName (.ref m :: []) (rH pre post m i l I J) (some (.int (s_nodePlaceOfName n i l I J ).1)) (rH pre post m (s_nodePlaceOfName n i l I J ).2.1 (s_nodePlaceOfName n i l I J ).2.2.1 (s_nodePlaceOfName n i l I J ).2.2.2.1 (s_nodePlaceOfName n i l I J ).2.2.2.2) := by
  unfold ok_nodePlaceOfName at hok
  refine ms_call pm_nodePlaceOfName (Nat.le_of_ble_eq_true rfl) ?_
  dsimp only
  refine ms0 (S' := .int (0 : Int32) :: _) dm_nodePlaceOfName_0 rfl rfl rfl rfl ?_
  refine ms1 dm_nodePlaceOfName_1 rfl rfl rfl rfl ?_
  have he : s_nodePlaceOfName n i l I J  = lp_nodePlaceOfName n 2 i l I J (upd (fun _ => 0) 1 (0 : Int32)) (fun _ => 0) := by
    unfold s_nodePlaceOfName
    rfl
  rw [he]
  exact mjR_sub rfl rfl rfl ((ql_nodePlaceOfName hm h2 n) _ _ _ _ _ _ hok)
def k_tells : Nat := 234
set_option maxRecDepth 20000 in
theorem pm_tells : mj_mmof pg_ms k_tells = some ((⟨"ArrayCalculatorModel", "tells", "(JI)V"⟩, prog_14_method_67_code, 6, (Option.none : Option Jvm.ClassFile.FieldType)), 12, false, mj_dec prog_14_method_67_code) := rfl
theorem dm_tells_0 : mj_dec prog_14_method_67_code 0 = some (.aload_n 0, 1) := by decide +kernel
theorem dm_tells_1 : mj_dec prog_14_method_67_code 1 = some (.lload_n 1, 1) := by decide +kernel
theorem dm_tells_2 : mj_dec prog_14_method_67_code 2 = some (.invokevirtual 367, 3) := by decide +kernel
theorem dm_tells_5 : mj_dec prog_14_method_67_code 5 = some (.istore 4, 2) := by decide +kernel
theorem dm_tells_7 : mj_dec prog_14_method_67_code 7 = some (.iload 4, 2) := by decide +kernel
theorem dm_tells_9 : mj_dec prog_14_method_67_code 9 = some (.ifCond .lt 64, 3) := by decide +kernel
theorem dm_tells_12 : mj_dec prog_14_method_67_code 12 = some (.aload_n 0, 1) := by decide +kernel
theorem dm_tells_13 : mj_dec prog_14_method_67_code 13 = some (.dup, 1) := by decide +kernel
theorem dm_tells_14 : mj_dec prog_14_method_67_code 14 = some (.getfield 357, 3) := by decide +kernel
theorem dm_tells_17 : mj_dec prog_14_method_67_code 17 = some (.iconst 1, 1) := by decide +kernel
theorem dm_tells_18 : mj_dec prog_14_method_67_code 18 = some (.isub, 1) := by decide +kernel
theorem dm_tells_19 : mj_dec prog_14_method_67_code 19 = some (.putfield 357, 3) := by decide +kernel
theorem dm_tells_22 : mj_dec prog_14_method_67_code 22 = some (.iload 4, 2) := by decide +kernel
theorem dm_tells_24 : mj_dec prog_14_method_67_code 24 = some (.istore 5, 2) := by decide +kernel
theorem dm_tells_26 : mj_dec prog_14_method_67_code 26 = some (.iload 5, 2) := by decide +kernel
theorem dm_tells_28 : mj_dec prog_14_method_67_code 28 = some (.aload_n 0, 1) := by decide +kernel
theorem dm_tells_29 : mj_dec prog_14_method_67_code 29 = some (.getfield 357, 3) := by decide +kernel
theorem dm_tells_32 : mj_dec prog_14_method_67_code 32 = some (.if_icmp .ge 41, 3) := by decide +kernel
theorem dm_tells_35 : mj_dec prog_14_method_67_code 35 = some (.aload_n 0, 1) := by decide +kernel
theorem dm_tells_36 : mj_dec prog_14_method_67_code 36 = some (.getfield 43, 3) := by decide +kernel
theorem dm_tells_39 : mj_dec prog_14_method_67_code 39 = some (.iload 5, 2) := by decide +kernel
theorem dm_tells_41 : mj_dec prog_14_method_67_code 41 = some (.aload_n 0, 1) := by decide +kernel
theorem dm_tells_42 : mj_dec prog_14_method_67_code 42 = some (.getfield 43, 3) := by decide +kernel
theorem dm_tells_45 : mj_dec prog_14_method_67_code 45 = some (.iload 5, 2) := by decide +kernel
theorem dm_tells_47 : mj_dec prog_14_method_67_code 47 = some (.iconst 1, 1) := by decide +kernel
theorem dm_tells_48 : mj_dec prog_14_method_67_code 48 = some (.iadd, 1) := by decide +kernel
theorem dm_tells_49 : mj_dec prog_14_method_67_code 49 = some (.laload, 1) := by decide +kernel
theorem dm_tells_50 : mj_dec prog_14_method_67_code 50 = some (.lastore, 1) := by decide +kernel
theorem dm_tells_51 : mj_dec prog_14_method_67_code 51 = some (.aload_n 0, 1) := by decide +kernel
theorem dm_tells_52 : mj_dec prog_14_method_67_code 52 = some (.getfield 49, 3) := by decide +kernel
theorem dm_tells_55 : mj_dec prog_14_method_67_code 55 = some (.iload 5, 2) := by decide +kernel
theorem dm_tells_57 : mj_dec prog_14_method_67_code 57 = some (.aload_n 0, 1) := by decide +kernel
theorem dm_tells_58 : mj_dec prog_14_method_67_code 58 = some (.getfield 49, 3) := by decide +kernel
theorem dm_tells_61 : mj_dec prog_14_method_67_code 61 = some (.iload 5, 2) := by decide +kernel
theorem dm_tells_63 : mj_dec prog_14_method_67_code 63 = some (.iconst 1, 1) := by decide +kernel
theorem dm_tells_64 : mj_dec prog_14_method_67_code 64 = some (.iadd, 1) := by decide +kernel
theorem dm_tells_65 : mj_dec prog_14_method_67_code 65 = some (.iaload, 1) := by decide +kernel
theorem dm_tells_66 : mj_dec prog_14_method_67_code 66 = some (.iastore, 1) := by decide +kernel
theorem dm_tells_67 : mj_dec prog_14_method_67_code 67 = some (.iinc 5 1, 3) := by decide +kernel
theorem dm_tells_70 : mj_dec prog_14_method_67_code 70 = some (.goto (-44), 3) := by decide +kernel
theorem dm_tells_73 : mj_dec prog_14_method_67_code 73 = some (.aload_n 0, 1) := by decide +kernel
theorem dm_tells_74 : mj_dec prog_14_method_67_code 74 = some (.lload_n 1, 1) := by decide +kernel
theorem dm_tells_75 : mj_dec prog_14_method_67_code 75 = some (.invokevirtual 363, 3) := by decide +kernel
theorem dm_tells_78 : mj_dec prog_14_method_67_code 78 = some (.istore 5, 2) := by decide +kernel
theorem dm_tells_80 : mj_dec prog_14_method_67_code 80 = some (.iload 5, 2) := by decide +kernel
theorem dm_tells_82 : mj_dec prog_14_method_67_code 82 = some (.ifCond .ge 19, 3) := by decide +kernel
theorem dm_tells_85 : mj_dec prog_14_method_67_code 85 = some (.aload_n 0, 1) := by decide +kernel
theorem dm_tells_86 : mj_dec prog_14_method_67_code 86 = some (.getfield 360, 3) := by decide +kernel
theorem dm_tells_89 : mj_dec prog_14_method_67_code 89 = some (.istore 5, 2) := by decide +kernel
theorem dm_tells_91 : mj_dec prog_14_method_67_code 91 = some (.aload_n 0, 1) := by decide +kernel
theorem dm_tells_92 : mj_dec prog_14_method_67_code 92 = some (.dup, 1) := by decide +kernel
theorem dm_tells_93 : mj_dec prog_14_method_67_code 93 = some (.getfield 360, 3) := by decide +kernel
theorem dm_tells_96 : mj_dec prog_14_method_67_code 96 = some (.iconst 1, 1) := by decide +kernel
theorem dm_tells_97 : mj_dec prog_14_method_67_code 97 = some (.iadd, 1) := by decide +kernel
theorem dm_tells_98 : mj_dec prog_14_method_67_code 98 = some (.putfield 360, 3) := by decide +kernel
theorem dm_tells_101 : mj_dec prog_14_method_67_code 101 = some (.aload_n 0, 1) := by decide +kernel
theorem dm_tells_102 : mj_dec prog_14_method_67_code 102 = some (.getfield 46, 3) := by decide +kernel
theorem dm_tells_105 : mj_dec prog_14_method_67_code 105 = some (.iload 5, 2) := by decide +kernel
theorem dm_tells_107 : mj_dec prog_14_method_67_code 107 = some (.lload_n 1, 1) := by decide +kernel
theorem dm_tells_108 : mj_dec prog_14_method_67_code 108 = some (.lastore, 1) := by decide +kernel
theorem dm_tells_109 : mj_dec prog_14_method_67_code 109 = some (.aload_n 0, 1) := by decide +kernel
theorem dm_tells_110 : mj_dec prog_14_method_67_code 110 = some (.getfield 52, 3) := by decide +kernel
theorem dm_tells_113 : mj_dec prog_14_method_67_code 113 = some (.iload 5, 2) := by decide +kernel
theorem dm_tells_115 : mj_dec prog_14_method_67_code 115 = some (.iload_n 3, 1) := by decide +kernel
theorem dm_tells_116 : mj_dec prog_14_method_67_code 116 = some (.iastore, 1) := by decide +kernel
theorem dm_tells_117 : mj_dec prog_14_method_67_code 117 = some (.return_, 1) := by decide +kernel
def lp_tells : Nat → Nat → (Nat → Int32) → (Nat → Int64) → (Nat → Nat → Int32) → (Nat → Nat → Int64) → (Nat → Int32) → (Nat → Int64) → Unit × (Nat → Int32) × (Nat → Int64) × (Nat → Nat → Int32) × (Nat → Nat → Int64)
  | 0, _, i, l, I, J, _, _ => ((), i, l, I, J)
  | n + 1, hd, i, l, I, J, v, w => match hd with
    | 22 => lp_tells n 26 i l I J (upd v 5 (v 4)) w
    | 26 => (if mj_cnd .ge (v 5) (i 23) = true then lp_tells n 80 ((s_functionNamed n i l I J (w 1)).2.1) ((s_functionNamed n i l I J (w 1)).2.2.1) ((s_functionNamed n i l I J (w 1)).2.2.2.1) ((s_functionNamed n i l I J (w 1)).2.2.2.2) (upd v 5 ((s_functionNamed n i l I J (w 1)).1)) w else lp_tells n 51 i l I (va_up J 19 (vp_updL (J 19) ((v 5)).toNatClampNeg (J 19 (((v 5) + (1 : Int32))).toNatClampNeg))) v w)
    | 51 => lp_tells n 67 i l (va_up I 21 (upd (I 21) ((v 5)).toNatClampNeg (I 21 (((v 5) + (1 : Int32))).toNatClampNeg))) J v w
    | 67 => lp_tells n 26 i l I J (upd v 5 ((v 5) + Int32.ofInt (1))) w
    | 80 => (if mj_cnd .ge (v 5) (0 : Int32) = true then ((), i, l, (va_up I 22 (upd (I 22) ((v 5)).toNatClampNeg (v 3))), (va_up J 20 (vp_updL (J 20) ((v 5)).toNatClampNeg (w 1)))) else lp_tells n 101 (upd i 24 ((i 24) + (1 : Int32))) l I J (upd v 5 (i 24)) w)
    | 101 => ((), i, l, (va_up I 22 (upd (I 22) ((v 5)).toNatClampNeg (v 3))), (va_up J 20 (vp_updL (J 20) ((v 5)).toNatClampNeg (w 1))))
    | _ => ((), i, l, I, J)
theorem lb_tells_22 (n : Nat) (i : Nat → Int32) (l : Nat → Int64) (I : Nat → Nat → Int32) (J : Nat → Nat → Int64) (v : Nat → Int32) (w : Nat → Int64) : lp_tells (n + 1) 22 i l I J v w = lp_tells n 26 i l I J (upd v 5 (v 4)) w := rfl
theorem lb_tells_26 (n : Nat) (i : Nat → Int32) (l : Nat → Int64) (I : Nat → Nat → Int32) (J : Nat → Nat → Int64) (v : Nat → Int32) (w : Nat → Int64) : lp_tells (n + 1) 26 i l I J v w = (if mj_cnd .ge (v 5) (i 23) = true then lp_tells n 80 ((s_functionNamed n i l I J (w 1)).2.1) ((s_functionNamed n i l I J (w 1)).2.2.1) ((s_functionNamed n i l I J (w 1)).2.2.2.1) ((s_functionNamed n i l I J (w 1)).2.2.2.2) (upd v 5 ((s_functionNamed n i l I J (w 1)).1)) w else lp_tells n 51 i l I (va_up J 19 (vp_updL (J 19) ((v 5)).toNatClampNeg (J 19 (((v 5) + (1 : Int32))).toNatClampNeg))) v w) := rfl
theorem lb_tells_51 (n : Nat) (i : Nat → Int32) (l : Nat → Int64) (I : Nat → Nat → Int32) (J : Nat → Nat → Int64) (v : Nat → Int32) (w : Nat → Int64) : lp_tells (n + 1) 51 i l I J v w = lp_tells n 67 i l (va_up I 21 (upd (I 21) ((v 5)).toNatClampNeg (I 21 (((v 5) + (1 : Int32))).toNatClampNeg))) J v w := rfl
theorem lb_tells_67 (n : Nat) (i : Nat → Int32) (l : Nat → Int64) (I : Nat → Nat → Int32) (J : Nat → Nat → Int64) (v : Nat → Int32) (w : Nat → Int64) : lp_tells (n + 1) 67 i l I J v w = lp_tells n 26 i l I J (upd v 5 ((v 5) + Int32.ofInt (1))) w := rfl
theorem lb_tells_80 (n : Nat) (i : Nat → Int32) (l : Nat → Int64) (I : Nat → Nat → Int32) (J : Nat → Nat → Int64) (v : Nat → Int32) (w : Nat → Int64) : lp_tells (n + 1) 80 i l I J v w = (if mj_cnd .ge (v 5) (0 : Int32) = true then ((), i, l, (va_up I 22 (upd (I 22) ((v 5)).toNatClampNeg (v 3))), (va_up J 20 (vp_updL (J 20) ((v 5)).toNatClampNeg (w 1)))) else lp_tells n 101 (upd i 24 ((i 24) + (1 : Int32))) l I J (upd v 5 (i 24)) w) := rfl
theorem lb_tells_101 (n : Nat) (i : Nat → Int32) (l : Nat → Int64) (I : Nat → Nat → Int32) (J : Nat → Nat → Int64) (v : Nat → Int32) (w : Nat → Int64) : lp_tells (n + 1) 101 i l I J v w = ((), i, l, (va_up I 22 (upd (I 22) ((v 5)).toNatClampNeg (v 3))), (va_up J 20 (vp_updL (J 20) ((v 5)).toNatClampNeg (w 1)))) := rfl
def okl_tells : Nat → Nat → (Nat → Int32) → (Nat → Int64) → (Nat → Nat → Int32) → (Nat → Nat → Int64) → (Nat → Int32) → (Nat → Int64) → Prop
  | 0, _, _, _, _, _, _, _ => False
  | n + 1, hd, i, l, I, J, v, w => match hd with
    | 22 => okl_tells n 26 i l I J (upd v 5 (v 4)) w
    | 26 => (if mj_cnd .ge (v 5) (i 23) = true then (ok_functionNamed n i l I J (w 1) ∧ okl_tells n 80 ((s_functionNamed n i l I J (w 1)).2.1) ((s_functionNamed n i l I J (w 1)).2.2.1) ((s_functionNamed n i l I J (w 1)).2.2.2.1) ((s_functionNamed n i l I J (w 1)).2.2.2.2) (upd v 5 ((s_functionNamed n i l I J (w 1)).1)) w) else (¬ (((v 5) + (1 : Int32)) < 0 ∨ 40 ≤ (((v 5) + (1 : Int32))).toNatClampNeg) ∧ (¬ ((v 5) < 0 ∨ 40 ≤ ((v 5)).toNatClampNeg) ∧ okl_tells n 51 i l I (va_up J 19 (vp_updL (J 19) ((v 5)).toNatClampNeg (J 19 (((v 5) + (1 : Int32))).toNatClampNeg))) v w)))
    | 51 => (¬ (((v 5) + (1 : Int32)) < 0 ∨ 40 ≤ (((v 5) + (1 : Int32))).toNatClampNeg) ∧ (¬ ((v 5) < 0 ∨ 40 ≤ ((v 5)).toNatClampNeg) ∧ okl_tells n 67 i l (va_up I 21 (upd (I 21) ((v 5)).toNatClampNeg (I 21 (((v 5) + (1 : Int32))).toNatClampNeg))) J v w))
    | 67 => okl_tells n 26 i l I J (upd v 5 ((v 5) + Int32.ofInt (1))) w
    | 80 => (if mj_cnd .ge (v 5) (0 : Int32) = true then (¬ ((v 5) < 0 ∨ 40 ≤ ((v 5)).toNatClampNeg) ∧ (¬ ((v 5) < 0 ∨ 40 ≤ ((v 5)).toNatClampNeg) ∧ True)) else okl_tells n 101 (upd i 24 ((i 24) + (1 : Int32))) l I J (upd v 5 (i 24)) w)
    | 101 => (¬ ((v 5) < 0 ∨ 40 ≤ ((v 5)).toNatClampNeg) ∧ (¬ ((v 5) < 0 ∨ 40 ≤ ((v 5)).toNatClampNeg) ∧ True))
    | _ => False
def s_tells (n : Nat) (i : Nat → Int32) (l : Nat → Int64) (I : Nat → Nat → Int32) (J : Nat → Nat → Int64) (p0 : Int64) (p1 : Int32) : Unit × (Nat → Int32) × (Nat → Int64) × (Nat → Nat → Int32) × (Nat → Nat → Int64) := (if mj_cnd .lt ((s_valueNamed n i l I J p0).1) (0 : Int32) = true then lp_tells n 80 ((s_functionNamed n ((s_valueNamed n i l I J p0).2.1) ((s_valueNamed n i l I J p0).2.2.1) ((s_valueNamed n i l I J p0).2.2.2.1) ((s_valueNamed n i l I J p0).2.2.2.2) p0).2.1) ((s_functionNamed n ((s_valueNamed n i l I J p0).2.1) ((s_valueNamed n i l I J p0).2.2.1) ((s_valueNamed n i l I J p0).2.2.2.1) ((s_valueNamed n i l I J p0).2.2.2.2) p0).2.2.1) ((s_functionNamed n ((s_valueNamed n i l I J p0).2.1) ((s_valueNamed n i l I J p0).2.2.1) ((s_valueNamed n i l I J p0).2.2.2.1) ((s_valueNamed n i l I J p0).2.2.2.2) p0).2.2.2.1) ((s_functionNamed n ((s_valueNamed n i l I J p0).2.1) ((s_valueNamed n i l I J p0).2.2.1) ((s_valueNamed n i l I J p0).2.2.2.1) ((s_valueNamed n i l I J p0).2.2.2.2) p0).2.2.2.2) (upd (upd (fun _ => 0) 3 p1) 5 ((s_functionNamed n ((s_valueNamed n i l I J p0).2.1) ((s_valueNamed n i l I J p0).2.2.1) ((s_valueNamed n i l I J p0).2.2.2.1) ((s_valueNamed n i l I J p0).2.2.2.2) p0).1)) (vp_updL (fun _ => 0) 1 p0) else lp_tells n 22 (upd ((s_valueNamed n i l I J p0).2.1) 23 ((((s_valueNamed n i l I J p0).2.1) 23) - (1 : Int32))) ((s_valueNamed n i l I J p0).2.2.1) ((s_valueNamed n i l I J p0).2.2.2.1) ((s_valueNamed n i l I J p0).2.2.2.2) (upd (upd (fun _ => 0) 3 p1) 4 ((s_valueNamed n i l I J p0).1)) (vp_updL (fun _ => 0) 1 p0))
def ok_tells (n : Nat) (i : Nat → Int32) (l : Nat → Int64) (I : Nat → Nat → Int32) (J : Nat → Nat → Int64) (p0 : Int64) (p1 : Int32) : Prop := (ok_valueNamed n i l I J p0 ∧ (if mj_cnd .lt ((s_valueNamed n i l I J p0).1) (0 : Int32) = true then (ok_functionNamed n ((s_valueNamed n i l I J p0).2.1) ((s_valueNamed n i l I J p0).2.2.1) ((s_valueNamed n i l I J p0).2.2.2.1) ((s_valueNamed n i l I J p0).2.2.2.2) p0 ∧ okl_tells n 80 ((s_functionNamed n ((s_valueNamed n i l I J p0).2.1) ((s_valueNamed n i l I J p0).2.2.1) ((s_valueNamed n i l I J p0).2.2.2.1) ((s_valueNamed n i l I J p0).2.2.2.2) p0).2.1) ((s_functionNamed n ((s_valueNamed n i l I J p0).2.1) ((s_valueNamed n i l I J p0).2.2.1) ((s_valueNamed n i l I J p0).2.2.2.1) ((s_valueNamed n i l I J p0).2.2.2.2) p0).2.2.1) ((s_functionNamed n ((s_valueNamed n i l I J p0).2.1) ((s_valueNamed n i l I J p0).2.2.1) ((s_valueNamed n i l I J p0).2.2.2.1) ((s_valueNamed n i l I J p0).2.2.2.2) p0).2.2.2.1) ((s_functionNamed n ((s_valueNamed n i l I J p0).2.1) ((s_valueNamed n i l I J p0).2.2.1) ((s_valueNamed n i l I J p0).2.2.2.1) ((s_valueNamed n i l I J p0).2.2.2.2) p0).2.2.2.2) (upd (upd (fun _ => 0) 3 p1) 5 ((s_functionNamed n ((s_valueNamed n i l I J p0).2.1) ((s_valueNamed n i l I J p0).2.2.1) ((s_valueNamed n i l I J p0).2.2.2.1) ((s_valueNamed n i l I J p0).2.2.2.2) p0).1)) (vp_updL (fun _ => 0) 1 p0)) else okl_tells n 22 (upd ((s_valueNamed n i l I J p0).2.1) 23 ((((s_valueNamed n i l I J p0).2.1) 23) - (1 : Int32))) ((s_valueNamed n i l I J p0).2.2.1) ((s_valueNamed n i l I J p0).2.2.2.1) ((s_valueNamed n i l I J p0).2.2.2.2) (upd (upd (fun _ => 0) 3 p1) 4 ((s_valueNamed n i l I J p0).1)) (vp_updL (fun _ => 0) 1 p0)))
set_option maxRecDepth 20000 in
theorem ql_tells {xt : mj_X} {pre post : mj_H} {m : Nat} {d : Nat} (hm : pre.length = m) (h2 : 2 ≤ m) : ∀ n : Nat, (∀ i l I J v w, okl_tells n 22 i l I J v w → mjR (fun N => mj_call (mj_mmof pg_ms) (mj_TTof pg_TL) xt pg_tl 2 (d + 1) N) (mj_TTof pg_TL 12).1 (mj_TTof pg_TL 12).2 xt pg_tl 2 6 (d + 1) false (Option.none : Option Jvm.ClassFile.FieldType) (mj_dec prog_14_method_67_code) 22 [(0, .ref m), (1, .long (w 1)), (3, .int (v 3)), (4, .int (v 4))] [] (rH pre post m i l I J) none (rH pre post m (lp_tells n 22 i l I J v w).2.1 (lp_tells n 22 i l I J v w).2.2.1 (lp_tells n 22 i l I J v w).2.2.2.1 (lp_tells n 22 i l I J v w).2.2.2.2)) ∧ (∀ i l I J v w, okl_tells n 26 i l I J v w → mjR (fun N => mj_call (mj_mmof pg_ms) (mj_TTof pg_TL) xt pg_tl 2 (d + 1) N) (mj_TTof pg_TL 12).1 (mj_TTof pg_TL 12).2 xt pg_tl 2 6 (d + 1) false (Option.none : Option Jvm.ClassFile.FieldType) (mj_dec prog_14_method_67_code) 26 [(0, .ref m), (1, .long (w 1)), (3, .int (v 3)), (5, .int (v 5))] [] (rH pre post m i l I J) none (rH pre post m (lp_tells n 26 i l I J v w).2.1 (lp_tells n 26 i l I J v w).2.2.1 (lp_tells n 26 i l I J v w).2.2.2.1 (lp_tells n 26 i l I J v w).2.2.2.2)) ∧ (∀ i l I J v w, okl_tells n 51 i l I J v w → mjR (fun N => mj_call (mj_mmof pg_ms) (mj_TTof pg_TL) xt pg_tl 2 (d + 1) N) (mj_TTof pg_TL 12).1 (mj_TTof pg_TL 12).2 xt pg_tl 2 6 (d + 1) false (Option.none : Option Jvm.ClassFile.FieldType) (mj_dec prog_14_method_67_code) 51 [(0, .ref m), (1, .long (w 1)), (3, .int (v 3)), (5, .int (v 5))] [] (rH pre post m i l I J) none (rH pre post m (lp_tells n 51 i l I J v w).2.1 (lp_tells n 51 i l I J v w).2.2.1 (lp_tells n 51 i l I J v w).2.2.2.1 (lp_tells n 51 i l I J v w).2.2.2.2)) ∧ (∀ i l I J v w, okl_tells n 67 i l I J v w → mjR (fun N => mj_call (mj_mmof pg_ms) (mj_TTof pg_TL) xt pg_tl 2 (d + 1) N) (mj_TTof pg_TL 12).1 (mj_TTof pg_TL 12).2 xt pg_tl 2 6 (d + 1) false (Option.none : Option Jvm.ClassFile.FieldType) (mj_dec prog_14_method_67_code) 67 [(0, .ref m), (1, .long (w 1)), (3, .int (v 3)), (5, .int (v 5))] [] (rH pre post m i l I J) none (rH pre post m (lp_tells n 67 i l I J v w).2.1 (lp_tells n 67 i l I J v w).2.2.1 (lp_tells n 67 i l I J v w).2.2.2.1 (lp_tells n 67 i l I J v w).2.2.2.2)) ∧ (∀ i l I J v w, okl_tells n 80 i l I J v w → mjR (fun N => mj_call (mj_mmof pg_ms) (mj_TTof pg_TL) xt pg_tl 2 (d + 1) N) (mj_TTof pg_TL 12).1 (mj_TTof pg_TL 12).2 xt pg_tl 2 6 (d + 1) false (Option.none : Option Jvm.ClassFile.FieldType) (mj_dec prog_14_method_67_code) 80 [(0, .ref m), (1, .long (w 1)), (3, .int (v 3)), (5, .int (v 5))] [] (rH pre post m i l I J) none (rH pre post m (lp_tells n 80 i l I J v w).2.1 (lp_tells n 80 i l I J v w).2.2.1 (lp_tells n 80 i l I J v w).2.2.2.1 (lp_tells n 80 i l I J v w).2.2.2.2)) ∧ (∀ i l I J v w, okl_tells n 101 i l I J v w → mjR (fun N => mj_call (mj_mmof pg_ms) (mj_TTof pg_TL) xt pg_tl 2 (d + 1) N) (mj_TTof pg_TL 12).1 (mj_TTof pg_TL 12).2 xt pg_tl 2 6 (d + 1) false (Option.none : Option Jvm.ClassFile.FieldType) (mj_dec prog_14_method_67_code) 101 [(0, .ref m), (1, .long (w 1)), (3, .int (v 3)), (5, .int (v 5))] [] (rH pre post m i l I J) none (rH pre post m (lp_tells n 101 i l I J v w).2.1 (lp_tells n 101 i l I J v w).2.2.1 (lp_tells n 101 i l I J v w).2.2.2.1 (lp_tells n 101 i l I J v w).2.2.2.2)) := by
  intro n
  induction n with
  | zero => exact ⟨fun i l I J v w h => absurd h id, fun i l I J v w h => absurd h id, fun i l I J v w h => absurd h id, fun i l I J v w h => absurd h id, fun i l I J v w h => absurd h id, fun i l I J v w h => absurd h id⟩
  | succ n ih =>
    refine ⟨?_, ?_, ?_, ?_, ?_, ?_⟩
    · intro i l I J v w hok
      have hok : okl_tells n 26 i l I J (upd v 5 (v 4)) w := hok
      refine ms1 dm_tells_22 rfl rfl rfl rfl ?_
      refine ms1 dm_tells_24 rfl rfl rfl rfl ?_
      have he : lp_tells (n + 1) 22 i l I J v w = lp_tells n 26 i l I J (upd v 5 (v 4)) w := by
        rw [lb_tells_22]
      rw [he]
      exact mjR_sub rfl rfl rfl (ih.2.1 _ _ _ _ _ _ hok)
    · intro i l I J v w hok
      have hok : (if mj_cnd .ge (v 5) (i 23) = true then (ok_functionNamed n i l I J (w 1) ∧ okl_tells n 80 ((s_functionNamed n i l I J (w 1)).2.1) ((s_functionNamed n i l I J (w 1)).2.2.1) ((s_functionNamed n i l I J (w 1)).2.2.2.1) ((s_functionNamed n i l I J (w 1)).2.2.2.2) (upd v 5 ((s_functionNamed n i l I J (w 1)).1)) w) else (¬ (((v 5) + (1 : Int32)) < 0 ∨ 40 ≤ (((v 5) + (1 : Int32))).toNatClampNeg) ∧ (¬ ((v 5) < 0 ∨ 40 ≤ ((v 5)).toNatClampNeg) ∧ okl_tells n 51 i l I (va_up J 19 (vp_updL (J 19) ((v 5)).toNatClampNeg (J 19 (((v 5) + (1 : Int32))).toNatClampNeg))) v w))) := hok
      refine ms1 dm_tells_26 rfl rfl rfl rfl ?_
      refine ms1 dm_tells_28 rfl rfl rfl rfl ?_
      refine ms3 dm_tells_29 (r_get (v := .int (i 23)) hm h2 rfl (rg_23 _ _ _)) rfl rfl rfl ?_
      refine ms_2c dm_tells_32 rfl rfl (fun hb1 => ?_) (fun hb1 => ?_)
      · have hb1 : mj_cnd .ge (v 5) (i 23) = true := hb1
        rw [if_pos hb1] at hok
        refine ms1 dm_tells_73 rfl rfl rfl rfl ?_
        refine ms1 dm_tells_74 rfl rfl rfl rfl ?_
        obtain ⟨ho, hok⟩ := hok
        refine ms4 dm_tells_75 rfl (r_inv (As := [.long (w 1)]) hm h2 rfl rfl rfl) (q_functionNamed hm h2 ho) rfl rfl rfl ?_
        refine ms1 dm_tells_78 rfl rfl rfl rfl ?_
        have he : lp_tells (n + 1) 26 i l I J v w = lp_tells n 80 ((s_functionNamed n i l I J (w 1)).2.1) ((s_functionNamed n i l I J (w 1)).2.2.1) ((s_functionNamed n i l I J (w 1)).2.2.2.1) ((s_functionNamed n i l I J (w 1)).2.2.2.2) (upd v 5 ((s_functionNamed n i l I J (w 1)).1)) w := by
          rw [lb_tells_26]
          simp only [hb1, Bool.false_eq_true, if_true, if_false]
        rw [he]
        exact mjR_sub rfl rfl rfl (ih.2.2.2.2.1 _ _ _ _ _ _ hok)
      · have hb1 : ¬ (mj_cnd .ge (v 5) (i 23) = true) := hb1
        rw [if_neg hb1] at hok
        refine ms1 dm_tells_35 rfl rfl rfl rfl ?_
        refine ms3 dm_tells_36 (r_get hm h2 rfl (rg_19 _ _ _)) rfl rfl rfl ?_
        refine ms1 dm_tells_39 rfl rfl rfl rfl ?_
        refine ms1 dm_tells_41 rfl rfl rfl rfl ?_
        refine ms3 dm_tells_42 (r_get hm h2 rfl (rg_19 _ _ _)) rfl rfl rfl ?_
        refine ms1 dm_tells_45 rfl rfl rfl rfl ?_
        refine ms0 (S' := .int (1 : Int32) :: _) dm_tells_47 rfl rfl rfl rfl ?_
        refine ms0 dm_tells_48 rfl rfl rfl rfl ?_
        obtain ⟨ho, hok⟩ := hok
        refine ms3 dm_tells_49 (r_lald hm h2 (rc_19 _ _ _ _ _) rfl ho) rfl rfl rfl ?_
        obtain ⟨ho, hok⟩ := hok
        refine ms3 dm_tells_50 (r_lastk (k := 19) hm h2 (rc_19 _ _ _ _ _) rfl ho (rs_19 _ _ _ _ _ _)) rfl rfl rfl ?_
        have he : lp_tells (n + 1) 26 i l I J v w = lp_tells n 51 i l I (va_up J 19 (vp_updL (J 19) ((v 5)).toNatClampNeg (J 19 (((v 5) + (1 : Int32))).toNatClampNeg))) v w := by
          rw [lb_tells_26]
          simp only [hb1, Bool.false_eq_true, if_true, if_false]
        rw [he]
        exact mjR_sub rfl rfl rfl (ih.2.2.1 _ _ _ _ _ _ hok)
    · intro i l I J v w hok
      have hok : (¬ (((v 5) + (1 : Int32)) < 0 ∨ 40 ≤ (((v 5) + (1 : Int32))).toNatClampNeg) ∧ (¬ ((v 5) < 0 ∨ 40 ≤ ((v 5)).toNatClampNeg) ∧ okl_tells n 67 i l (va_up I 21 (upd (I 21) ((v 5)).toNatClampNeg (I 21 (((v 5) + (1 : Int32))).toNatClampNeg))) J v w)) := hok
      refine ms1 dm_tells_51 rfl rfl rfl rfl ?_
      refine ms3 dm_tells_52 (r_get hm h2 rfl (rg_21 _ _ _)) rfl rfl rfl ?_
      refine ms1 dm_tells_55 rfl rfl rfl rfl ?_
      refine ms1 dm_tells_57 rfl rfl rfl rfl ?_
      refine ms3 dm_tells_58 (r_get hm h2 rfl (rg_21 _ _ _)) rfl rfl rfl ?_
      refine ms1 dm_tells_61 rfl rfl rfl rfl ?_
      refine ms0 (S' := .int (1 : Int32) :: _) dm_tells_63 rfl rfl rfl rfl ?_
      refine ms0 dm_tells_64 rfl rfl rfl rfl ?_
      obtain ⟨ho, hok⟩ := hok
      refine ms3 dm_tells_65 (r_iald hm h2 (rc_21 _ _ _ _ _) rfl ho) rfl rfl rfl ?_
      obtain ⟨ho, hok⟩ := hok
      refine ms3 dm_tells_66 (r_iastk (k := 21) hm h2 (rc_21 _ _ _ _ _) rfl ho (rs_21 _ _ _ _ _ _)) rfl rfl rfl ?_
      have he : lp_tells (n + 1) 51 i l I J v w = lp_tells n 67 i l (va_up I 21 (upd (I 21) ((v 5)).toNatClampNeg (I 21 (((v 5) + (1 : Int32))).toNatClampNeg))) J v w := by
        rw [lb_tells_51]
      rw [he]
      exact mjR_sub rfl rfl rfl (ih.2.2.2.1 _ _ _ _ _ _ hok)
    · intro i l I J v w hok
      have hok : okl_tells n 26 i l I J (upd v 5 ((v 5) + Int32.ofInt (1))) w := hok
      refine ms1 dm_tells_67 rfl rfl rfl rfl ?_
      refine ms2 dm_tells_70 rfl rfl rfl ?_
      have he : lp_tells (n + 1) 67 i l I J v w = lp_tells n 26 i l I J (upd v 5 ((v 5) + Int32.ofInt (1))) w := by
        rw [lb_tells_67]
      rw [he]
      exact mjR_sub rfl rfl rfl (ih.2.1 _ _ _ _ _ _ hok)
    · intro i l I J v w hok
      have hok : (if mj_cnd .ge (v 5) (0 : Int32) = true then (¬ ((v 5) < 0 ∨ 40 ≤ ((v 5)).toNatClampNeg) ∧ (¬ ((v 5) < 0 ∨ 40 ≤ ((v 5)).toNatClampNeg) ∧ True)) else okl_tells n 101 (upd i 24 ((i 24) + (1 : Int32))) l I J (upd v 5 (i 24)) w) := hok
      refine ms1 dm_tells_80 rfl rfl rfl rfl ?_
      refine ms_1c dm_tells_82 rfl rfl (fun hb1 => ?_) (fun hb1 => ?_)
      · have hb1 : mj_cnd .ge (v 5) (0 : Int32) = true := hb1
        rw [if_pos hb1] at hok
        refine ms1 dm_tells_101 rfl rfl rfl rfl ?_
        refine ms3 dm_tells_102 (r_get hm h2 rfl (rg_20 _ _ _)) rfl rfl rfl ?_
        refine ms1 dm_tells_105 rfl rfl rfl rfl ?_
        refine ms1 dm_tells_107 rfl rfl rfl rfl ?_
        obtain ⟨ho, hok⟩ := hok
        refine ms3 dm_tells_108 (r_lastk (k := 20) hm h2 (rc_20 _ _ _ _ _) rfl ho (rs_20 _ _ _ _ _ _)) rfl rfl rfl ?_
        refine ms1 dm_tells_109 rfl rfl rfl rfl ?_
        refine ms3 dm_tells_110 (r_get hm h2 rfl (rg_22 _ _ _)) rfl rfl rfl ?_
        refine ms1 dm_tells_113 rfl rfl rfl rfl ?_
        refine ms1 dm_tells_115 rfl rfl rfl rfl ?_
        obtain ⟨ho, hok⟩ := hok
        refine ms3 dm_tells_116 (r_iastk (k := 22) hm h2 (rc_22 _ _ _ _ _) rfl ho (rs_22 _ _ _ _ _ _)) rfl rfl rfl ?_
        have he : lp_tells (n + 1) 80 i l I J v w = ((), i, l, (va_up I 22 (upd (I 22) ((v 5)).toNatClampNeg (v 3))), (va_up J 20 (vp_updL (J 20) ((v 5)).toNatClampNeg (w 1)))) := by
          rw [lb_tells_80]
          simp only [hb1, Bool.false_eq_true, if_true, if_false]
        rw [he]
        exact ms5 dm_tells_117 rfl rfl rfl
      · have hb1 : ¬ (mj_cnd .ge (v 5) (0 : Int32) = true) := hb1
        rw [if_neg hb1] at hok
        refine ms1 dm_tells_85 rfl rfl rfl rfl ?_
        refine ms3 dm_tells_86 (r_get (v := .int (i 24)) hm h2 rfl (rg_24 _ _ _)) rfl rfl rfl ?_
        refine ms1 dm_tells_89 rfl rfl rfl rfl ?_
        refine ms1 dm_tells_91 rfl rfl rfl rfl ?_
        refine ms0 dm_tells_92 rfl rfl rfl rfl ?_
        refine ms3 dm_tells_93 (r_get (v := .int (i 24)) hm h2 rfl (rg_24 _ _ _)) rfl rfl rfl ?_
        refine ms0 (S' := .int (1 : Int32) :: _) dm_tells_96 rfl rfl rfl rfl ?_
        refine ms0 dm_tells_97 rfl rfl rfl rfl ?_
        refine ms3 dm_tells_98 (r_puti hm h2 rfl (rF_lt 24 rfl) (rf_24 _ _ _ _)) rfl rfl rfl ?_
        have he : lp_tells (n + 1) 80 i l I J v w = lp_tells n 101 (upd i 24 ((i 24) + (1 : Int32))) l I J (upd v 5 (i 24)) w := by
          rw [lb_tells_80]
          simp only [hb1, Bool.false_eq_true, if_true, if_false]
        rw [he]
        exact mjR_sub rfl rfl rfl (ih.2.2.2.2.2 _ _ _ _ _ _ hok)
    · intro i l I J v w hok
      have hok : (¬ ((v 5) < 0 ∨ 40 ≤ ((v 5)).toNatClampNeg) ∧ (¬ ((v 5) < 0 ∨ 40 ≤ ((v 5)).toNatClampNeg) ∧ True)) := hok
      refine ms1 dm_tells_101 rfl rfl rfl rfl ?_
      refine ms3 dm_tells_102 (r_get hm h2 rfl (rg_20 _ _ _)) rfl rfl rfl ?_
      refine ms1 dm_tells_105 rfl rfl rfl rfl ?_
      refine ms1 dm_tells_107 rfl rfl rfl rfl ?_
      obtain ⟨ho, hok⟩ := hok
      refine ms3 dm_tells_108 (r_lastk (k := 20) hm h2 (rc_20 _ _ _ _ _) rfl ho (rs_20 _ _ _ _ _ _)) rfl rfl rfl ?_
      refine ms1 dm_tells_109 rfl rfl rfl rfl ?_
      refine ms3 dm_tells_110 (r_get hm h2 rfl (rg_22 _ _ _)) rfl rfl rfl ?_
      refine ms1 dm_tells_113 rfl rfl rfl rfl ?_
      refine ms1 dm_tells_115 rfl rfl rfl rfl ?_
      obtain ⟨ho, hok⟩ := hok
      refine ms3 dm_tells_116 (r_iastk (k := 22) hm h2 (rc_22 _ _ _ _ _) rfl ho (rs_22 _ _ _ _ _ _)) rfl rfl rfl ?_
      have he : lp_tells (n + 1) 101 i l I J v w = ((), i, l, (va_up I 22 (upd (I 22) ((v 5)).toNatClampNeg (v 3))), (va_up J 20 (vp_updL (J 20) ((v 5)).toNatClampNeg (w 1)))) := by
        rw [lb_tells_101]
      rw [he]
      exact ms5 dm_tells_117 rfl rfl rfl
set_option maxRecDepth 20000 in
theorem q_tells {xt : mj_X} {pre post : mj_H} {m : Nat} {i : Nat → Int32} {l : Nat → Int64} {I : Nat → Nat → Int32} {J : Nat → Nat → Int64} {d : Nat} (hm : pre.length = m) (h2 : 2 ≤ m) {p0 : Int64} {p1 : Int32} {n : Nat} (hok : ok_tells n i l I J p0 p1) : pgC xt (d + 2) k_tells (.ref m :: [.long p0, .int p1]) (rH pre post m i l I J) none (rH pre post m (s_tells n i l I J p0 p1).2.1 (s_tells n i l I J p0 p1).2.2.1 (s_tells n i l I J p0 p1).2.2.2.1 (s_tells n i l I J p0 p1).2.2.2.2) := by
  unfold ok_tells at hok
  refine ms_call pm_tells (Nat.le_of_ble_eq_true rfl) ?_
  dsimp only
  refine ms1 dm_tells_0 rfl rfl rfl rfl ?_
  refine ms1 dm_tells_1 rfl rfl rfl rfl ?_
  obtain ⟨ho, hok⟩ := hok
  refine ms4 dm_tells_2 rfl (r_inv (As := [.long p0]) hm h2 rfl rfl rfl) (q_valueNamed hm h2 ho) rfl rfl rfl ?_
  refine ms1 dm_tells_5 rfl rfl rfl rfl ?_
  refine ms1 dm_tells_7 rfl rfl rfl rfl ?_
  refine ms_1c dm_tells_9 rfl rfl (fun hb1 => ?_) (fun hb1 => ?_)
  · have hb1 : mj_cnd .lt ((s_valueNamed n i l I J p0).1) (0 : Int32) = true := hb1
    rw [if_pos hb1] at hok
    refine ms1 dm_tells_73 rfl rfl rfl rfl ?_
    refine ms1 dm_tells_74 rfl rfl rfl rfl ?_
    obtain ⟨ho, hok⟩ := hok
    refine ms4 dm_tells_75 rfl (r_inv (As := [.long p0]) hm h2 rfl rfl rfl) (q_functionNamed hm h2 ho) rfl rfl rfl ?_
    refine ms1 dm_tells_78 rfl rfl rfl rfl ?_
    have he : s_tells n i l I J p0 p1 = lp_tells n 80 ((s_functionNamed n ((s_valueNamed n i l I J p0).2.1) ((s_valueNamed n i l I J p0).2.2.1) ((s_valueNamed n i l I J p0).2.2.2.1) ((s_valueNamed n i l I J p0).2.2.2.2) p0).2.1) ((s_functionNamed n ((s_valueNamed n i l I J p0).2.1) ((s_valueNamed n i l I J p0).2.2.1) ((s_valueNamed n i l I J p0).2.2.2.1) ((s_valueNamed n i l I J p0).2.2.2.2) p0).2.2.1) ((s_functionNamed n ((s_valueNamed n i l I J p0).2.1) ((s_valueNamed n i l I J p0).2.2.1) ((s_valueNamed n i l I J p0).2.2.2.1) ((s_valueNamed n i l I J p0).2.2.2.2) p0).2.2.2.1) ((s_functionNamed n ((s_valueNamed n i l I J p0).2.1) ((s_valueNamed n i l I J p0).2.2.1) ((s_valueNamed n i l I J p0).2.2.2.1) ((s_valueNamed n i l I J p0).2.2.2.2) p0).2.2.2.2) (upd (upd (fun _ => 0) 3 p1) 5 ((s_functionNamed n ((s_valueNamed n i l I J p0).2.1) ((s_valueNamed n i l I J p0).2.2.1) ((s_valueNamed n i l I J p0).2.2.2.1) ((s_valueNamed n i l I J p0).2.2.2.2) p0).1)) (vp_updL (fun _ => 0) 1 p0) := by
      unfold s_tells
      simp only [hb1, Bool.false_eq_true, if_true, if_false]
    rw [he]
    exact mjR_sub rfl rfl rfl ((ql_tells hm h2 n).2.2.2.2.1 _ _ _ _ _ _ hok)
  · have hb1 : ¬ (mj_cnd .lt ((s_valueNamed n i l I J p0).1) (0 : Int32) = true) := hb1
    rw [if_neg hb1] at hok
    refine ms1 dm_tells_12 rfl rfl rfl rfl ?_
    refine ms0 dm_tells_13 rfl rfl rfl rfl ?_
    refine ms3 dm_tells_14 (r_get (v := .int (((s_valueNamed n i l I J p0).2.1) 23)) hm h2 rfl (rg_23 _ _ _)) rfl rfl rfl ?_
    refine ms0 (S' := .int (1 : Int32) :: _) dm_tells_17 rfl rfl rfl rfl ?_
    refine ms0 dm_tells_18 rfl rfl rfl rfl ?_
    refine ms3 dm_tells_19 (r_puti hm h2 rfl (rF_lt 23 rfl) (rf_23 _ _ _ _)) rfl rfl rfl ?_
    have he : s_tells n i l I J p0 p1 = lp_tells n 22 (upd ((s_valueNamed n i l I J p0).2.1) 23 ((((s_valueNamed n i l I J p0).2.1) 23) - (1 : Int32))) ((s_valueNamed n i l I J p0).2.2.1) ((s_valueNamed n i l I J p0).2.2.2.1) ((s_valueNamed n i l I J p0).2.2.2.2) (upd (upd (fun _ => 0) 3 p1) 4 ((s_valueNamed n i l I J p0).1)) (vp_updL (fun _ => 0) 1 p0) := by
      unfold s_tells
      simp only [hb1, Bool.false_eq_true, if_true, if_false]
    rw [he]
    exact mjR_sub rfl rfl rfl ((ql_tells hm h2 n).1 _ _ _ _ _ _ hok)
def k_nameWorth : Nat := 237
set_option maxRecDepth 20000 in
theorem pm_nameWorth : mj_mmof pg_ms k_nameWorth = some ((⟨"ArrayCalculatorModel", "nameWorth", "(JI)I"⟩, prog_14_method_106_code, 5, (Option.some Jvm.ClassFile.FieldType.int)), 12, false, mj_dec prog_14_method_106_code) := rfl
theorem dm_nameWorth_0 : mj_dec prog_14_method_106_code 0 = some (.lload_n 1, 1) := by decide +kernel
theorem dm_nameWorth_1 : mj_dec prog_14_method_106_code 1 = some (.ldc2_w 239, 3) := by decide +kernel
theorem dm_nameWorth_4 : mj_dec prog_14_method_106_code 4 = some (.lcmp, 1) := by decide +kernel
theorem dm_nameWorth_5 : mj_dec prog_14_method_106_code 5 = some (.ifCond .eq 11, 3) := by decide +kernel
theorem dm_nameWorth_8 : mj_dec prog_14_method_106_code 8 = some (.lload_n 1, 1) := by decide +kernel
theorem dm_nameWorth_9 : mj_dec prog_14_method_106_code 9 = some (.ldc2_w 490, 3) := by decide +kernel
theorem dm_nameWorth_12 : mj_dec prog_14_method_106_code 12 = some (.lcmp, 1) := by decide +kernel
theorem dm_nameWorth_13 : mj_dec prog_14_method_106_code 13 = some (.ifCond .ne 52, 3) := by decide +kernel
theorem dm_nameWorth_16 : mj_dec prog_14_method_106_code 16 = some (.aload_n 0, 1) := by decide +kernel
theorem dm_nameWorth_17 : mj_dec prog_14_method_106_code 17 = some (.getfield 184, 3) := by decide +kernel
theorem dm_nameWorth_20 : mj_dec prog_14_method_106_code 20 = some (.ifCond .ne 7, 3) := by decide +kernel
theorem dm_nameWorth_23 : mj_dec prog_14_method_106_code 23 = some (.iconst (-1), 1) := by decide +kernel
theorem dm_nameWorth_24 : mj_dec prog_14_method_106_code 24 = some (.goto 22, 3) := by decide +kernel
theorem dm_nameWorth_27 : mj_dec prog_14_method_106_code 27 = some (.lload_n 1, 1) := by decide +kernel
theorem dm_nameWorth_28 : mj_dec prog_14_method_106_code 28 = some (.ldc2_w 239, 3) := by decide +kernel
theorem dm_nameWorth_31 : mj_dec prog_14_method_106_code 31 = some (.lcmp, 1) := by decide +kernel
theorem dm_nameWorth_32 : mj_dec prog_14_method_106_code 32 = some (.ifCond .ne 10, 3) := by decide +kernel
theorem dm_nameWorth_35 : mj_dec prog_14_method_106_code 35 = some (.aload_n 0, 1) := by decide +kernel
theorem dm_nameWorth_36 : mj_dec prog_14_method_106_code 36 = some (.getfield 96, 3) := by decide +kernel
theorem dm_nameWorth_39 : mj_dec prog_14_method_106_code 39 = some (.goto 7, 3) := by decide +kernel
theorem dm_nameWorth_42 : mj_dec prog_14_method_106_code 42 = some (.aload_n 0, 1) := by decide +kernel
theorem dm_nameWorth_43 : mj_dec prog_14_method_106_code 43 = some (.getfield 99, 3) := by decide +kernel
theorem dm_nameWorth_46 : mj_dec prog_14_method_106_code 46 = some (.istore 4, 2) := by decide +kernel
theorem dm_nameWorth_48 : mj_dec prog_14_method_106_code 48 = some (.iload 4, 2) := by decide +kernel
theorem dm_nameWorth_50 : mj_dec prog_14_method_106_code 50 = some (.ifCond .ge 12, 3) := by decide +kernel
theorem dm_nameWorth_53 : mj_dec prog_14_method_106_code 53 = some (.aload_n 0, 1) := by decide +kernel
theorem dm_nameWorth_54 : mj_dec prog_14_method_106_code 54 = some (.iconst 2, 1) := by decide +kernel
theorem dm_nameWorth_55 : mj_dec prog_14_method_106_code 55 = some (.iload_n 3, 1) := by decide +kernel
theorem dm_nameWorth_56 : mj_dec prog_14_method_106_code 56 = some (.invokevirtual 190, 3) := by decide +kernel
theorem dm_nameWorth_59 : mj_dec prog_14_method_106_code 59 = some (.goto 5, 3) := by decide +kernel
theorem dm_nameWorth_62 : mj_dec prog_14_method_106_code 62 = some (.iload 4, 2) := by decide +kernel
theorem dm_nameWorth_64 : mj_dec prog_14_method_106_code 64 = some (.ireturn, 1) := by decide +kernel
theorem dm_nameWorth_65 : mj_dec prog_14_method_106_code 65 = some (.aload_n 0, 1) := by decide +kernel
theorem dm_nameWorth_66 : mj_dec prog_14_method_106_code 66 = some (.lload_n 1, 1) := by decide +kernel
theorem dm_nameWorth_67 : mj_dec prog_14_method_106_code 67 = some (.invokevirtual 367, 3) := by decide +kernel
theorem dm_nameWorth_70 : mj_dec prog_14_method_106_code 70 = some (.istore 4, 2) := by decide +kernel
theorem dm_nameWorth_72 : mj_dec prog_14_method_106_code 72 = some (.iload 4, 2) := by decide +kernel
theorem dm_nameWorth_74 : mj_dec prog_14_method_106_code 74 = some (.ifCond .ge 12, 3) := by decide +kernel
theorem dm_nameWorth_77 : mj_dec prog_14_method_106_code 77 = some (.aload_n 0, 1) := by decide +kernel
theorem dm_nameWorth_78 : mj_dec prog_14_method_106_code 78 = some (.iconst 2, 1) := by decide +kernel
theorem dm_nameWorth_79 : mj_dec prog_14_method_106_code 79 = some (.iload_n 3, 1) := by decide +kernel
theorem dm_nameWorth_80 : mj_dec prog_14_method_106_code 80 = some (.invokevirtual 190, 3) := by decide +kernel
theorem dm_nameWorth_83 : mj_dec prog_14_method_106_code 83 = some (.goto 10, 3) := by decide +kernel
theorem dm_nameWorth_86 : mj_dec prog_14_method_106_code 86 = some (.aload_n 0, 1) := by decide +kernel
theorem dm_nameWorth_87 : mj_dec prog_14_method_106_code 87 = some (.getfield 49, 3) := by decide +kernel
theorem dm_nameWorth_90 : mj_dec prog_14_method_106_code 90 = some (.iload 4, 2) := by decide +kernel
theorem dm_nameWorth_92 : mj_dec prog_14_method_106_code 92 = some (.iaload, 1) := by decide +kernel
theorem dm_nameWorth_93 : mj_dec prog_14_method_106_code 93 = some (.ireturn, 1) := by decide +kernel
def a_nameWorth (n : Nat) (i : Nat → Int32) (l : Nat → Int64) (I : Nat → Nat → Int32) (J : Nat → Nat → Int64) (p0 : Int64) (p1 : Int32) : Int32 := (if mj_cnd .eq (lg_cmp p0 (120 : Int64)) (0 : Int32) = true then (if mj_cnd .ne (i 10) (0 : Int32) = true then (if mj_cnd .ne (lg_cmp p0 (120 : Int64)) (0 : Int32) = true then (if mj_cnd .ge (i 59) (0 : Int32) = true then (i 59) else (a_fail i l I J (2 : Int32) p1)) else (if mj_cnd .ge (i 58) (0 : Int32) = true then (i 58) else (a_fail i l I J (2 : Int32) p1))) else (a_fail i l I J (2 : Int32) p1)) else (if mj_cnd .ne (lg_cmp p0 (121 : Int64)) (0 : Int32) = true then (if mj_cnd .ge ((s_valueNamed n i l I J p0).1) (0 : Int32) = true then (((s_valueNamed n i l I J p0).2.2.2.1) 21 (((s_valueNamed n i l I J p0).1)).toNatClampNeg) else (a_fail ((s_valueNamed n i l I J p0).2.1) ((s_valueNamed n i l I J p0).2.2.1) ((s_valueNamed n i l I J p0).2.2.2.1) ((s_valueNamed n i l I J p0).2.2.2.2) (2 : Int32) p1)) else (if mj_cnd .ne (i 10) (0 : Int32) = true then (if mj_cnd .ne (lg_cmp p0 (120 : Int64)) (0 : Int32) = true then (if mj_cnd .ge (i 59) (0 : Int32) = true then (i 59) else (a_fail i l I J (2 : Int32) p1)) else (if mj_cnd .ge (i 58) (0 : Int32) = true then (i 58) else (a_fail i l I J (2 : Int32) p1))) else (a_fail i l I J (2 : Int32) p1))))
def si_nameWorth (n : Nat) (i : Nat → Int32) (l : Nat → Int64) (I : Nat → Nat → Int32) (J : Nat → Nat → Int64) (p0 : Int64) (p1 : Int32) : Nat → Int32 := (if mj_cnd .eq (lg_cmp p0 (120 : Int64)) (0 : Int32) = true then (if mj_cnd .ne (i 10) (0 : Int32) = true then (if mj_cnd .ne (lg_cmp p0 (120 : Int64)) (0 : Int32) = true then (if mj_cnd .ge (i 59) (0 : Int32) = true then i else (si_fail i l I J (2 : Int32) p1)) else (if mj_cnd .ge (i 58) (0 : Int32) = true then i else (si_fail i l I J (2 : Int32) p1))) else (si_fail i l I J (2 : Int32) p1)) else (if mj_cnd .ne (lg_cmp p0 (121 : Int64)) (0 : Int32) = true then (if mj_cnd .ge ((s_valueNamed n i l I J p0).1) (0 : Int32) = true then ((s_valueNamed n i l I J p0).2.1) else (si_fail ((s_valueNamed n i l I J p0).2.1) ((s_valueNamed n i l I J p0).2.2.1) ((s_valueNamed n i l I J p0).2.2.2.1) ((s_valueNamed n i l I J p0).2.2.2.2) (2 : Int32) p1)) else (if mj_cnd .ne (i 10) (0 : Int32) = true then (if mj_cnd .ne (lg_cmp p0 (120 : Int64)) (0 : Int32) = true then (if mj_cnd .ge (i 59) (0 : Int32) = true then i else (si_fail i l I J (2 : Int32) p1)) else (if mj_cnd .ge (i 58) (0 : Int32) = true then i else (si_fail i l I J (2 : Int32) p1))) else (si_fail i l I J (2 : Int32) p1))))
def sl_nameWorth (n : Nat) (i : Nat → Int32) (l : Nat → Int64) (I : Nat → Nat → Int32) (J : Nat → Nat → Int64) (p0 : Int64) (p1 : Int32) : Nat → Int64 := (if mj_cnd .eq (lg_cmp p0 (120 : Int64)) (0 : Int32) = true then (if mj_cnd .ne (i 10) (0 : Int32) = true then (if mj_cnd .ne (lg_cmp p0 (120 : Int64)) (0 : Int32) = true then (if mj_cnd .ge (i 59) (0 : Int32) = true then l else l) else (if mj_cnd .ge (i 58) (0 : Int32) = true then l else l)) else l) else (if mj_cnd .ne (lg_cmp p0 (121 : Int64)) (0 : Int32) = true then (if mj_cnd .ge ((s_valueNamed n i l I J p0).1) (0 : Int32) = true then ((s_valueNamed n i l I J p0).2.2.1) else ((s_valueNamed n i l I J p0).2.2.1)) else (if mj_cnd .ne (i 10) (0 : Int32) = true then (if mj_cnd .ne (lg_cmp p0 (120 : Int64)) (0 : Int32) = true then (if mj_cnd .ge (i 59) (0 : Int32) = true then l else l) else (if mj_cnd .ge (i 58) (0 : Int32) = true then l else l)) else l)))
def sI_nameWorth (n : Nat) (i : Nat → Int32) (l : Nat → Int64) (I : Nat → Nat → Int32) (J : Nat → Nat → Int64) (p0 : Int64) (p1 : Int32) : Nat → Nat → Int32 := (if mj_cnd .eq (lg_cmp p0 (120 : Int64)) (0 : Int32) = true then (if mj_cnd .ne (i 10) (0 : Int32) = true then (if mj_cnd .ne (lg_cmp p0 (120 : Int64)) (0 : Int32) = true then (if mj_cnd .ge (i 59) (0 : Int32) = true then I else I) else (if mj_cnd .ge (i 58) (0 : Int32) = true then I else I)) else I) else (if mj_cnd .ne (lg_cmp p0 (121 : Int64)) (0 : Int32) = true then (if mj_cnd .ge ((s_valueNamed n i l I J p0).1) (0 : Int32) = true then ((s_valueNamed n i l I J p0).2.2.2.1) else ((s_valueNamed n i l I J p0).2.2.2.1)) else (if mj_cnd .ne (i 10) (0 : Int32) = true then (if mj_cnd .ne (lg_cmp p0 (120 : Int64)) (0 : Int32) = true then (if mj_cnd .ge (i 59) (0 : Int32) = true then I else I) else (if mj_cnd .ge (i 58) (0 : Int32) = true then I else I)) else I)))
def sJ_nameWorth (n : Nat) (i : Nat → Int32) (l : Nat → Int64) (I : Nat → Nat → Int32) (J : Nat → Nat → Int64) (p0 : Int64) (p1 : Int32) : Nat → Nat → Int64 := (if mj_cnd .eq (lg_cmp p0 (120 : Int64)) (0 : Int32) = true then (if mj_cnd .ne (i 10) (0 : Int32) = true then (if mj_cnd .ne (lg_cmp p0 (120 : Int64)) (0 : Int32) = true then (if mj_cnd .ge (i 59) (0 : Int32) = true then J else J) else (if mj_cnd .ge (i 58) (0 : Int32) = true then J else J)) else J) else (if mj_cnd .ne (lg_cmp p0 (121 : Int64)) (0 : Int32) = true then (if mj_cnd .ge ((s_valueNamed n i l I J p0).1) (0 : Int32) = true then ((s_valueNamed n i l I J p0).2.2.2.2) else ((s_valueNamed n i l I J p0).2.2.2.2)) else (if mj_cnd .ne (i 10) (0 : Int32) = true then (if mj_cnd .ne (lg_cmp p0 (120 : Int64)) (0 : Int32) = true then (if mj_cnd .ge (i 59) (0 : Int32) = true then J else J) else (if mj_cnd .ge (i 58) (0 : Int32) = true then J else J)) else J)))
def ok_nameWorth (n : Nat) (i : Nat → Int32) (l : Nat → Int64) (I : Nat → Nat → Int32) (J : Nat → Nat → Int64) (p0 : Int64) (p1 : Int32) : Prop := (if mj_cnd .eq (lg_cmp p0 (120 : Int64)) (0 : Int32) = true then (if mj_cnd .ne (i 10) (0 : Int32) = true then (if mj_cnd .ne (lg_cmp p0 (120 : Int64)) (0 : Int32) = true then (if mj_cnd .ge (i 59) (0 : Int32) = true then True else (ok_fail i l I J (2 : Int32) p1 ∧ True)) else (if mj_cnd .ge (i 58) (0 : Int32) = true then True else (ok_fail i l I J (2 : Int32) p1 ∧ True))) else (ok_fail i l I J (2 : Int32) p1 ∧ True)) else (if mj_cnd .ne (lg_cmp p0 (121 : Int64)) (0 : Int32) = true then (ok_valueNamed n i l I J p0 ∧ (if mj_cnd .ge ((s_valueNamed n i l I J p0).1) (0 : Int32) = true then (¬ (((s_valueNamed n i l I J p0).1) < 0 ∨ 40 ≤ (((s_valueNamed n i l I J p0).1)).toNatClampNeg) ∧ True) else (ok_fail ((s_valueNamed n i l I J p0).2.1) ((s_valueNamed n i l I J p0).2.2.1) ((s_valueNamed n i l I J p0).2.2.2.1) ((s_valueNamed n i l I J p0).2.2.2.2) (2 : Int32) p1 ∧ True))) else (if mj_cnd .ne (i 10) (0 : Int32) = true then (if mj_cnd .ne (lg_cmp p0 (120 : Int64)) (0 : Int32) = true then (if mj_cnd .ge (i 59) (0 : Int32) = true then True else (ok_fail i l I J (2 : Int32) p1 ∧ True)) else (if mj_cnd .ge (i 58) (0 : Int32) = true then True else (ok_fail i l I J (2 : Int32) p1 ∧ True))) else (ok_fail i l I J (2 : Int32) p1 ∧ True))))
set_option maxRecDepth 20000 in
theorem q_nameWorth {xt : mj_X} {pre post : mj_H} {m : Nat} {i : Nat → Int32} {l : Nat → Int64} {I : Nat → Nat → Int32} {J : Nat → Nat → Int64} {d : Nat} (hm : pre.length = m) (h2 : 2 ≤ m) {p0 : Int64} {p1 : Int32} {n : Nat} (hok : ok_nameWorth n i l I J p0 p1) : pgC xt (d + 2) k_nameWorth (.ref m :: [.long p0, .int p1]) (rH pre post m i l I J) (some (.int (a_nameWorth n i l I J p0 p1))) (rH pre post m (si_nameWorth n i l I J p0 p1) (sl_nameWorth n i l I J p0 p1) (sI_nameWorth n i l I J p0 p1) (sJ_nameWorth n i l I J p0 p1)) := by
  unfold ok_nameWorth at hok
  refine ms_call pm_nameWorth (Nat.le_of_ble_eq_true rfl) ?_
  dsimp only
  refine ms1 dm_nameWorth_0 rfl rfl rfl rfl ?_
  refine ms3 (S' := .long (120 : Int64) :: _) dm_nameWorth_1 rfl rfl rfl rfl ?_
  refine ms0 dm_nameWorth_4 rfl rfl rfl rfl ?_
  refine ms_1c dm_nameWorth_5 rfl rfl (fun hb1 => ?_) (fun hb1 => ?_)
  · have hb1 : mj_cnd .eq (lg_cmp p0 (120 : Int64)) (0 : Int32) = true := hb1
    rw [if_pos hb1] at hok
    refine ms1 dm_nameWorth_16 rfl rfl rfl rfl ?_
    refine ms3 dm_nameWorth_17 (r_get (v := .int (i 10)) hm h2 rfl (rg_10 _ _ _)) rfl rfl rfl ?_
    refine ms_1c dm_nameWorth_20 rfl rfl (fun hb2 => ?_) (fun hb2 => ?_)
    · have hb2 : mj_cnd .ne (i 10) (0 : Int32) = true := hb2
      rw [if_pos hb2] at hok
      refine ms1 dm_nameWorth_27 rfl rfl rfl rfl ?_
      refine ms3 (S' := .long (120 : Int64) :: _) dm_nameWorth_28 rfl rfl rfl rfl ?_
      refine ms0 dm_nameWorth_31 rfl rfl rfl rfl ?_
      refine ms_1c dm_nameWorth_32 rfl rfl (fun hb3 => ?_) (fun hb3 => ?_)
      · have hb3 : mj_cnd .ne (lg_cmp p0 (120 : Int64)) (0 : Int32) = true := hb3
        rw [if_pos hb3] at hok
        refine ms1 dm_nameWorth_42 rfl rfl rfl rfl ?_
        refine ms3 dm_nameWorth_43 (r_get (v := .int (i 59)) hm h2 rfl (rg_59 _ _ _)) rfl rfl rfl ?_
        refine ms1 dm_nameWorth_46 rfl rfl rfl rfl ?_
        refine ms1 dm_nameWorth_48 rfl rfl rfl rfl ?_
        refine ms_1c dm_nameWorth_50 rfl rfl (fun hb4 => ?_) (fun hb4 => ?_)
        · have hb4 : mj_cnd .ge (i 59) (0 : Int32) = true := hb4
          rw [if_pos hb4] at hok
          refine ms1 dm_nameWorth_62 rfl rfl rfl rfl ?_
          simp only [a_nameWorth, si_nameWorth, sl_nameWorth, sI_nameWorth, sJ_nameWorth, hb1, hb2, hb3, hb4, Bool.false_eq_true, if_true, if_false]
          exact ms5 dm_nameWorth_64 rfl rfl rfl
        · have hb4 : ¬ (mj_cnd .ge (i 59) (0 : Int32) = true) := hb4
          rw [if_neg hb4] at hok
          refine ms1 dm_nameWorth_53 rfl rfl rfl rfl ?_
          refine ms0 (S' := .int (2 : Int32) :: _) dm_nameWorth_54 rfl rfl rfl rfl ?_
          refine ms1 dm_nameWorth_55 rfl rfl rfl rfl ?_
          obtain ⟨ho, hok⟩ := hok
          refine ms4 dm_nameWorth_56 rfl (r_inv (As := [.int (2 : Int32), .int p1]) hm h2 rfl rfl rfl) (q_fail hm h2 ho) rfl rfl rfl ?_
          refine ms2 dm_nameWorth_59 rfl rfl rfl ?_
          simp only [a_nameWorth, si_nameWorth, sl_nameWorth, sI_nameWorth, sJ_nameWorth, hb1, hb2, hb3, hb4, Bool.false_eq_true, if_true, if_false]
          exact ms5 dm_nameWorth_64 rfl rfl rfl
      · have hb3 : ¬ (mj_cnd .ne (lg_cmp p0 (120 : Int64)) (0 : Int32) = true) := hb3
        rw [if_neg hb3] at hok
        refine ms1 dm_nameWorth_35 rfl rfl rfl rfl ?_
        refine ms3 dm_nameWorth_36 (r_get (v := .int (i 58)) hm h2 rfl (rg_58 _ _ _)) rfl rfl rfl ?_
        refine ms2 dm_nameWorth_39 rfl rfl rfl ?_
        refine ms1 dm_nameWorth_46 rfl rfl rfl rfl ?_
        refine ms1 dm_nameWorth_48 rfl rfl rfl rfl ?_
        refine ms_1c dm_nameWorth_50 rfl rfl (fun hb5 => ?_) (fun hb5 => ?_)
        · have hb5 : mj_cnd .ge (i 58) (0 : Int32) = true := hb5
          rw [if_pos hb5] at hok
          refine ms1 dm_nameWorth_62 rfl rfl rfl rfl ?_
          simp only [a_nameWorth, si_nameWorth, sl_nameWorth, sI_nameWorth, sJ_nameWorth, hb1, hb2, hb3, hb5, Bool.false_eq_true, if_true, if_false]
          exact ms5 dm_nameWorth_64 rfl rfl rfl
        · have hb5 : ¬ (mj_cnd .ge (i 58) (0 : Int32) = true) := hb5
          rw [if_neg hb5] at hok
          refine ms1 dm_nameWorth_53 rfl rfl rfl rfl ?_
          refine ms0 (S' := .int (2 : Int32) :: _) dm_nameWorth_54 rfl rfl rfl rfl ?_
          refine ms1 dm_nameWorth_55 rfl rfl rfl rfl ?_
          obtain ⟨ho, hok⟩ := hok
          refine ms4 dm_nameWorth_56 rfl (r_inv (As := [.int (2 : Int32), .int p1]) hm h2 rfl rfl rfl) (q_fail hm h2 ho) rfl rfl rfl ?_
          refine ms2 dm_nameWorth_59 rfl rfl rfl ?_
          simp only [a_nameWorth, si_nameWorth, sl_nameWorth, sI_nameWorth, sJ_nameWorth, hb1, hb2, hb3, hb5, Bool.false_eq_true, if_true, if_false]
          exact ms5 dm_nameWorth_64 rfl rfl rfl
    · have hb2 : ¬ (mj_cnd .ne (i 10) (0 : Int32) = true) := hb2
      rw [if_neg hb2] at hok
      refine ms0 (S' := .int (-1 : Int32) :: _) dm_nameWorth_23 rfl rfl rfl rfl ?_
      refine ms2 dm_nameWorth_24 rfl rfl rfl ?_
      refine ms1 dm_nameWorth_46 rfl rfl rfl rfl ?_
      refine ms1 dm_nameWorth_48 rfl rfl rfl rfl ?_
      refine ms_1f dm_nameWorth_50 rfl (by decide) rfl ?_
      refine ms1 dm_nameWorth_53 rfl rfl rfl rfl ?_
      refine ms0 (S' := .int (2 : Int32) :: _) dm_nameWorth_54 rfl rfl rfl rfl ?_
      refine ms1 dm_nameWorth_55 rfl rfl rfl rfl ?_
      obtain ⟨ho, hok⟩ := hok
      refine ms4 dm_nameWorth_56 rfl (r_inv (As := [.int (2 : Int32), .int p1]) hm h2 rfl rfl rfl) (q_fail hm h2 ho) rfl rfl rfl ?_
      refine ms2 dm_nameWorth_59 rfl rfl rfl ?_
      simp only [a_nameWorth, si_nameWorth, sl_nameWorth, sI_nameWorth, sJ_nameWorth, hb1, hb2, Bool.false_eq_true, if_true, if_false]
      exact ms5 dm_nameWorth_64 rfl rfl rfl
  · have hb1 : ¬ (mj_cnd .eq (lg_cmp p0 (120 : Int64)) (0 : Int32) = true) := hb1
    rw [if_neg hb1] at hok
    refine ms1 dm_nameWorth_8 rfl rfl rfl rfl ?_
    refine ms3 (S' := .long (121 : Int64) :: _) dm_nameWorth_9 rfl rfl rfl rfl ?_
    refine ms0 dm_nameWorth_12 rfl rfl rfl rfl ?_
    refine ms_1c dm_nameWorth_13 rfl rfl (fun hb6 => ?_) (fun hb6 => ?_)
    · have hb6 : mj_cnd .ne (lg_cmp p0 (121 : Int64)) (0 : Int32) = true := hb6
      rw [if_pos hb6] at hok
      refine ms1 dm_nameWorth_65 rfl rfl rfl rfl ?_
      refine ms1 dm_nameWorth_66 rfl rfl rfl rfl ?_
      obtain ⟨ho, hok⟩ := hok
      refine ms4 dm_nameWorth_67 rfl (r_inv (As := [.long p0]) hm h2 rfl rfl rfl) (q_valueNamed hm h2 ho) rfl rfl rfl ?_
      refine ms1 dm_nameWorth_70 rfl rfl rfl rfl ?_
      refine ms1 dm_nameWorth_72 rfl rfl rfl rfl ?_
      refine ms_1c dm_nameWorth_74 rfl rfl (fun hb7 => ?_) (fun hb7 => ?_)
      · have hb7 : mj_cnd .ge ((s_valueNamed n i l I J p0).1) (0 : Int32) = true := hb7
        rw [if_pos hb7] at hok
        refine ms1 dm_nameWorth_86 rfl rfl rfl rfl ?_
        refine ms3 dm_nameWorth_87 (r_get hm h2 rfl (rg_21 _ _ _)) rfl rfl rfl ?_
        refine ms1 dm_nameWorth_90 rfl rfl rfl rfl ?_
        obtain ⟨ho, hok⟩ := hok
        refine ms3 dm_nameWorth_92 (r_iald hm h2 (rc_21 _ _ _ _ _) rfl ho) rfl rfl rfl ?_
        simp only [a_nameWorth, si_nameWorth, sl_nameWorth, sI_nameWorth, sJ_nameWorth, hb1, hb6, hb7, Bool.false_eq_true, if_true, if_false]
        exact ms5 dm_nameWorth_93 rfl rfl rfl
      · have hb7 : ¬ (mj_cnd .ge ((s_valueNamed n i l I J p0).1) (0 : Int32) = true) := hb7
        rw [if_neg hb7] at hok
        refine ms1 dm_nameWorth_77 rfl rfl rfl rfl ?_
        refine ms0 (S' := .int (2 : Int32) :: _) dm_nameWorth_78 rfl rfl rfl rfl ?_
        refine ms1 dm_nameWorth_79 rfl rfl rfl rfl ?_
        obtain ⟨ho, hok⟩ := hok
        refine ms4 dm_nameWorth_80 rfl (r_inv (As := [.int (2 : Int32), .int p1]) hm h2 rfl rfl rfl) (q_fail hm h2 ho) rfl rfl rfl ?_
        refine ms2 dm_nameWorth_83 rfl rfl rfl ?_
        simp only [a_nameWorth, si_nameWorth, sl_nameWorth, sI_nameWorth, sJ_nameWorth, hb1, hb6, hb7, Bool.false_eq_true, if_true, if_false]
        exact ms5 dm_nameWorth_93 rfl rfl rfl
    · have hb6 : ¬ (mj_cnd .ne (lg_cmp p0 (121 : Int64)) (0 : Int32) = true) := hb6
      rw [if_neg hb6] at hok
      refine ms1 dm_nameWorth_16 rfl rfl rfl rfl ?_
      refine ms3 dm_nameWorth_17 (r_get (v := .int (i 10)) hm h2 rfl (rg_10 _ _ _)) rfl rfl rfl ?_
      refine ms_1c dm_nameWorth_20 rfl rfl (fun hb8 => ?_) (fun hb8 => ?_)
      · have hb8 : mj_cnd .ne (i 10) (0 : Int32) = true := hb8
        rw [if_pos hb8] at hok
        refine ms1 dm_nameWorth_27 rfl rfl rfl rfl ?_
        refine ms3 (S' := .long (120 : Int64) :: _) dm_nameWorth_28 rfl rfl rfl rfl ?_
        refine ms0 dm_nameWorth_31 rfl rfl rfl rfl ?_
        refine ms_1c dm_nameWorth_32 rfl rfl (fun hb9 => ?_) (fun hb9 => ?_)
        · have hb9 : mj_cnd .ne (lg_cmp p0 (120 : Int64)) (0 : Int32) = true := hb9
          rw [if_pos hb9] at hok
          refine ms1 dm_nameWorth_42 rfl rfl rfl rfl ?_
          refine ms3 dm_nameWorth_43 (r_get (v := .int (i 59)) hm h2 rfl (rg_59 _ _ _)) rfl rfl rfl ?_
          refine ms1 dm_nameWorth_46 rfl rfl rfl rfl ?_
          refine ms1 dm_nameWorth_48 rfl rfl rfl rfl ?_
          refine ms_1c dm_nameWorth_50 rfl rfl (fun hb10 => ?_) (fun hb10 => ?_)
          · have hb10 : mj_cnd .ge (i 59) (0 : Int32) = true := hb10
            rw [if_pos hb10] at hok
            refine ms1 dm_nameWorth_62 rfl rfl rfl rfl ?_
            simp only [a_nameWorth, si_nameWorth, sl_nameWorth, sI_nameWorth, sJ_nameWorth, hb1, hb6, hb8, hb9, hb10, Bool.false_eq_true, if_true, if_false]
            exact ms5 dm_nameWorth_64 rfl rfl rfl
          · have hb10 : ¬ (mj_cnd .ge (i 59) (0 : Int32) = true) := hb10
            rw [if_neg hb10] at hok
            refine ms1 dm_nameWorth_53 rfl rfl rfl rfl ?_
            refine ms0 (S' := .int (2 : Int32) :: _) dm_nameWorth_54 rfl rfl rfl rfl ?_
            refine ms1 dm_nameWorth_55 rfl rfl rfl rfl ?_
            obtain ⟨ho, hok⟩ := hok
            refine ms4 dm_nameWorth_56 rfl (r_inv (As := [.int (2 : Int32), .int p1]) hm h2 rfl rfl rfl) (q_fail hm h2 ho) rfl rfl rfl ?_
            refine ms2 dm_nameWorth_59 rfl rfl rfl ?_
            simp only [a_nameWorth, si_nameWorth, sl_nameWorth, sI_nameWorth, sJ_nameWorth, hb1, hb6, hb8, hb9, hb10, Bool.false_eq_true, if_true, if_false]
            exact ms5 dm_nameWorth_64 rfl rfl rfl
        · have hb9 : ¬ (mj_cnd .ne (lg_cmp p0 (120 : Int64)) (0 : Int32) = true) := hb9
          rw [if_neg hb9] at hok
          refine ms1 dm_nameWorth_35 rfl rfl rfl rfl ?_
          refine ms3 dm_nameWorth_36 (r_get (v := .int (i 58)) hm h2 rfl (rg_58 _ _ _)) rfl rfl rfl ?_
          refine ms2 dm_nameWorth_39 rfl rfl rfl ?_
          refine ms1 dm_nameWorth_46 rfl rfl rfl rfl ?_
          refine ms1 dm_nameWorth_48 rfl rfl rfl rfl ?_
          refine ms_1c dm_nameWorth_50 rfl rfl (fun hb11 => ?_) (fun hb11 => ?_)
          · have hb11 : mj_cnd .ge (i 58) (0 : Int32) = true := hb11
            rw [if_pos hb11] at hok
            refine ms1 dm_nameWorth_62 rfl rfl rfl rfl ?_
            simp only [a_nameWorth, si_nameWorth, sl_nameWorth, sI_nameWorth, sJ_nameWorth, hb1, hb6, hb8, hb9, hb11, Bool.false_eq_true, if_true, if_false]
            exact ms5 dm_nameWorth_64 rfl rfl rfl
          · have hb11 : ¬ (mj_cnd .ge (i 58) (0 : Int32) = true) := hb11
            rw [if_neg hb11] at hok
            refine ms1 dm_nameWorth_53 rfl rfl rfl rfl ?_
            refine ms0 (S' := .int (2 : Int32) :: _) dm_nameWorth_54 rfl rfl rfl rfl ?_
            refine ms1 dm_nameWorth_55 rfl rfl rfl rfl ?_
            obtain ⟨ho, hok⟩ := hok
            refine ms4 dm_nameWorth_56 rfl (r_inv (As := [.int (2 : Int32), .int p1]) hm h2 rfl rfl rfl) (q_fail hm h2 ho) rfl rfl rfl ?_
            refine ms2 dm_nameWorth_59 rfl rfl rfl ?_
            simp only [a_nameWorth, si_nameWorth, sl_nameWorth, sI_nameWorth, sJ_nameWorth, hb1, hb6, hb8, hb9, hb11, Bool.false_eq_true, if_true, if_false]
            exact ms5 dm_nameWorth_64 rfl rfl rfl
      · have hb8 : ¬ (mj_cnd .ne (i 10) (0 : Int32) = true) := hb8
        rw [if_neg hb8] at hok
        refine ms0 (S' := .int (-1 : Int32) :: _) dm_nameWorth_23 rfl rfl rfl rfl ?_
        refine ms2 dm_nameWorth_24 rfl rfl rfl ?_
        refine ms1 dm_nameWorth_46 rfl rfl rfl rfl ?_
        refine ms1 dm_nameWorth_48 rfl rfl rfl rfl ?_
        refine ms_1f dm_nameWorth_50 rfl (by decide) rfl ?_
        refine ms1 dm_nameWorth_53 rfl rfl rfl rfl ?_
        refine ms0 (S' := .int (2 : Int32) :: _) dm_nameWorth_54 rfl rfl rfl rfl ?_
        refine ms1 dm_nameWorth_55 rfl rfl rfl rfl ?_
        obtain ⟨ho, hok⟩ := hok
        refine ms4 dm_nameWorth_56 rfl (r_inv (As := [.int (2 : Int32), .int p1]) hm h2 rfl rfl rfl) (q_fail hm h2 ho) rfl rfl rfl ?_
        refine ms2 dm_nameWorth_59 rfl rfl rfl ?_
        simp only [a_nameWorth, si_nameWorth, sl_nameWorth, sI_nameWorth, sJ_nameWorth, hb1, hb6, hb8, Bool.false_eq_true, if_true, if_false]
        exact ms5 dm_nameWorth_64 rfl rfl rfl
def k_nest : Nat := 259
set_option maxRecDepth 20000 in
theorem pm_nest : mj_mmof pg_ms k_nest = some ((⟨"ArrayCalculatorModel", "nest", "(I)I"⟩, prog_14_method_38_code, 4, (Option.some Jvm.ClassFile.FieldType.int)), 12, false, mj_dec prog_14_method_38_code) := rfl
theorem dm_nest_0 : mj_dec prog_14_method_38_code 0 = some (.aload_n 0, 1) := by decide +kernel
theorem dm_nest_1 : mj_dec prog_14_method_38_code 1 = some (.bipush 7, 2) := by decide +kernel
theorem dm_nest_3 : mj_dec prog_14_method_38_code 3 = some (.aload_n 0, 1) := by decide +kernel
theorem dm_nest_4 : mj_dec prog_14_method_38_code 4 = some (.getfield 202, 3) := by decide +kernel
theorem dm_nest_7 : mj_dec prog_14_method_38_code 7 = some (.iload_n 1, 1) := by decide +kernel
theorem dm_nest_8 : mj_dec prog_14_method_38_code 8 = some (.isub, 1) := by decide +kernel
theorem dm_nest_9 : mj_dec prog_14_method_38_code 9 = some (.invokevirtual 126, 3) := by decide +kernel
theorem dm_nest_12 : mj_dec prog_14_method_38_code 12 = some (.istore_n 2, 1) := by decide +kernel
theorem dm_nest_13 : mj_dec prog_14_method_38_code 13 = some (.iconst 0, 1) := by decide +kernel
theorem dm_nest_14 : mj_dec prog_14_method_38_code 14 = some (.istore_n 3, 1) := by decide +kernel
theorem dm_nest_15 : mj_dec prog_14_method_38_code 15 = some (.iload_n 3, 1) := by decide +kernel
theorem dm_nest_16 : mj_dec prog_14_method_38_code 16 = some (.aload_n 0, 1) := by decide +kernel
theorem dm_nest_17 : mj_dec prog_14_method_38_code 17 = some (.getfield 202, 3) := by decide +kernel
theorem dm_nest_20 : mj_dec prog_14_method_38_code 20 = some (.iload_n 1, 1) := by decide +kernel
theorem dm_nest_21 : mj_dec prog_14_method_38_code 21 = some (.isub, 1) := by decide +kernel
theorem dm_nest_22 : mj_dec prog_14_method_38_code 22 = some (.if_icmp .ge 31, 3) := by decide +kernel
theorem dm_nest_25 : mj_dec prog_14_method_38_code 25 = some (.aload_n 0, 1) := by decide +kernel
theorem dm_nest_26 : mj_dec prog_14_method_38_code 26 = some (.getfield 8, 3) := by decide +kernel
theorem dm_nest_29 : mj_dec prog_14_method_38_code 29 = some (.aload_n 0, 1) := by decide +kernel
theorem dm_nest_30 : mj_dec prog_14_method_38_code 30 = some (.getfield 15, 3) := by decide +kernel
theorem dm_nest_33 : mj_dec prog_14_method_38_code 33 = some (.iload_n 2, 1) := by decide +kernel
theorem dm_nest_34 : mj_dec prog_14_method_38_code 34 = some (.iaload, 1) := by decide +kernel
theorem dm_nest_35 : mj_dec prog_14_method_38_code 35 = some (.iload_n 3, 1) := by decide +kernel
theorem dm_nest_36 : mj_dec prog_14_method_38_code 36 = some (.iadd, 1) := by decide +kernel
theorem dm_nest_37 : mj_dec prog_14_method_38_code 37 = some (.aload_n 0, 1) := by decide +kernel
theorem dm_nest_38 : mj_dec prog_14_method_38_code 38 = some (.getfield 30, 3) := by decide +kernel
theorem dm_nest_41 : mj_dec prog_14_method_38_code 41 = some (.iload_n 1, 1) := by decide +kernel
theorem dm_nest_42 : mj_dec prog_14_method_38_code 42 = some (.iload_n 3, 1) := by decide +kernel
theorem dm_nest_43 : mj_dec prog_14_method_38_code 43 = some (.iadd, 1) := by decide +kernel
theorem dm_nest_44 : mj_dec prog_14_method_38_code 44 = some (.iaload, 1) := by decide +kernel
theorem dm_nest_45 : mj_dec prog_14_method_38_code 45 = some (.i2l, 1) := by decide +kernel
theorem dm_nest_46 : mj_dec prog_14_method_38_code 46 = some (.lastore, 1) := by decide +kernel
theorem dm_nest_47 : mj_dec prog_14_method_38_code 47 = some (.iinc 3 1, 3) := by decide +kernel
theorem dm_nest_50 : mj_dec prog_14_method_38_code 50 = some (.goto (-35), 3) := by decide +kernel
theorem dm_nest_53 : mj_dec prog_14_method_38_code 53 = some (.aload_n 0, 1) := by decide +kernel
theorem dm_nest_54 : mj_dec prog_14_method_38_code 54 = some (.iload_n 1, 1) := by decide +kernel
theorem dm_nest_55 : mj_dec prog_14_method_38_code 55 = some (.putfield 202, 3) := by decide +kernel
theorem dm_nest_58 : mj_dec prog_14_method_38_code 58 = some (.iload_n 2, 1) := by decide +kernel
theorem dm_nest_59 : mj_dec prog_14_method_38_code 59 = some (.ireturn, 1) := by decide +kernel
def lp_nest : Nat → Nat → (Nat → Int32) → (Nat → Int64) → (Nat → Nat → Int32) → (Nat → Nat → Int64) → (Nat → Int32) → (Nat → Int64) → Int32 × (Nat → Int32) × (Nat → Int64) × (Nat → Nat → Int32) × (Nat → Nat → Int64)
  | 0, _, i, l, I, J, _, _ => (0, i, l, I, J)
  | n + 1, hd, i, l, I, J, v, w => match hd with
    | 15 => (if mj_cnd .ge (v 3) ((i 13) - (v 1)) = true then ((v 2), (upd i 13 (v 1)), l, I, J) else lp_nest n 47 i l I (va_up J 0 (vp_updL (J 0) (((I 1 ((v 2)).toNatClampNeg) + (v 3))).toNatClampNeg ((I 12 (((v 1) + (v 3))).toNatClampNeg)).toInt64)) v w)
    | 47 => lp_nest n 15 i l I J (upd v 3 ((v 3) + Int32.ofInt (1))) w
    | _ => (0, i, l, I, J)
theorem lb_nest_15 (n : Nat) (i : Nat → Int32) (l : Nat → Int64) (I : Nat → Nat → Int32) (J : Nat → Nat → Int64) (v : Nat → Int32) (w : Nat → Int64) : lp_nest (n + 1) 15 i l I J v w = (if mj_cnd .ge (v 3) ((i 13) - (v 1)) = true then ((v 2), (upd i 13 (v 1)), l, I, J) else lp_nest n 47 i l I (va_up J 0 (vp_updL (J 0) (((I 1 ((v 2)).toNatClampNeg) + (v 3))).toNatClampNeg ((I 12 (((v 1) + (v 3))).toNatClampNeg)).toInt64)) v w) := rfl
theorem lb_nest_47 (n : Nat) (i : Nat → Int32) (l : Nat → Int64) (I : Nat → Nat → Int32) (J : Nat → Nat → Int64) (v : Nat → Int32) (w : Nat → Int64) : lp_nest (n + 1) 47 i l I J v w = lp_nest n 15 i l I J (upd v 3 ((v 3) + Int32.ofInt (1))) w := rfl
def okl_nest : Nat → Nat → (Nat → Int32) → (Nat → Int64) → (Nat → Nat → Int32) → (Nat → Nat → Int64) → (Nat → Int32) → (Nat → Int64) → Prop
  | 0, _, _, _, _, _, _, _ => False
  | n + 1, hd, i, l, I, J, v, w => match hd with
    | 15 => (if mj_cnd .ge (v 3) ((i 13) - (v 1)) = true then True else (¬ ((v 2) < 0 ∨ 310000 ≤ ((v 2)).toNatClampNeg) ∧ (¬ (((v 1) + (v 3)) < 0 ∨ 8192 ≤ (((v 1) + (v 3))).toNatClampNeg) ∧ (¬ (((I 1 ((v 2)).toNatClampNeg) + (v 3)) < 0 ∨ 820000 ≤ (((I 1 ((v 2)).toNatClampNeg) + (v 3))).toNatClampNeg) ∧ okl_nest n 47 i l I (va_up J 0 (vp_updL (J 0) (((I 1 ((v 2)).toNatClampNeg) + (v 3))).toNatClampNeg ((I 12 (((v 1) + (v 3))).toNatClampNeg)).toInt64)) v w))))
    | 47 => okl_nest n 15 i l I J (upd v 3 ((v 3) + Int32.ofInt (1))) w
    | _ => False
def s_nest (n : Nat) (i : Nat → Int32) (l : Nat → Int64) (I : Nat → Nat → Int32) (J : Nat → Nat → Int64) (p0 : Int32) : Int32 × (Nat → Int32) × (Nat → Int64) × (Nat → Nat → Int32) × (Nat → Nat → Int64) := lp_nest n 15 (si_row i l I J (7 : Int32) ((i 13) - p0)) l (sI_row i l I J (7 : Int32) ((i 13) - p0)) J (upd (upd (upd (fun _ => 0) 1 p0) 2 (a_row i l I J (7 : Int32) ((i 13) - p0))) 3 (0 : Int32)) (fun _ => 0)
def ok_nest (n : Nat) (i : Nat → Int32) (l : Nat → Int64) (I : Nat → Nat → Int32) (J : Nat → Nat → Int64) (p0 : Int32) : Prop := (ok_row i l I J (7 : Int32) ((i 13) - p0) ∧ okl_nest n 15 (si_row i l I J (7 : Int32) ((i 13) - p0)) l (sI_row i l I J (7 : Int32) ((i 13) - p0)) J (upd (upd (upd (fun _ => 0) 1 p0) 2 (a_row i l I J (7 : Int32) ((i 13) - p0))) 3 (0 : Int32)) (fun _ => 0))
set_option maxRecDepth 20000 in
theorem ql_nest {xt : mj_X} {pre post : mj_H} {m : Nat} {d : Nat} (hm : pre.length = m) (h2 : 2 ≤ m) : ∀ n : Nat, (∀ i l I J v w, okl_nest n 15 i l I J v w → mjR (fun N => mj_call (mj_mmof pg_ms) (mj_TTof pg_TL) xt pg_tl 2 (d + 3) N) (mj_TTof pg_TL 12).1 (mj_TTof pg_TL 12).2 xt pg_tl 2 4 (d + 3) false (Option.some Jvm.ClassFile.FieldType.int) (mj_dec prog_14_method_38_code) 15 [(0, .ref m), (1, .int (v 1)), (2, .int (v 2)), (3, .int (v 3))] [] (rH pre post m i l I J) (some (.int (lp_nest n 15 i l I J v w).1)) (rH pre post m (lp_nest n 15 i l I J v w).2.1 (lp_nest n 15 i l I J v w).2.2.1 (lp_nest n 15 i l I J v w).2.2.2.1 (lp_nest n 15 i l I J v w).2.2.2.2)) ∧ (∀ i l I J v w, okl_nest n 47 i l I J v w → mjR (fun N => mj_call (mj_mmof pg_ms) (mj_TTof pg_TL) xt pg_tl 2 (d + 3) N) (mj_TTof pg_TL 12).1 (mj_TTof pg_TL 12).2 xt pg_tl 2 4 (d + 3) false (Option.some Jvm.ClassFile.FieldType.int) (mj_dec prog_14_method_38_code) 47 [(0, .ref m), (1, .int (v 1)), (2, .int (v 2)), (3, .int (v 3))] [] (rH pre post m i l I J) (some (.int (lp_nest n 47 i l I J v w).1)) (rH pre post m (lp_nest n 47 i l I J v w).2.1 (lp_nest n 47 i l I J v w).2.2.1 (lp_nest n 47 i l I J v w).2.2.2.1 (lp_nest n 47 i l I J v w).2.2.2.2)) := by
  intro n
  induction n with
  | zero => exact ⟨fun i l I J v w h => absurd h id, fun i l I J v w h => absurd h id⟩
  | succ n ih =>
    refine ⟨?_, ?_⟩
    · intro i l I J v w hok
      have hok : (if mj_cnd .ge (v 3) ((i 13) - (v 1)) = true then True else (¬ ((v 2) < 0 ∨ 310000 ≤ ((v 2)).toNatClampNeg) ∧ (¬ (((v 1) + (v 3)) < 0 ∨ 8192 ≤ (((v 1) + (v 3))).toNatClampNeg) ∧ (¬ (((I 1 ((v 2)).toNatClampNeg) + (v 3)) < 0 ∨ 820000 ≤ (((I 1 ((v 2)).toNatClampNeg) + (v 3))).toNatClampNeg) ∧ okl_nest n 47 i l I (va_up J 0 (vp_updL (J 0) (((I 1 ((v 2)).toNatClampNeg) + (v 3))).toNatClampNeg ((I 12 (((v 1) + (v 3))).toNatClampNeg)).toInt64)) v w)))) := hok
      refine ms1 dm_nest_15 rfl rfl rfl rfl ?_
      refine ms1 dm_nest_16 rfl rfl rfl rfl ?_
      refine ms3 dm_nest_17 (r_get (v := .int (i 13)) hm h2 rfl (rg_13 _ _ _)) rfl rfl rfl ?_
      refine ms1 dm_nest_20 rfl rfl rfl rfl ?_
      refine ms0 dm_nest_21 rfl rfl rfl rfl ?_
      refine ms_2c dm_nest_22 rfl rfl (fun hb1 => ?_) (fun hb1 => ?_)
      · have hb1 : mj_cnd .ge (v 3) ((i 13) - (v 1)) = true := hb1
        rw [if_pos hb1] at hok
        refine ms1 dm_nest_53 rfl rfl rfl rfl ?_
        refine ms1 dm_nest_54 rfl rfl rfl rfl ?_
        refine ms3 dm_nest_55 (r_puti hm h2 rfl (rF_lt 13 rfl) (rf_13 _ _ _ _)) rfl rfl rfl ?_
        refine ms1 dm_nest_58 rfl rfl rfl rfl ?_
        have he : lp_nest (n + 1) 15 i l I J v w = ((v 2), (upd i 13 (v 1)), l, I, J) := by
          rw [lb_nest_15]
          simp only [hb1, Bool.false_eq_true, if_true, if_false]
        rw [he]
        exact ms5 dm_nest_59 rfl rfl rfl
      · have hb1 : ¬ (mj_cnd .ge (v 3) ((i 13) - (v 1)) = true) := hb1
        rw [if_neg hb1] at hok
        refine ms1 dm_nest_25 rfl rfl rfl rfl ?_
        refine ms3 dm_nest_26 (r_get hm h2 rfl (rg_0 _ _ _)) rfl rfl rfl ?_
        refine ms1 dm_nest_29 rfl rfl rfl rfl ?_
        refine ms3 dm_nest_30 (r_get hm h2 rfl (rg_1 _ _ _)) rfl rfl rfl ?_
        refine ms1 dm_nest_33 rfl rfl rfl rfl ?_
        obtain ⟨ho, hok⟩ := hok
        refine ms3 dm_nest_34 (r_iald hm h2 (rc_1 _ _ _ _ _) rfl ho) rfl rfl rfl ?_
        refine ms1 dm_nest_35 rfl rfl rfl rfl ?_
        refine ms0 dm_nest_36 rfl rfl rfl rfl ?_
        refine ms1 dm_nest_37 rfl rfl rfl rfl ?_
        refine ms3 dm_nest_38 (r_get hm h2 rfl (rg_12 _ _ _)) rfl rfl rfl ?_
        refine ms1 dm_nest_41 rfl rfl rfl rfl ?_
        refine ms1 dm_nest_42 rfl rfl rfl rfl ?_
        refine ms0 dm_nest_43 rfl rfl rfl rfl ?_
        obtain ⟨ho, hok⟩ := hok
        refine ms3 dm_nest_44 (r_iald hm h2 (rc_12 _ _ _ _ _) rfl ho) rfl rfl rfl ?_
        refine ms0 dm_nest_45 rfl rfl rfl rfl ?_
        obtain ⟨ho, hok⟩ := hok
        refine ms3 dm_nest_46 (r_lastk (k := 0) hm h2 (rc_0 _ _ _ _ _) rfl ho (rs_0 _ _ _ _ _ _)) rfl rfl rfl ?_
        have he : lp_nest (n + 1) 15 i l I J v w = lp_nest n 47 i l I (va_up J 0 (vp_updL (J 0) (((I 1 ((v 2)).toNatClampNeg) + (v 3))).toNatClampNeg ((I 12 (((v 1) + (v 3))).toNatClampNeg)).toInt64)) v w := by
          rw [lb_nest_15]
          simp only [hb1, Bool.false_eq_true, if_true, if_false]
        rw [he]
        exact mjR_sub rfl rfl rfl (ih.2 _ _ _ _ _ _ hok)
    · intro i l I J v w hok
      have hok : okl_nest n 15 i l I J (upd v 3 ((v 3) + Int32.ofInt (1))) w := hok
      refine ms1 dm_nest_47 rfl rfl rfl rfl ?_
      refine ms2 dm_nest_50 rfl rfl rfl ?_
      have he : lp_nest (n + 1) 47 i l I J v w = lp_nest n 15 i l I J (upd v 3 ((v 3) + Int32.ofInt (1))) w := by
        rw [lb_nest_47]
      rw [he]
      exact mjR_sub rfl rfl rfl (ih.1 _ _ _ _ _ _ hok)
set_option maxRecDepth 20000 in
theorem q_nest {xt : mj_X} {pre post : mj_H} {m : Nat} {i : Nat → Int32} {l : Nat → Int64} {I : Nat → Nat → Int32} {J : Nat → Nat → Int64} {d : Nat} (hm : pre.length = m) (h2 : 2 ≤ m) {p0 : Int32} {n : Nat} (hok : ok_nest n i l I J p0) : pgC xt (d + 4) k_nest (.ref m :: [.int p0]) (rH pre post m i l I J) (some (.int (s_nest n i l I J p0).1)) (rH pre post m (s_nest n i l I J p0).2.1 (s_nest n i l I J p0).2.2.1 (s_nest n i l I J p0).2.2.2.1 (s_nest n i l I J p0).2.2.2.2) := by
  unfold ok_nest at hok
  refine ms_call pm_nest (Nat.le_of_ble_eq_true rfl) ?_
  dsimp only
  refine ms1 dm_nest_0 rfl rfl rfl rfl ?_
  refine ms0 (S' := .int (7 : Int32) :: _) dm_nest_1 rfl rfl rfl rfl ?_
  refine ms1 dm_nest_3 rfl rfl rfl rfl ?_
  refine ms3 dm_nest_4 (r_get (v := .int (i 13)) hm h2 rfl (rg_13 _ _ _)) rfl rfl rfl ?_
  refine ms1 dm_nest_7 rfl rfl rfl rfl ?_
  refine ms0 dm_nest_8 rfl rfl rfl rfl ?_
  obtain ⟨ho, hok⟩ := hok
  refine ms4 dm_nest_9 rfl (r_inv (As := [.int (7 : Int32), .int ((i 13) - p0)]) hm h2 rfl rfl rfl) (q_row hm h2 ho) rfl rfl rfl ?_
  refine ms1 dm_nest_12 rfl rfl rfl rfl ?_
  refine ms0 (S' := .int (0 : Int32) :: _) dm_nest_13 rfl rfl rfl rfl ?_
  refine ms1 dm_nest_14 rfl rfl rfl rfl ?_
  have he : s_nest n i l I J p0 = lp_nest n 15 (si_row i l I J (7 : Int32) ((i 13) - p0)) l (sI_row i l I J (7 : Int32) ((i 13) - p0)) J (upd (upd (upd (fun _ => 0) 1 p0) 2 (a_row i l I J (7 : Int32) ((i 13) - p0))) 3 (0 : Int32)) (fun _ => 0) := by
    unfold s_nest
    rfl
  rw [he]
  exact mjR_sub rfl rfl rfl ((ql_nest hm h2 n).1 _ _ _ _ _ _ hok)
def k_picked : Nat := 262
set_option maxRecDepth 20000 in
theorem pm_picked : mj_mmof pg_ms k_picked = some ((⟨"ArrayCalculatorModel", "picked", "(II)I"⟩, prog_14_method_34_code, 7, (Option.some Jvm.ClassFile.FieldType.int)), 12, false, mj_dec prog_14_method_34_code) := rfl
theorem dm_picked_0 : mj_dec prog_14_method_34_code 0 = some (.aload_n 0, 1) := by decide +kernel
theorem dm_picked_1 : mj_dec prog_14_method_34_code 1 = some (.iload_n 1, 1) := by decide +kernel
theorem dm_picked_2 : mj_dec prog_14_method_34_code 2 = some (.invokevirtual 146, 3) := by decide +kernel
theorem dm_picked_5 : mj_dec prog_14_method_34_code 5 = some (.istore_n 3, 1) := by decide +kernel
theorem dm_picked_6 : mj_dec prog_14_method_34_code 6 = some (.iload_n 3, 1) := by decide +kernel
theorem dm_picked_7 : mj_dec prog_14_method_34_code 7 = some (.bipush 6, 2) := by decide +kernel
theorem dm_picked_9 : mj_dec prog_14_method_34_code 9 = some (.if_icmp .ne 79, 3) := by decide +kernel
theorem dm_picked_12 : mj_dec prog_14_method_34_code 12 = some (.aload_n 0, 1) := by decide +kernel
theorem dm_picked_13 : mj_dec prog_14_method_34_code 13 = some (.iload_n 1, 1) := by decide +kernel
theorem dm_picked_14 : mj_dec prog_14_method_34_code 14 = some (.invokevirtual 156, 3) := by decide +kernel
theorem dm_picked_17 : mj_dec prog_14_method_34_code 17 = some (.istore 4, 2) := by decide +kernel
theorem dm_picked_19 : mj_dec prog_14_method_34_code 19 = some (.aload_n 0, 1) := by decide +kernel
theorem dm_picked_20 : mj_dec prog_14_method_34_code 20 = some (.iload_n 2, 1) := by decide +kernel
theorem dm_picked_21 : mj_dec prog_14_method_34_code 21 = some (.iload 4, 2) := by decide +kernel
theorem dm_picked_23 : mj_dec prog_14_method_34_code 23 = some (.invokevirtual 255, 3) := by decide +kernel
theorem dm_picked_26 : mj_dec prog_14_method_34_code 26 = some (.istore 5, 2) := by decide +kernel
theorem dm_picked_28 : mj_dec prog_14_method_34_code 28 = some (.iconst 0, 1) := by decide +kernel
theorem dm_picked_29 : mj_dec prog_14_method_34_code 29 = some (.istore 6, 2) := by decide +kernel
theorem dm_picked_31 : mj_dec prog_14_method_34_code 31 = some (.iload 6, 2) := by decide +kernel
theorem dm_picked_33 : mj_dec prog_14_method_34_code 33 = some (.iload_n 2, 1) := by decide +kernel
theorem dm_picked_34 : mj_dec prog_14_method_34_code 34 = some (.iload 4, 2) := by decide +kernel
theorem dm_picked_36 : mj_dec prog_14_method_34_code 36 = some (.imul, 1) := by decide +kernel
theorem dm_picked_37 : mj_dec prog_14_method_34_code 37 = some (.if_icmp .ge 48, 3) := by decide +kernel
theorem dm_picked_40 : mj_dec prog_14_method_34_code 40 = some (.aload_n 0, 1) := by decide +kernel
theorem dm_picked_41 : mj_dec prog_14_method_34_code 41 = some (.getfield 8, 3) := by decide +kernel
theorem dm_picked_44 : mj_dec prog_14_method_34_code 44 = some (.aload_n 0, 1) := by decide +kernel
theorem dm_picked_45 : mj_dec prog_14_method_34_code 45 = some (.getfield 15, 3) := by decide +kernel
theorem dm_picked_48 : mj_dec prog_14_method_34_code 48 = some (.iload 5, 2) := by decide +kernel
theorem dm_picked_50 : mj_dec prog_14_method_34_code 50 = some (.iaload, 1) := by decide +kernel
theorem dm_picked_51 : mj_dec prog_14_method_34_code 51 = some (.iload 6, 2) := by decide +kernel
theorem dm_picked_53 : mj_dec prog_14_method_34_code 53 = some (.iadd, 1) := by decide +kernel
theorem dm_picked_54 : mj_dec prog_14_method_34_code 54 = some (.aload_n 0, 1) := by decide +kernel
theorem dm_picked_55 : mj_dec prog_14_method_34_code 55 = some (.iload_n 1, 1) := by decide +kernel
theorem dm_picked_56 : mj_dec prog_14_method_34_code 56 = some (.aload_n 0, 1) := by decide +kernel
theorem dm_picked_57 : mj_dec prog_14_method_34_code 57 = some (.getfield 33, 3) := by decide +kernel
theorem dm_picked_60 : mj_dec prog_14_method_34_code 60 = some (.iload 6, 2) := by decide +kernel
theorem dm_picked_62 : mj_dec prog_14_method_34_code 62 = some (.iload 4, 2) := by decide +kernel
theorem dm_picked_64 : mj_dec prog_14_method_34_code 64 = some (.idiv, 1) := by decide +kernel
theorem dm_picked_65 : mj_dec prog_14_method_34_code 65 = some (.iaload, 1) := by decide +kernel
theorem dm_picked_66 : mj_dec prog_14_method_34_code 66 = some (.iload 4, 2) := by decide +kernel
theorem dm_picked_68 : mj_dec prog_14_method_34_code 68 = some (.imul, 1) := by decide +kernel
theorem dm_picked_69 : mj_dec prog_14_method_34_code 69 = some (.iload 6, 2) := by decide +kernel
theorem dm_picked_71 : mj_dec prog_14_method_34_code 71 = some (.iload 4, 2) := by decide +kernel
theorem dm_picked_73 : mj_dec prog_14_method_34_code 73 = some (.irem, 1) := by decide +kernel
theorem dm_picked_74 : mj_dec prog_14_method_34_code 74 = some (.iadd, 1) := by decide +kernel
theorem dm_picked_75 : mj_dec prog_14_method_34_code 75 = some (.invokevirtual 138, 3) := by decide +kernel
theorem dm_picked_78 : mj_dec prog_14_method_34_code 78 = some (.lastore, 1) := by decide +kernel
theorem dm_picked_79 : mj_dec prog_14_method_34_code 79 = some (.iinc 6 1, 3) := by decide +kernel
theorem dm_picked_82 : mj_dec prog_14_method_34_code 82 = some (.goto (-51), 3) := by decide +kernel
theorem dm_picked_85 : mj_dec prog_14_method_34_code 85 = some (.iload 5, 2) := by decide +kernel
theorem dm_picked_87 : mj_dec prog_14_method_34_code 87 = some (.ireturn, 1) := by decide +kernel
theorem dm_picked_88 : mj_dec prog_14_method_34_code 88 = some (.aload_n 0, 1) := by decide +kernel
theorem dm_picked_89 : mj_dec prog_14_method_34_code 89 = some (.iload_n 3, 1) := by decide +kernel
theorem dm_picked_90 : mj_dec prog_14_method_34_code 90 = some (.ifCond .ne 23, 3) := by decide +kernel
theorem dm_picked_93 : mj_dec prog_14_method_34_code 93 = some (.aload_n 0, 1) := by decide +kernel
theorem dm_picked_94 : mj_dec prog_14_method_34_code 94 = some (.iload_n 1, 1) := by decide +kernel
theorem dm_picked_95 : mj_dec prog_14_method_34_code 95 = some (.iconst 0, 1) := by decide +kernel
theorem dm_picked_96 : mj_dec prog_14_method_34_code 96 = some (.invokevirtual 138, 3) := by decide +kernel
theorem dm_picked_99 : mj_dec prog_14_method_34_code 99 = some (.invokestatic 142, 3) := by decide +kernel
theorem dm_picked_102 : mj_dec prog_14_method_34_code 102 = some (.ifCond .eq 7, 3) := by decide +kernel
theorem dm_picked_105 : mj_dec prog_14_method_34_code 105 = some (.iconst 4, 1) := by decide +kernel
theorem dm_picked_106 : mj_dec prog_14_method_34_code 106 = some (.goto 17, 3) := by decide +kernel
theorem dm_picked_109 : mj_dec prog_14_method_34_code 109 = some (.iconst 5, 1) := by decide +kernel
theorem dm_picked_110 : mj_dec prog_14_method_34_code 110 = some (.goto 13, 3) := by decide +kernel
theorem dm_picked_113 : mj_dec prog_14_method_34_code 113 = some (.iload_n 3, 1) := by decide +kernel
theorem dm_picked_114 : mj_dec prog_14_method_34_code 114 = some (.iconst 1, 1) := by decide +kernel
theorem dm_picked_115 : mj_dec prog_14_method_34_code 115 = some (.if_icmp .ne 7, 3) := by decide +kernel
theorem dm_picked_118 : mj_dec prog_14_method_34_code 118 = some (.iconst 3, 1) := by decide +kernel
theorem dm_picked_119 : mj_dec prog_14_method_34_code 119 = some (.goto 4, 3) := by decide +kernel
theorem dm_picked_122 : mj_dec prog_14_method_34_code 122 = some (.iload_n 3, 1) := by decide +kernel
theorem dm_picked_123 : mj_dec prog_14_method_34_code 123 = some (.iload_n 2, 1) := by decide +kernel
theorem dm_picked_124 : mj_dec prog_14_method_34_code 124 = some (.invokevirtual 126, 3) := by decide +kernel
theorem dm_picked_127 : mj_dec prog_14_method_34_code 127 = some (.istore 4, 2) := by decide +kernel
theorem dm_picked_129 : mj_dec prog_14_method_34_code 129 = some (.iconst 0, 1) := by decide +kernel
theorem dm_picked_130 : mj_dec prog_14_method_34_code 130 = some (.istore 5, 2) := by decide +kernel
theorem dm_picked_132 : mj_dec prog_14_method_34_code 132 = some (.iload 5, 2) := by decide +kernel
theorem dm_picked_134 : mj_dec prog_14_method_34_code 134 = some (.iload_n 2, 1) := by decide +kernel
theorem dm_picked_135 : mj_dec prog_14_method_34_code 135 = some (.if_icmp .ge 36, 3) := by decide +kernel
theorem dm_picked_138 : mj_dec prog_14_method_34_code 138 = some (.aload_n 0, 1) := by decide +kernel
theorem dm_picked_139 : mj_dec prog_14_method_34_code 139 = some (.getfield 8, 3) := by decide +kernel
theorem dm_picked_142 : mj_dec prog_14_method_34_code 142 = some (.aload_n 0, 1) := by decide +kernel
theorem dm_picked_143 : mj_dec prog_14_method_34_code 143 = some (.getfield 15, 3) := by decide +kernel
theorem dm_picked_146 : mj_dec prog_14_method_34_code 146 = some (.iload 4, 2) := by decide +kernel
theorem dm_picked_148 : mj_dec prog_14_method_34_code 148 = some (.iaload, 1) := by decide +kernel
theorem dm_picked_149 : mj_dec prog_14_method_34_code 149 = some (.iload 5, 2) := by decide +kernel
theorem dm_picked_151 : mj_dec prog_14_method_34_code 151 = some (.iadd, 1) := by decide +kernel
theorem dm_picked_152 : mj_dec prog_14_method_34_code 152 = some (.aload_n 0, 1) := by decide +kernel
theorem dm_picked_153 : mj_dec prog_14_method_34_code 153 = some (.iload_n 1, 1) := by decide +kernel
theorem dm_picked_154 : mj_dec prog_14_method_34_code 154 = some (.aload_n 0, 1) := by decide +kernel
theorem dm_picked_155 : mj_dec prog_14_method_34_code 155 = some (.getfield 33, 3) := by decide +kernel
theorem dm_picked_158 : mj_dec prog_14_method_34_code 158 = some (.iload 5, 2) := by decide +kernel
theorem dm_picked_160 : mj_dec prog_14_method_34_code 160 = some (.iaload, 1) := by decide +kernel
theorem dm_picked_161 : mj_dec prog_14_method_34_code 161 = some (.invokevirtual 138, 3) := by decide +kernel
theorem dm_picked_164 : mj_dec prog_14_method_34_code 164 = some (.lastore, 1) := by decide +kernel
theorem dm_picked_165 : mj_dec prog_14_method_34_code 165 = some (.iinc 5 1, 3) := by decide +kernel
theorem dm_picked_168 : mj_dec prog_14_method_34_code 168 = some (.goto (-36), 3) := by decide +kernel
theorem dm_picked_171 : mj_dec prog_14_method_34_code 171 = some (.iload 4, 2) := by decide +kernel
theorem dm_picked_173 : mj_dec prog_14_method_34_code 173 = some (.ireturn, 1) := by decide +kernel
def lp_picked : Nat → Nat → (Nat → Int32) → (Nat → Int64) → (Nat → Nat → Int32) → (Nat → Nat → Int64) → (Nat → Int32) → (Nat → Int64) → Int32 × (Nat → Int32) × (Nat → Int64) × (Nat → Nat → Int32) × (Nat → Nat → Int64)
  | 0, _, i, l, I, J, _, _ => (0, i, l, I, J)
  | n + 1, hd, i, l, I, J, v, w => match hd with
    | 31 => (if mj_cnd .ge (v 6) ((v 2) * (v 4)) = true then ((v 5), i, l, I, J) else lp_picked n 79 i l I (va_up J 0 (vp_updL (J 0) (((I 1 ((v 5)).toNatClampNeg) + (v 6))).toNatClampNeg (a_number i l I J (v 1) (((I 14 (((v 6) / (v 4))).toNatClampNeg) * (v 4)) + ((v 6) - (v 6) / (v 4) * (v 4)))))) v w)
    | 79 => lp_picked n 31 i l I J (upd v 6 ((v 6) + Int32.ofInt (1))) w
    | 132 => (if mj_cnd .ge (v 5) (v 2) = true then ((v 4), i, l, I, J) else lp_picked n 165 i l I (va_up J 0 (vp_updL (J 0) (((I 1 ((v 4)).toNatClampNeg) + (v 5))).toNatClampNeg (a_number i l I J (v 1) (I 14 ((v 5)).toNatClampNeg)))) v w)
    | 165 => lp_picked n 132 i l I J (upd v 5 ((v 5) + Int32.ofInt (1))) w
    | _ => (0, i, l, I, J)
theorem lb_picked_31 (n : Nat) (i : Nat → Int32) (l : Nat → Int64) (I : Nat → Nat → Int32) (J : Nat → Nat → Int64) (v : Nat → Int32) (w : Nat → Int64) : lp_picked (n + 1) 31 i l I J v w = (if mj_cnd .ge (v 6) ((v 2) * (v 4)) = true then ((v 5), i, l, I, J) else lp_picked n 79 i l I (va_up J 0 (vp_updL (J 0) (((I 1 ((v 5)).toNatClampNeg) + (v 6))).toNatClampNeg (a_number i l I J (v 1) (((I 14 (((v 6) / (v 4))).toNatClampNeg) * (v 4)) + ((v 6) - (v 6) / (v 4) * (v 4)))))) v w) := rfl
theorem lb_picked_79 (n : Nat) (i : Nat → Int32) (l : Nat → Int64) (I : Nat → Nat → Int32) (J : Nat → Nat → Int64) (v : Nat → Int32) (w : Nat → Int64) : lp_picked (n + 1) 79 i l I J v w = lp_picked n 31 i l I J (upd v 6 ((v 6) + Int32.ofInt (1))) w := rfl
theorem lb_picked_132 (n : Nat) (i : Nat → Int32) (l : Nat → Int64) (I : Nat → Nat → Int32) (J : Nat → Nat → Int64) (v : Nat → Int32) (w : Nat → Int64) : lp_picked (n + 1) 132 i l I J v w = (if mj_cnd .ge (v 5) (v 2) = true then ((v 4), i, l, I, J) else lp_picked n 165 i l I (va_up J 0 (vp_updL (J 0) (((I 1 ((v 4)).toNatClampNeg) + (v 5))).toNatClampNeg (a_number i l I J (v 1) (I 14 ((v 5)).toNatClampNeg)))) v w) := rfl
theorem lb_picked_165 (n : Nat) (i : Nat → Int32) (l : Nat → Int64) (I : Nat → Nat → Int32) (J : Nat → Nat → Int64) (v : Nat → Int32) (w : Nat → Int64) : lp_picked (n + 1) 165 i l I J v w = lp_picked n 132 i l I J (upd v 5 ((v 5) + Int32.ofInt (1))) w := rfl
def okl_picked : Nat → Nat → (Nat → Int32) → (Nat → Int64) → (Nat → Nat → Int32) → (Nat → Nat → Int64) → (Nat → Int32) → (Nat → Int64) → Prop
  | 0, _, _, _, _, _, _, _ => False
  | n + 1, hd, i, l, I, J, v, w => match hd with
    | 31 => (if mj_cnd .ge (v 6) ((v 2) * (v 4)) = true then True else (¬ ((v 5) < 0 ∨ 310000 ≤ ((v 5)).toNatClampNeg) ∧ (¬ ((v 4) = 0) ∧ (¬ (((v 6) / (v 4)) < 0 ∨ 260 ≤ (((v 6) / (v 4))).toNatClampNeg) ∧ (¬ ((v 4) = 0) ∧ (ok_number i l I J (v 1) (((I 14 (((v 6) / (v 4))).toNatClampNeg) * (v 4)) + ((v 6) - (v 6) / (v 4) * (v 4))) ∧ (¬ (((I 1 ((v 5)).toNatClampNeg) + (v 6)) < 0 ∨ 820000 ≤ (((I 1 ((v 5)).toNatClampNeg) + (v 6))).toNatClampNeg) ∧ okl_picked n 79 i l I (va_up J 0 (vp_updL (J 0) (((I 1 ((v 5)).toNatClampNeg) + (v 6))).toNatClampNeg (a_number i l I J (v 1) (((I 14 (((v 6) / (v 4))).toNatClampNeg) * (v 4)) + ((v 6) - (v 6) / (v 4) * (v 4)))))) v w)))))))
    | 79 => okl_picked n 31 i l I J (upd v 6 ((v 6) + Int32.ofInt (1))) w
    | 132 => (if mj_cnd .ge (v 5) (v 2) = true then True else (¬ ((v 4) < 0 ∨ 310000 ≤ ((v 4)).toNatClampNeg) ∧ (¬ ((v 5) < 0 ∨ 260 ≤ ((v 5)).toNatClampNeg) ∧ (ok_number i l I J (v 1) (I 14 ((v 5)).toNatClampNeg) ∧ (¬ (((I 1 ((v 4)).toNatClampNeg) + (v 5)) < 0 ∨ 820000 ≤ (((I 1 ((v 4)).toNatClampNeg) + (v 5))).toNatClampNeg) ∧ okl_picked n 165 i l I (va_up J 0 (vp_updL (J 0) (((I 1 ((v 4)).toNatClampNeg) + (v 5))).toNatClampNeg (a_number i l I J (v 1) (I 14 ((v 5)).toNatClampNeg)))) v w)))))
    | 165 => okl_picked n 132 i l I J (upd v 5 ((v 5) + Int32.ofInt (1))) w
    | _ => False
def s_picked (n : Nat) (i : Nat → Int32) (l : Nat → Int64) (I : Nat → Nat → Int32) (J : Nat → Nat → Int64) (p0 : Int32) (p1 : Int32) : Int32 × (Nat → Int32) × (Nat → Int64) × (Nat → Nat → Int32) × (Nat → Nat → Int64) := (if mj_cnd .ne (a_kindOf i l I J p0) (6 : Int32) = true then (if mj_cnd .ne (a_kindOf i l I J p0) (0 : Int32) = true then (if mj_cnd .ne (a_kindOf i l I J p0) (1 : Int32) = true then lp_picked n 132 (si_row i l I J (a_kindOf i l I J p0) p1) l (sI_row i l I J (a_kindOf i l I J p0) p1) J (upd (upd (upd (upd (fun _ => 0) 1 p0) 2 p1) 4 (a_row i l I J (a_kindOf i l I J p0) p1)) 5 (0 : Int32)) (fun _ => 0) else lp_picked n 132 (si_row i l I J (3 : Int32) p1) l (sI_row i l I J (3 : Int32) p1) J (upd (upd (upd (upd (fun _ => 0) 1 p0) 2 p1) 4 (a_row i l I J (3 : Int32) p1)) 5 (0 : Int32)) (fun _ => 0)) else (if mj_cnd .eq (a_fits i l I J (a_number i l I J p0 (0 : Int32))) (0 : Int32) = true then lp_picked n 132 (si_row i l I J (5 : Int32) p1) l (sI_row i l I J (5 : Int32) p1) J (upd (upd (upd (upd (fun _ => 0) 1 p0) 2 p1) 4 (a_row i l I J (5 : Int32) p1)) 5 (0 : Int32)) (fun _ => 0) else lp_picked n 132 (si_row i l I J (4 : Int32) p1) l (sI_row i l I J (4 : Int32) p1) J (upd (upd (upd (upd (fun _ => 0) 1 p0) 2 p1) 4 (a_row i l I J (4 : Int32) p1)) 5 (0 : Int32)) (fun _ => 0))) else lp_picked n 31 (si_table i l I J p1 (a_columns i l I J p0)) l (sI_table i l I J p1 (a_columns i l I J p0)) J (upd (upd (upd (upd (upd (fun _ => 0) 1 p0) 2 p1) 4 (a_columns i l I J p0)) 5 (a_table i l I J p1 (a_columns i l I J p0))) 6 (0 : Int32)) (fun _ => 0))
def ok_picked (n : Nat) (i : Nat → Int32) (l : Nat → Int64) (I : Nat → Nat → Int32) (J : Nat → Nat → Int64) (p0 : Int32) (p1 : Int32) : Prop := (ok_kindOf i l I J p0 ∧ (if mj_cnd .ne (a_kindOf i l I J p0) (6 : Int32) = true then (if mj_cnd .ne (a_kindOf i l I J p0) (0 : Int32) = true then (if mj_cnd .ne (a_kindOf i l I J p0) (1 : Int32) = true then (ok_row i l I J (a_kindOf i l I J p0) p1 ∧ okl_picked n 132 (si_row i l I J (a_kindOf i l I J p0) p1) l (sI_row i l I J (a_kindOf i l I J p0) p1) J (upd (upd (upd (upd (fun _ => 0) 1 p0) 2 p1) 4 (a_row i l I J (a_kindOf i l I J p0) p1)) 5 (0 : Int32)) (fun _ => 0)) else (ok_row i l I J (3 : Int32) p1 ∧ okl_picked n 132 (si_row i l I J (3 : Int32) p1) l (sI_row i l I J (3 : Int32) p1) J (upd (upd (upd (upd (fun _ => 0) 1 p0) 2 p1) 4 (a_row i l I J (3 : Int32) p1)) 5 (0 : Int32)) (fun _ => 0))) else (ok_number i l I J p0 (0 : Int32) ∧ (ok_fits i l I J (a_number i l I J p0 (0 : Int32)) ∧ (if mj_cnd .eq (a_fits i l I J (a_number i l I J p0 (0 : Int32))) (0 : Int32) = true then (ok_row i l I J (5 : Int32) p1 ∧ okl_picked n 132 (si_row i l I J (5 : Int32) p1) l (sI_row i l I J (5 : Int32) p1) J (upd (upd (upd (upd (fun _ => 0) 1 p0) 2 p1) 4 (a_row i l I J (5 : Int32) p1)) 5 (0 : Int32)) (fun _ => 0)) else (ok_row i l I J (4 : Int32) p1 ∧ okl_picked n 132 (si_row i l I J (4 : Int32) p1) l (sI_row i l I J (4 : Int32) p1) J (upd (upd (upd (upd (fun _ => 0) 1 p0) 2 p1) 4 (a_row i l I J (4 : Int32) p1)) 5 (0 : Int32)) (fun _ => 0)))))) else (ok_columns i l I J p0 ∧ (ok_table i l I J p1 (a_columns i l I J p0) ∧ okl_picked n 31 (si_table i l I J p1 (a_columns i l I J p0)) l (sI_table i l I J p1 (a_columns i l I J p0)) J (upd (upd (upd (upd (upd (fun _ => 0) 1 p0) 2 p1) 4 (a_columns i l I J p0)) 5 (a_table i l I J p1 (a_columns i l I J p0))) 6 (0 : Int32)) (fun _ => 0)))))
set_option maxRecDepth 20000 in
theorem ql_picked {xt : mj_X} {pre post : mj_H} {m : Nat} {d : Nat} (hm : pre.length = m) (h2 : 2 ≤ m) : ∀ n : Nat, (∀ i l I J v w, okl_picked n 31 i l I J v w → mjR (fun N => mj_call (mj_mmof pg_ms) (mj_TTof pg_TL) xt pg_tl 2 (d + 3) N) (mj_TTof pg_TL 12).1 (mj_TTof pg_TL 12).2 xt pg_tl 2 7 (d + 3) false (Option.some Jvm.ClassFile.FieldType.int) (mj_dec prog_14_method_34_code) 31 [(0, .ref m), (1, .int (v 1)), (2, .int (v 2)), (4, .int (v 4)), (5, .int (v 5)), (6, .int (v 6))] [] (rH pre post m i l I J) (some (.int (lp_picked n 31 i l I J v w).1)) (rH pre post m (lp_picked n 31 i l I J v w).2.1 (lp_picked n 31 i l I J v w).2.2.1 (lp_picked n 31 i l I J v w).2.2.2.1 (lp_picked n 31 i l I J v w).2.2.2.2)) ∧ (∀ i l I J v w, okl_picked n 79 i l I J v w → mjR (fun N => mj_call (mj_mmof pg_ms) (mj_TTof pg_TL) xt pg_tl 2 (d + 3) N) (mj_TTof pg_TL 12).1 (mj_TTof pg_TL 12).2 xt pg_tl 2 7 (d + 3) false (Option.some Jvm.ClassFile.FieldType.int) (mj_dec prog_14_method_34_code) 79 [(0, .ref m), (1, .int (v 1)), (2, .int (v 2)), (4, .int (v 4)), (5, .int (v 5)), (6, .int (v 6))] [] (rH pre post m i l I J) (some (.int (lp_picked n 79 i l I J v w).1)) (rH pre post m (lp_picked n 79 i l I J v w).2.1 (lp_picked n 79 i l I J v w).2.2.1 (lp_picked n 79 i l I J v w).2.2.2.1 (lp_picked n 79 i l I J v w).2.2.2.2)) ∧ (∀ i l I J v w, okl_picked n 132 i l I J v w → mjR (fun N => mj_call (mj_mmof pg_ms) (mj_TTof pg_TL) xt pg_tl 2 (d + 3) N) (mj_TTof pg_TL 12).1 (mj_TTof pg_TL 12).2 xt pg_tl 2 7 (d + 3) false (Option.some Jvm.ClassFile.FieldType.int) (mj_dec prog_14_method_34_code) 132 [(0, .ref m), (1, .int (v 1)), (2, .int (v 2)), (4, .int (v 4)), (5, .int (v 5))] [] (rH pre post m i l I J) (some (.int (lp_picked n 132 i l I J v w).1)) (rH pre post m (lp_picked n 132 i l I J v w).2.1 (lp_picked n 132 i l I J v w).2.2.1 (lp_picked n 132 i l I J v w).2.2.2.1 (lp_picked n 132 i l I J v w).2.2.2.2)) ∧ (∀ i l I J v w, okl_picked n 165 i l I J v w → mjR (fun N => mj_call (mj_mmof pg_ms) (mj_TTof pg_TL) xt pg_tl 2 (d + 3) N) (mj_TTof pg_TL 12).1 (mj_TTof pg_TL 12).2 xt pg_tl 2 7 (d + 3) false (Option.some Jvm.ClassFile.FieldType.int) (mj_dec prog_14_method_34_code) 165 [(0, .ref m), (1, .int (v 1)), (2, .int (v 2)), (4, .int (v 4)), (5, .int (v 5))] [] (rH pre post m i l I J) (some (.int (lp_picked n 165 i l I J v w).1)) (rH pre post m (lp_picked n 165 i l I J v w).2.1 (lp_picked n 165 i l I J v w).2.2.1 (lp_picked n 165 i l I J v w).2.2.2.1 (lp_picked n 165 i l I J v w).2.2.2.2)) := by
  intro n
  induction n with
  | zero => exact ⟨fun i l I J v w h => absurd h id, fun i l I J v w h => absurd h id, fun i l I J v w h => absurd h id, fun i l I J v w h => absurd h id⟩
  | succ n ih =>
    refine ⟨?_, ?_, ?_, ?_⟩
    · intro i l I J v w hok
      have hok : (if mj_cnd .ge (v 6) ((v 2) * (v 4)) = true then True else (¬ ((v 5) < 0 ∨ 310000 ≤ ((v 5)).toNatClampNeg) ∧ (¬ ((v 4) = 0) ∧ (¬ (((v 6) / (v 4)) < 0 ∨ 260 ≤ (((v 6) / (v 4))).toNatClampNeg) ∧ (¬ ((v 4) = 0) ∧ (ok_number i l I J (v 1) (((I 14 (((v 6) / (v 4))).toNatClampNeg) * (v 4)) + ((v 6) - (v 6) / (v 4) * (v 4))) ∧ (¬ (((I 1 ((v 5)).toNatClampNeg) + (v 6)) < 0 ∨ 820000 ≤ (((I 1 ((v 5)).toNatClampNeg) + (v 6))).toNatClampNeg) ∧ okl_picked n 79 i l I (va_up J 0 (vp_updL (J 0) (((I 1 ((v 5)).toNatClampNeg) + (v 6))).toNatClampNeg (a_number i l I J (v 1) (((I 14 (((v 6) / (v 4))).toNatClampNeg) * (v 4)) + ((v 6) - (v 6) / (v 4) * (v 4)))))) v w))))))) := hok
      refine ms1 dm_picked_31 rfl rfl rfl rfl ?_
      refine ms1 dm_picked_33 rfl rfl rfl rfl ?_
      refine ms1 dm_picked_34 rfl rfl rfl rfl ?_
      refine ms0 dm_picked_36 rfl rfl rfl rfl ?_
      refine ms_2c dm_picked_37 rfl rfl (fun hb1 => ?_) (fun hb1 => ?_)
      · have hb1 : mj_cnd .ge (v 6) ((v 2) * (v 4)) = true := hb1
        rw [if_pos hb1] at hok
        refine ms1 dm_picked_85 rfl rfl rfl rfl ?_
        have he : lp_picked (n + 1) 31 i l I J v w = ((v 5), i, l, I, J) := by
          rw [lb_picked_31]
          simp only [hb1, Bool.false_eq_true, if_true, if_false]
        rw [he]
        exact ms5 dm_picked_87 rfl rfl rfl
      · have hb1 : ¬ (mj_cnd .ge (v 6) ((v 2) * (v 4)) = true) := hb1
        rw [if_neg hb1] at hok
        refine ms1 dm_picked_40 rfl rfl rfl rfl ?_
        refine ms3 dm_picked_41 (r_get hm h2 rfl (rg_0 _ _ _)) rfl rfl rfl ?_
        refine ms1 dm_picked_44 rfl rfl rfl rfl ?_
        refine ms3 dm_picked_45 (r_get hm h2 rfl (rg_1 _ _ _)) rfl rfl rfl ?_
        refine ms1 dm_picked_48 rfl rfl rfl rfl ?_
        obtain ⟨ho, hok⟩ := hok
        refine ms3 dm_picked_50 (r_iald hm h2 (rc_1 _ _ _ _ _) rfl ho) rfl rfl rfl ?_
        refine ms1 dm_picked_51 rfl rfl rfl rfl ?_
        refine ms0 dm_picked_53 rfl rfl rfl rfl ?_
        refine ms1 dm_picked_54 rfl rfl rfl rfl ?_
        refine ms1 dm_picked_55 rfl rfl rfl rfl ?_
        refine ms1 dm_picked_56 rfl rfl rfl rfl ?_
        refine ms3 dm_picked_57 (r_get hm h2 rfl (rg_14 _ _ _)) rfl rfl rfl ?_
        refine ms1 dm_picked_60 rfl rfl rfl rfl ?_
        refine ms1 dm_picked_62 rfl rfl rfl rfl ?_
        obtain ⟨ho, hok⟩ := hok
        refine ms_idiv dm_picked_64 ho rfl ?_
        obtain ⟨ho, hok⟩ := hok
        refine ms3 dm_picked_65 (r_iald hm h2 (rc_14 _ _ _ _ _) rfl ho) rfl rfl rfl ?_
        refine ms1 dm_picked_66 rfl rfl rfl rfl ?_
        refine ms0 dm_picked_68 rfl rfl rfl rfl ?_
        refine ms1 dm_picked_69 rfl rfl rfl rfl ?_
        refine ms1 dm_picked_71 rfl rfl rfl rfl ?_
        obtain ⟨ho, hok⟩ := hok
        refine ms_irem dm_picked_73 ho rfl ?_
        refine ms0 dm_picked_74 rfl rfl rfl rfl ?_
        obtain ⟨ho, hok⟩ := hok
        refine ms4 dm_picked_75 rfl (r_inv (As := [.int (v 1), .int (((I 14 (((v 6) / (v 4))).toNatClampNeg) * (v 4)) + ((v 6) - (v 6) / (v 4) * (v 4)))]) hm h2 rfl rfl rfl) (q_number hm h2 ho) rfl rfl rfl ?_
        obtain ⟨ho, hok⟩ := hok
        refine ms3 dm_picked_78 (r_lastk (k := 0) hm h2 (rc_0 _ _ _ _ _) rfl ho (rs_0 _ _ _ _ _ _)) rfl rfl rfl ?_
        have he : lp_picked (n + 1) 31 i l I J v w = lp_picked n 79 i l I (va_up J 0 (vp_updL (J 0) (((I 1 ((v 5)).toNatClampNeg) + (v 6))).toNatClampNeg (a_number i l I J (v 1) (((I 14 (((v 6) / (v 4))).toNatClampNeg) * (v 4)) + ((v 6) - (v 6) / (v 4) * (v 4)))))) v w := by
          rw [lb_picked_31]
          simp only [hb1, Bool.false_eq_true, if_true, if_false]
        rw [he]
        exact mjR_sub rfl rfl rfl (ih.2.1 _ _ _ _ _ _ hok)
    · intro i l I J v w hok
      have hok : okl_picked n 31 i l I J (upd v 6 ((v 6) + Int32.ofInt (1))) w := hok
      refine ms1 dm_picked_79 rfl rfl rfl rfl ?_
      refine ms2 dm_picked_82 rfl rfl rfl ?_
      have he : lp_picked (n + 1) 79 i l I J v w = lp_picked n 31 i l I J (upd v 6 ((v 6) + Int32.ofInt (1))) w := by
        rw [lb_picked_79]
      rw [he]
      exact mjR_sub rfl rfl rfl (ih.1 _ _ _ _ _ _ hok)
    · intro i l I J v w hok
      have hok : (if mj_cnd .ge (v 5) (v 2) = true then True else (¬ ((v 4) < 0 ∨ 310000 ≤ ((v 4)).toNatClampNeg) ∧ (¬ ((v 5) < 0 ∨ 260 ≤ ((v 5)).toNatClampNeg) ∧ (ok_number i l I J (v 1) (I 14 ((v 5)).toNatClampNeg) ∧ (¬ (((I 1 ((v 4)).toNatClampNeg) + (v 5)) < 0 ∨ 820000 ≤ (((I 1 ((v 4)).toNatClampNeg) + (v 5))).toNatClampNeg) ∧ okl_picked n 165 i l I (va_up J 0 (vp_updL (J 0) (((I 1 ((v 4)).toNatClampNeg) + (v 5))).toNatClampNeg (a_number i l I J (v 1) (I 14 ((v 5)).toNatClampNeg)))) v w))))) := hok
      refine ms1 dm_picked_132 rfl rfl rfl rfl ?_
      refine ms1 dm_picked_134 rfl rfl rfl rfl ?_
      refine ms_2c dm_picked_135 rfl rfl (fun hb1 => ?_) (fun hb1 => ?_)
      · have hb1 : mj_cnd .ge (v 5) (v 2) = true := hb1
        rw [if_pos hb1] at hok
        refine ms1 dm_picked_171 rfl rfl rfl rfl ?_
        have he : lp_picked (n + 1) 132 i l I J v w = ((v 4), i, l, I, J) := by
          rw [lb_picked_132]
          simp only [hb1, Bool.false_eq_true, if_true, if_false]
        rw [he]
        exact ms5 dm_picked_173 rfl rfl rfl
      · have hb1 : ¬ (mj_cnd .ge (v 5) (v 2) = true) := hb1
        rw [if_neg hb1] at hok
        refine ms1 dm_picked_138 rfl rfl rfl rfl ?_
        refine ms3 dm_picked_139 (r_get hm h2 rfl (rg_0 _ _ _)) rfl rfl rfl ?_
        refine ms1 dm_picked_142 rfl rfl rfl rfl ?_
        refine ms3 dm_picked_143 (r_get hm h2 rfl (rg_1 _ _ _)) rfl rfl rfl ?_
        refine ms1 dm_picked_146 rfl rfl rfl rfl ?_
        obtain ⟨ho, hok⟩ := hok
        refine ms3 dm_picked_148 (r_iald hm h2 (rc_1 _ _ _ _ _) rfl ho) rfl rfl rfl ?_
        refine ms1 dm_picked_149 rfl rfl rfl rfl ?_
        refine ms0 dm_picked_151 rfl rfl rfl rfl ?_
        refine ms1 dm_picked_152 rfl rfl rfl rfl ?_
        refine ms1 dm_picked_153 rfl rfl rfl rfl ?_
        refine ms1 dm_picked_154 rfl rfl rfl rfl ?_
        refine ms3 dm_picked_155 (r_get hm h2 rfl (rg_14 _ _ _)) rfl rfl rfl ?_
        refine ms1 dm_picked_158 rfl rfl rfl rfl ?_
        obtain ⟨ho, hok⟩ := hok
        refine ms3 dm_picked_160 (r_iald hm h2 (rc_14 _ _ _ _ _) rfl ho) rfl rfl rfl ?_
        obtain ⟨ho, hok⟩ := hok
        refine ms4 dm_picked_161 rfl (r_inv (As := [.int (v 1), .int (I 14 ((v 5)).toNatClampNeg)]) hm h2 rfl rfl rfl) (q_number hm h2 ho) rfl rfl rfl ?_
        obtain ⟨ho, hok⟩ := hok
        refine ms3 dm_picked_164 (r_lastk (k := 0) hm h2 (rc_0 _ _ _ _ _) rfl ho (rs_0 _ _ _ _ _ _)) rfl rfl rfl ?_
        have he : lp_picked (n + 1) 132 i l I J v w = lp_picked n 165 i l I (va_up J 0 (vp_updL (J 0) (((I 1 ((v 4)).toNatClampNeg) + (v 5))).toNatClampNeg (a_number i l I J (v 1) (I 14 ((v 5)).toNatClampNeg)))) v w := by
          rw [lb_picked_132]
          simp only [hb1, Bool.false_eq_true, if_true, if_false]
        rw [he]
        exact mjR_sub rfl rfl rfl (ih.2.2.2 _ _ _ _ _ _ hok)
    · intro i l I J v w hok
      have hok : okl_picked n 132 i l I J (upd v 5 ((v 5) + Int32.ofInt (1))) w := hok
      refine ms1 dm_picked_165 rfl rfl rfl rfl ?_
      refine ms2 dm_picked_168 rfl rfl rfl ?_
      have he : lp_picked (n + 1) 165 i l I J v w = lp_picked n 132 i l I J (upd v 5 ((v 5) + Int32.ofInt (1))) w := by
        rw [lb_picked_165]
      rw [he]
      exact mjR_sub rfl rfl rfl (ih.2.2.1 _ _ _ _ _ _ hok)
set_option maxRecDepth 20000 in
theorem q_picked {xt : mj_X} {pre post : mj_H} {m : Nat} {i : Nat → Int32} {l : Nat → Int64} {I : Nat → Nat → Int32} {J : Nat → Nat → Int64} {d : Nat} (hm : pre.length = m) (h2 : 2 ≤ m) {p0 : Int32} {p1 : Int32} {n : Nat} (hok : ok_picked n i l I J p0 p1) : pgC xt (d + 4) k_picked (.ref m :: [.int p0, .int p1]) (rH pre post m i l I J) (some (.int (s_picked n i l I J p0 p1).1)) (rH pre post m (s_picked n i l I J p0 p1).2.1 (s_picked n i l I J p0 p1).2.2.1 (s_picked n i l I J p0 p1).2.2.2.1 (s_picked n i l I J p0 p1).2.2.2.2) := by
  unfold ok_picked at hok
  refine ms_call pm_picked (Nat.le_of_ble_eq_true rfl) ?_
  dsimp only
  refine ms1 dm_picked_0 rfl rfl rfl rfl ?_
  refine ms1 dm_picked_1 rfl rfl rfl rfl ?_
  obtain ⟨ho, hok⟩ := hok
  refine ms4 dm_picked_2 rfl (r_inv (As := [.int p0]) hm h2 rfl rfl rfl) (q_kindOf hm h2 ho) rfl rfl rfl ?_
  refine ms1 dm_picked_5 rfl rfl rfl rfl ?_
  refine ms1 dm_picked_6 rfl rfl rfl rfl ?_
  refine ms0 (S' := .int (6 : Int32) :: _) dm_picked_7 rfl rfl rfl rfl ?_
  refine ms_2c dm_picked_9 rfl rfl (fun hb1 => ?_) (fun hb1 => ?_)
  · have hb1 : mj_cnd .ne (a_kindOf i l I J p0) (6 : Int32) = true := hb1
    rw [if_pos hb1] at hok
    refine ms1 dm_picked_88 rfl rfl rfl rfl ?_
    refine ms1 dm_picked_89 rfl rfl rfl rfl ?_
    refine ms_1c dm_picked_90 rfl rfl (fun hb2 => ?_) (fun hb2 => ?_)
    · have hb2 : mj_cnd .ne (a_kindOf i l I J p0) (0 : Int32) = true := hb2
      rw [if_pos hb2] at hok
      refine ms1 dm_picked_113 rfl rfl rfl rfl ?_
      refine ms0 (S' := .int (1 : Int32) :: _) dm_picked_114 rfl rfl rfl rfl ?_
      refine ms_2c dm_picked_115 rfl rfl (fun hb3 => ?_) (fun hb3 => ?_)
      · have hb3 : mj_cnd .ne (a_kindOf i l I J p0) (1 : Int32) = true := hb3
        rw [if_pos hb3] at hok
        refine ms1 dm_picked_122 rfl rfl rfl rfl ?_
        refine ms1 dm_picked_123 rfl rfl rfl rfl ?_
        obtain ⟨ho, hok⟩ := hok
        refine ms4 dm_picked_124 rfl (r_inv (As := [.int (a_kindOf i l I J p0), .int p1]) hm h2 rfl rfl rfl) (q_row hm h2 ho) rfl rfl rfl ?_
        refine ms1 dm_picked_127 rfl rfl rfl rfl ?_
        refine ms0 (S' := .int (0 : Int32) :: _) dm_picked_129 rfl rfl rfl rfl ?_
        refine ms1 dm_picked_130 rfl rfl rfl rfl ?_
        have he : s_picked n i l I J p0 p1 = lp_picked n 132 (si_row i l I J (a_kindOf i l I J p0) p1) l (sI_row i l I J (a_kindOf i l I J p0) p1) J (upd (upd (upd (upd (fun _ => 0) 1 p0) 2 p1) 4 (a_row i l I J (a_kindOf i l I J p0) p1)) 5 (0 : Int32)) (fun _ => 0) := by
          unfold s_picked
          simp only [hb1, hb2, hb3, Bool.false_eq_true, if_true, if_false]
        rw [he]
        exact mjR_sub rfl rfl rfl ((ql_picked hm h2 n).2.2.1 _ _ _ _ _ _ hok)
      · have hb3 : ¬ (mj_cnd .ne (a_kindOf i l I J p0) (1 : Int32) = true) := hb3
        rw [if_neg hb3] at hok
        refine ms0 (S' := .int (3 : Int32) :: _) dm_picked_118 rfl rfl rfl rfl ?_
        refine ms2 dm_picked_119 rfl rfl rfl ?_
        refine ms1 dm_picked_123 rfl rfl rfl rfl ?_
        obtain ⟨ho, hok⟩ := hok
        refine ms4 dm_picked_124 rfl (r_inv (As := [.int (3 : Int32), .int p1]) hm h2 rfl rfl rfl) (q_row hm h2 ho) rfl rfl rfl ?_
        refine ms1 dm_picked_127 rfl rfl rfl rfl ?_
        refine ms0 (S' := .int (0 : Int32) :: _) dm_picked_129 rfl rfl rfl rfl ?_
        refine ms1 dm_picked_130 rfl rfl rfl rfl ?_
        have he : s_picked n i l I J p0 p1 = lp_picked n 132 (si_row i l I J (3 : Int32) p1) l (sI_row i l I J (3 : Int32) p1) J (upd (upd (upd (upd (fun _ => 0) 1 p0) 2 p1) 4 (a_row i l I J (3 : Int32) p1)) 5 (0 : Int32)) (fun _ => 0) := by
          unfold s_picked
          simp only [hb1, hb2, hb3, Bool.false_eq_true, if_true, if_false]
        rw [he]
        exact mjR_sub rfl rfl rfl ((ql_picked hm h2 n).2.2.1 _ _ _ _ _ _ hok)
    · have hb2 : ¬ (mj_cnd .ne (a_kindOf i l I J p0) (0 : Int32) = true) := hb2
      rw [if_neg hb2] at hok
      refine ms1 dm_picked_93 rfl rfl rfl rfl ?_
      refine ms1 dm_picked_94 rfl rfl rfl rfl ?_
      refine ms0 (S' := .int (0 : Int32) :: _) dm_picked_95 rfl rfl rfl rfl ?_
      obtain ⟨ho, hok⟩ := hok
      refine ms4 dm_picked_96 rfl (r_inv (As := [.int p0, .int (0 : Int32)]) hm h2 rfl rfl rfl) (q_number hm h2 ho) rfl rfl rfl ?_
      obtain ⟨ho, hok⟩ := hok
      refine ms4 dm_picked_99 rfl (r_invs (As := [.long (a_number i l I J p0 (0 : Int32))]) rfl rfl rfl) (q_fits hm h2 ho) rfl rfl rfl ?_
      refine ms_1c dm_picked_102 rfl rfl (fun hb4 => ?_) (fun hb4 => ?_)
      · have hb4 : mj_cnd .eq (a_fits i l I J (a_number i l I J p0 (0 : Int32))) (0 : Int32) = true := hb4
        rw [if_pos hb4] at hok
        refine ms0 (S' := .int (5 : Int32) :: _) dm_picked_109 rfl rfl rfl rfl ?_
        refine ms2 dm_picked_110 rfl rfl rfl ?_
        refine ms1 dm_picked_123 rfl rfl rfl rfl ?_
        obtain ⟨ho, hok⟩ := hok
        refine ms4 dm_picked_124 rfl (r_inv (As := [.int (5 : Int32), .int p1]) hm h2 rfl rfl rfl) (q_row hm h2 ho) rfl rfl rfl ?_
        refine ms1 dm_picked_127 rfl rfl rfl rfl ?_
        refine ms0 (S' := .int (0 : Int32) :: _) dm_picked_129 rfl rfl rfl rfl ?_
        refine ms1 dm_picked_130 rfl rfl rfl rfl ?_
        have he : s_picked n i l I J p0 p1 = lp_picked n 132 (si_row i l I J (5 : Int32) p1) l (sI_row i l I J (5 : Int32) p1) J (upd (upd (upd (upd (fun _ => 0) 1 p0) 2 p1) 4 (a_row i l I J (5 : Int32) p1)) 5 (0 : Int32)) (fun _ => 0) := by
          unfold s_picked
          simp only [hb1, hb2, hb4, Bool.false_eq_true, if_true, if_false]
        rw [he]
        exact mjR_sub rfl rfl rfl ((ql_picked hm h2 n).2.2.1 _ _ _ _ _ _ hok)
      · have hb4 : ¬ (mj_cnd .eq (a_fits i l I J (a_number i l I J p0 (0 : Int32))) (0 : Int32) = true) := hb4
        rw [if_neg hb4] at hok
        refine ms0 (S' := .int (4 : Int32) :: _) dm_picked_105 rfl rfl rfl rfl ?_
        refine ms2 dm_picked_106 rfl rfl rfl ?_
        refine ms1 dm_picked_123 rfl rfl rfl rfl ?_
        obtain ⟨ho, hok⟩ := hok
        refine ms4 dm_picked_124 rfl (r_inv (As := [.int (4 : Int32), .int p1]) hm h2 rfl rfl rfl) (q_row hm h2 ho) rfl rfl rfl ?_
        refine ms1 dm_picked_127 rfl rfl rfl rfl ?_
        refine ms0 (S' := .int (0 : Int32) :: _) dm_picked_129 rfl rfl rfl rfl ?_
        refine ms1 dm_picked_130 rfl rfl rfl rfl ?_
        have he : s_picked n i l I J p0 p1 = lp_picked n 132 (si_row i l I J (4 : Int32) p1) l (sI_row i l I J (4 : Int32) p1) J (upd (upd (upd (upd (fun _ => 0) 1 p0) 2 p1) 4 (a_row i l I J (4 : Int32) p1)) 5 (0 : Int32)) (fun _ => 0) := by
          unfold s_picked
          simp only [hb1, hb2, hb4, Bool.false_eq_true, if_true, if_false]
        rw [he]
        exact mjR_sub rfl rfl rfl ((ql_picked hm h2 n).2.2.1 _ _ _ _ _ _ hok)
  · have hb1 : ¬ (mj_cnd .ne (a_kindOf i l I J p0) (6 : Int32) = true) := hb1
    rw [if_neg hb1] at hok
    refine ms1 dm_picked_12 rfl rfl rfl rfl ?_
    refine ms1 dm_picked_13 rfl rfl rfl rfl ?_
    obtain ⟨ho, hok⟩ := hok
    refine ms4 dm_picked_14 rfl (r_inv (As := [.int p0]) hm h2 rfl rfl rfl) (q_columns hm h2 ho) rfl rfl rfl ?_
    refine ms1 dm_picked_17 rfl rfl rfl rfl ?_
    refine ms1 dm_picked_19 rfl rfl rfl rfl ?_
    refine ms1 dm_picked_20 rfl rfl rfl rfl ?_
    refine ms1 dm_picked_21 rfl rfl rfl rfl ?_
    obtain ⟨ho, hok⟩ := hok
    refine ms4 dm_picked_23 rfl (r_inv (As := [.int p1, .int (a_columns i l I J p0)]) hm h2 rfl rfl rfl) (q_table hm h2 ho) rfl rfl rfl ?_
    refine ms1 dm_picked_26 rfl rfl rfl rfl ?_
    refine ms0 (S' := .int (0 : Int32) :: _) dm_picked_28 rfl rfl rfl rfl ?_
    refine ms1 dm_picked_29 rfl rfl rfl rfl ?_
    have he : s_picked n i l I J p0 p1 = lp_picked n 31 (si_table i l I J p1 (a_columns i l I J p0)) l (sI_table i l I J p1 (a_columns i l I J p0)) J (upd (upd (upd (upd (upd (fun _ => 0) 1 p0) 2 p1) 4 (a_columns i l I J p0)) 5 (a_table i l I J p1 (a_columns i l I J p0))) 6 (0 : Int32)) (fun _ => 0) := by
      unfold s_picked
      simp only [hb1, Bool.false_eq_true, if_true, if_false]
    rw [he]
    exact mjR_sub rfl rfl rfl ((ql_picked hm h2 n).1 _ _ _ _ _ _ hok)
def k_laid : Nat := 263
set_option maxRecDepth 20000 in
theorem pm_laid : mj_mmof pg_ms k_laid = some ((⟨"ArrayCalculatorModel", "laid", "(III)I"⟩, prog_14_method_57_code, 11, (Option.some Jvm.ClassFile.FieldType.int)), 12, false, mj_dec prog_14_method_57_code) := rfl
theorem dm_laid_0 : mj_dec prog_14_method_57_code 0 = some (.aload_n 0, 1) := by decide +kernel
theorem dm_laid_1 : mj_dec prog_14_method_57_code 1 = some (.iload_n 1, 1) := by decide +kernel
theorem dm_laid_2 : mj_dec prog_14_method_57_code 2 = some (.invokevirtual 174, 3) := by decide +kernel
theorem dm_laid_5 : mj_dec prog_14_method_57_code 5 = some (.ifCond .eq 22, 3) := by decide +kernel
theorem dm_laid_8 : mj_dec prog_14_method_57_code 8 = some (.aload_n 0, 1) := by decide +kernel
theorem dm_laid_9 : mj_dec prog_14_method_57_code 9 = some (.iload_n 1, 1) := by decide +kernel
theorem dm_laid_10 : mj_dec prog_14_method_57_code 10 = some (.invokevirtual 134, 3) := by decide +kernel
theorem dm_laid_13 : mj_dec prog_14_method_57_code 13 = some (.iconst 2, 1) := by decide +kernel
theorem dm_laid_14 : mj_dec prog_14_method_57_code 14 = some (.if_icmp .ne 13, 3) := by decide +kernel
theorem dm_laid_17 : mj_dec prog_14_method_57_code 17 = some (.aload_n 0, 1) := by decide +kernel
theorem dm_laid_18 : mj_dec prog_14_method_57_code 18 = some (.iload_n 2, 1) := by decide +kernel
theorem dm_laid_19 : mj_dec prog_14_method_57_code 19 = some (.invokevirtual 146, 3) := by decide +kernel
theorem dm_laid_22 : mj_dec prog_14_method_57_code 22 = some (.bipush 7, 2) := by decide +kernel
theorem dm_laid_24 : mj_dec prog_14_method_57_code 24 = some (.if_icmp .ne 10, 3) := by decide +kernel
theorem dm_laid_27 : mj_dec prog_14_method_57_code 27 = some (.aload_n 0, 1) := by decide +kernel
theorem dm_laid_28 : mj_dec prog_14_method_57_code 28 = some (.iconst 3, 1) := by decide +kernel
theorem dm_laid_29 : mj_dec prog_14_method_57_code 29 = some (.iload_n 3, 1) := by decide +kernel
theorem dm_laid_30 : mj_dec prog_14_method_57_code 30 = some (.invokevirtual 190, 3) := by decide +kernel
theorem dm_laid_33 : mj_dec prog_14_method_57_code 33 = some (.ireturn, 1) := by decide +kernel
theorem dm_laid_34 : mj_dec prog_14_method_57_code 34 = some (.aload_n 0, 1) := by decide +kernel
theorem dm_laid_35 : mj_dec prog_14_method_57_code 35 = some (.iload_n 1, 1) := by decide +kernel
theorem dm_laid_36 : mj_dec prog_14_method_57_code 36 = some (.iconst 0, 1) := by decide +kernel
theorem dm_laid_37 : mj_dec prog_14_method_57_code 37 = some (.invokevirtual 138, 3) := by decide +kernel
theorem dm_laid_40 : mj_dec prog_14_method_57_code 40 = some (.lstore 4, 2) := by decide +kernel
theorem dm_laid_42 : mj_dec prog_14_method_57_code 42 = some (.aload_n 0, 1) := by decide +kernel
theorem dm_laid_43 : mj_dec prog_14_method_57_code 43 = some (.iload_n 1, 1) := by decide +kernel
theorem dm_laid_44 : mj_dec prog_14_method_57_code 44 = some (.iconst 1, 1) := by decide +kernel
theorem dm_laid_45 : mj_dec prog_14_method_57_code 45 = some (.invokevirtual 138, 3) := by decide +kernel
theorem dm_laid_48 : mj_dec prog_14_method_57_code 48 = some (.lstore 6, 2) := by decide +kernel
theorem dm_laid_50 : mj_dec prog_14_method_57_code 50 = some (.lload 4, 2) := by decide +kernel
theorem dm_laid_52 : mj_dec prog_14_method_57_code 52 = some (.lconst 1, 1) := by decide +kernel
theorem dm_laid_53 : mj_dec prog_14_method_57_code 53 = some (.lcmp, 1) := by decide +kernel
theorem dm_laid_54 : mj_dec prog_14_method_57_code 54 = some (.ifCond .lt 46, 3) := by decide +kernel
theorem dm_laid_57 : mj_dec prog_14_method_57_code 57 = some (.lload 4, 2) := by decide +kernel
theorem dm_laid_59 : mj_dec prog_14_method_57_code 59 = some (.ldc2_w 352, 3) := by decide +kernel
theorem dm_laid_62 : mj_dec prog_14_method_57_code 62 = some (.lcmp, 1) := by decide +kernel
theorem dm_laid_63 : mj_dec prog_14_method_57_code 63 = some (.ifCond .gt 37, 3) := by decide +kernel
theorem dm_laid_66 : mj_dec prog_14_method_57_code 66 = some (.lload 6, 2) := by decide +kernel
theorem dm_laid_68 : mj_dec prog_14_method_57_code 68 = some (.lconst 1, 1) := by decide +kernel
theorem dm_laid_69 : mj_dec prog_14_method_57_code 69 = some (.lcmp, 1) := by decide +kernel
theorem dm_laid_70 : mj_dec prog_14_method_57_code 70 = some (.ifCond .lt 30, 3) := by decide +kernel
theorem dm_laid_73 : mj_dec prog_14_method_57_code 73 = some (.lload 6, 2) := by decide +kernel
theorem dm_laid_75 : mj_dec prog_14_method_57_code 75 = some (.ldc2_w 352, 3) := by decide +kernel
theorem dm_laid_78 : mj_dec prog_14_method_57_code 78 = some (.lcmp, 1) := by decide +kernel
theorem dm_laid_79 : mj_dec prog_14_method_57_code 79 = some (.ifCond .gt 21, 3) := by decide +kernel
theorem dm_laid_82 : mj_dec prog_14_method_57_code 82 = some (.aload_n 0, 1) := by decide +kernel
theorem dm_laid_83 : mj_dec prog_14_method_57_code 83 = some (.iload_n 2, 1) := by decide +kernel
theorem dm_laid_84 : mj_dec prog_14_method_57_code 84 = some (.invokevirtual 146, 3) := by decide +kernel
theorem dm_laid_87 : mj_dec prog_14_method_57_code 87 = some (.iconst 1, 1) := by decide +kernel
theorem dm_laid_88 : mj_dec prog_14_method_57_code 88 = some (.if_icmp .eq 12, 3) := by decide +kernel
theorem dm_laid_91 : mj_dec prog_14_method_57_code 91 = some (.aload_n 0, 1) := by decide +kernel
theorem dm_laid_92 : mj_dec prog_14_method_57_code 92 = some (.iload_n 2, 1) := by decide +kernel
theorem dm_laid_93 : mj_dec prog_14_method_57_code 93 = some (.invokevirtual 146, 3) := by decide +kernel
theorem dm_laid_96 : mj_dec prog_14_method_57_code 96 = some (.iconst 3, 1) := by decide +kernel
theorem dm_laid_97 : mj_dec prog_14_method_57_code 97 = some (.if_icmp .ne 10, 3) := by decide +kernel
theorem dm_laid_100 : mj_dec prog_14_method_57_code 100 = some (.aload_n 0, 1) := by decide +kernel
theorem dm_laid_101 : mj_dec prog_14_method_57_code 101 = some (.iconst 5, 1) := by decide +kernel
theorem dm_laid_102 : mj_dec prog_14_method_57_code 102 = some (.iload_n 3, 1) := by decide +kernel
theorem dm_laid_103 : mj_dec prog_14_method_57_code 103 = some (.invokevirtual 190, 3) := by decide +kernel
theorem dm_laid_106 : mj_dec prog_14_method_57_code 106 = some (.ireturn, 1) := by decide +kernel
theorem dm_laid_107 : mj_dec prog_14_method_57_code 107 = some (.aload_n 0, 1) := by decide +kernel
theorem dm_laid_108 : mj_dec prog_14_method_57_code 108 = some (.iload_n 2, 1) := by decide +kernel
theorem dm_laid_109 : mj_dec prog_14_method_57_code 109 = some (.invokevirtual 146, 3) := by decide +kernel
theorem dm_laid_112 : mj_dec prog_14_method_57_code 112 = some (.bipush 6, 2) := by decide +kernel
theorem dm_laid_114 : mj_dec prog_14_method_57_code 114 = some (.if_icmp .ne 17, 3) := by decide +kernel
theorem dm_laid_117 : mj_dec prog_14_method_57_code 117 = some (.aload_n 0, 1) := by decide +kernel
theorem dm_laid_118 : mj_dec prog_14_method_57_code 118 = some (.iload_n 2, 1) := by decide +kernel
theorem dm_laid_119 : mj_dec prog_14_method_57_code 119 = some (.invokevirtual 134, 3) := by decide +kernel
theorem dm_laid_122 : mj_dec prog_14_method_57_code 122 = some (.aload_n 0, 1) := by decide +kernel
theorem dm_laid_123 : mj_dec prog_14_method_57_code 123 = some (.iload_n 2, 1) := by decide +kernel
theorem dm_laid_124 : mj_dec prog_14_method_57_code 124 = some (.invokevirtual 156, 3) := by decide +kernel
theorem dm_laid_127 : mj_dec prog_14_method_57_code 127 = some (.imul, 1) := by decide +kernel
theorem dm_laid_128 : mj_dec prog_14_method_57_code 128 = some (.goto 8, 3) := by decide +kernel
theorem dm_laid_131 : mj_dec prog_14_method_57_code 131 = some (.aload_n 0, 1) := by decide +kernel
theorem dm_laid_132 : mj_dec prog_14_method_57_code 132 = some (.iload_n 2, 1) := by decide +kernel
theorem dm_laid_133 : mj_dec prog_14_method_57_code 133 = some (.invokevirtual 134, 3) := by decide +kernel
theorem dm_laid_136 : mj_dec prog_14_method_57_code 136 = some (.istore 8, 2) := by decide +kernel
theorem dm_laid_138 : mj_dec prog_14_method_57_code 138 = some (.iload 8, 2) := by decide +kernel
theorem dm_laid_140 : mj_dec prog_14_method_57_code 140 = some (.ifCond .ne 10, 3) := by decide +kernel
theorem dm_laid_143 : mj_dec prog_14_method_57_code 143 = some (.aload_n 0, 1) := by decide +kernel
theorem dm_laid_144 : mj_dec prog_14_method_57_code 144 = some (.iconst 4, 1) := by decide +kernel
theorem dm_laid_145 : mj_dec prog_14_method_57_code 145 = some (.iload_n 3, 1) := by decide +kernel
theorem dm_laid_146 : mj_dec prog_14_method_57_code 146 = some (.invokevirtual 190, 3) := by decide +kernel
theorem dm_laid_149 : mj_dec prog_14_method_57_code 149 = some (.ireturn, 1) := by decide +kernel
theorem dm_laid_150 : mj_dec prog_14_method_57_code 150 = some (.aload_n 0, 1) := by decide +kernel
theorem dm_laid_151 : mj_dec prog_14_method_57_code 151 = some (.lload 4, 2) := by decide +kernel
theorem dm_laid_153 : mj_dec prog_14_method_57_code 153 = some (.l2i, 1) := by decide +kernel
theorem dm_laid_154 : mj_dec prog_14_method_57_code 154 = some (.lload 6, 2) := by decide +kernel
theorem dm_laid_156 : mj_dec prog_14_method_57_code 156 = some (.l2i, 1) := by decide +kernel
theorem dm_laid_157 : mj_dec prog_14_method_57_code 157 = some (.invokevirtual 255, 3) := by decide +kernel
theorem dm_laid_160 : mj_dec prog_14_method_57_code 160 = some (.istore 9, 2) := by decide +kernel
theorem dm_laid_162 : mj_dec prog_14_method_57_code 162 = some (.iconst 0, 1) := by decide +kernel
theorem dm_laid_163 : mj_dec prog_14_method_57_code 163 = some (.istore 10, 2) := by decide +kernel
theorem dm_laid_165 : mj_dec prog_14_method_57_code 165 = some (.iload 10, 2) := by decide +kernel
theorem dm_laid_167 : mj_dec prog_14_method_57_code 167 = some (.lload 4, 2) := by decide +kernel
theorem dm_laid_169 : mj_dec prog_14_method_57_code 169 = some (.lload 6, 2) := by decide +kernel
theorem dm_laid_171 : mj_dec prog_14_method_57_code 171 = some (.lmul, 1) := by decide +kernel
theorem dm_laid_172 : mj_dec prog_14_method_57_code 172 = some (.l2i, 1) := by decide +kernel
theorem dm_laid_173 : mj_dec prog_14_method_57_code 173 = some (.if_icmp .ge 58, 3) := by decide +kernel
theorem dm_laid_176 : mj_dec prog_14_method_57_code 176 = some (.aload_n 0, 1) := by decide +kernel
theorem dm_laid_177 : mj_dec prog_14_method_57_code 177 = some (.getfield 8, 3) := by decide +kernel
theorem dm_laid_180 : mj_dec prog_14_method_57_code 180 = some (.aload_n 0, 1) := by decide +kernel
theorem dm_laid_181 : mj_dec prog_14_method_57_code 181 = some (.getfield 15, 3) := by decide +kernel
theorem dm_laid_184 : mj_dec prog_14_method_57_code 184 = some (.iload 9, 2) := by decide +kernel
theorem dm_laid_186 : mj_dec prog_14_method_57_code 186 = some (.iaload, 1) := by decide +kernel
theorem dm_laid_187 : mj_dec prog_14_method_57_code 187 = some (.iload 10, 2) := by decide +kernel
theorem dm_laid_189 : mj_dec prog_14_method_57_code 189 = some (.iadd, 1) := by decide +kernel
theorem dm_laid_190 : mj_dec prog_14_method_57_code 190 = some (.aload_n 0, 1) := by decide +kernel
theorem dm_laid_191 : mj_dec prog_14_method_57_code 191 = some (.iload_n 2, 1) := by decide +kernel
theorem dm_laid_192 : mj_dec prog_14_method_57_code 192 = some (.iload 10, 2) := by decide +kernel
theorem dm_laid_194 : mj_dec prog_14_method_57_code 194 = some (.iload 8, 2) := by decide +kernel
theorem dm_laid_196 : mj_dec prog_14_method_57_code 196 = some (.irem, 1) := by decide +kernel
theorem dm_laid_197 : mj_dec prog_14_method_57_code 197 = some (.invokevirtual 138, 3) := by decide +kernel
theorem dm_laid_200 : mj_dec prog_14_method_57_code 200 = some (.lastore, 1) := by decide +kernel
theorem dm_laid_201 : mj_dec prog_14_method_57_code 201 = some (.aload_n 0, 1) := by decide +kernel
theorem dm_laid_202 : mj_dec prog_14_method_57_code 202 = some (.iload_n 2, 1) := by decide +kernel
theorem dm_laid_203 : mj_dec prog_14_method_57_code 203 = some (.iload 10, 2) := by decide +kernel
theorem dm_laid_205 : mj_dec prog_14_method_57_code 205 = some (.iload 8, 2) := by decide +kernel
theorem dm_laid_207 : mj_dec prog_14_method_57_code 207 = some (.irem, 1) := by decide +kernel
theorem dm_laid_208 : mj_dec prog_14_method_57_code 208 = some (.invokevirtual 138, 3) := by decide +kernel
theorem dm_laid_211 : mj_dec prog_14_method_57_code 211 = some (.invokestatic 142, 3) := by decide +kernel
theorem dm_laid_214 : mj_dec prog_14_method_57_code 214 = some (.ifCond .ne 11, 3) := by decide +kernel
theorem dm_laid_217 : mj_dec prog_14_method_57_code 217 = some (.aload_n 0, 1) := by decide +kernel
theorem dm_laid_218 : mj_dec prog_14_method_57_code 218 = some (.bipush 6, 2) := by decide +kernel
theorem dm_laid_220 : mj_dec prog_14_method_57_code 220 = some (.iload_n 3, 1) := by decide +kernel
theorem dm_laid_221 : mj_dec prog_14_method_57_code 221 = some (.invokevirtual 190, 3) := by decide +kernel
theorem dm_laid_224 : mj_dec prog_14_method_57_code 224 = some (.ireturn, 1) := by decide +kernel
theorem dm_laid_225 : mj_dec prog_14_method_57_code 225 = some (.iinc 10 1, 3) := by decide +kernel
theorem dm_laid_228 : mj_dec prog_14_method_57_code 228 = some (.goto (-63), 3) := by decide +kernel
theorem dm_laid_231 : mj_dec prog_14_method_57_code 231 = some (.iload 9, 2) := by decide +kernel
theorem dm_laid_233 : mj_dec prog_14_method_57_code 233 = some (.ireturn, 1) := by decide +kernel
def lp_laid : Nat → Nat → (Nat → Int32) → (Nat → Int64) → (Nat → Nat → Int32) → (Nat → Nat → Int64) → (Nat → Int32) → (Nat → Int64) → Int32 × (Nat → Int32) × (Nat → Int64) × (Nat → Nat → Int32) × (Nat → Nat → Int64)
  | 0, _, i, l, I, J, _, _ => (0, i, l, I, J)
  | n + 1, hd, i, l, I, J, v, w => match hd with
    | 162 => lp_laid n 165 i l I J (upd v 10 (0 : Int32)) w
    | 165 => (if mj_cnd .ge (v 10) (((w 4) * (w 6))).toInt32 = true then ((v 9), i, l, I, J) else lp_laid n 201 i l I (va_up J 0 (vp_updL (J 0) (((I 1 ((v 9)).toNatClampNeg) + (v 10))).toNatClampNeg (a_number i l I J (v 2) ((v 10) - (v 10) / (v 8) * (v 8))))) v w)
    | 201 => (if mj_cnd .ne (a_fits i l I J (a_number i l I J (v 2) ((v 10) - (v 10) / (v 8) * (v 8)))) (0 : Int32) = true then lp_laid n 165 i l I J (upd v 10 ((v 10) + Int32.ofInt (1))) w else ((a_fail i l I J (6 : Int32) (v 3)), (si_fail i l I J (6 : Int32) (v 3)), l, I, J))
    | _ => (0, i, l, I, J)
theorem lb_laid_162 (n : Nat) (i : Nat → Int32) (l : Nat → Int64) (I : Nat → Nat → Int32) (J : Nat → Nat → Int64) (v : Nat → Int32) (w : Nat → Int64) : lp_laid (n + 1) 162 i l I J v w = lp_laid n 165 i l I J (upd v 10 (0 : Int32)) w := rfl
theorem lb_laid_165 (n : Nat) (i : Nat → Int32) (l : Nat → Int64) (I : Nat → Nat → Int32) (J : Nat → Nat → Int64) (v : Nat → Int32) (w : Nat → Int64) : lp_laid (n + 1) 165 i l I J v w = (if mj_cnd .ge (v 10) (((w 4) * (w 6))).toInt32 = true then ((v 9), i, l, I, J) else lp_laid n 201 i l I (va_up J 0 (vp_updL (J 0) (((I 1 ((v 9)).toNatClampNeg) + (v 10))).toNatClampNeg (a_number i l I J (v 2) ((v 10) - (v 10) / (v 8) * (v 8))))) v w) := rfl
theorem lb_laid_201 (n : Nat) (i : Nat → Int32) (l : Nat → Int64) (I : Nat → Nat → Int32) (J : Nat → Nat → Int64) (v : Nat → Int32) (w : Nat → Int64) : lp_laid (n + 1) 201 i l I J v w = (if mj_cnd .ne (a_fits i l I J (a_number i l I J (v 2) ((v 10) - (v 10) / (v 8) * (v 8)))) (0 : Int32) = true then lp_laid n 165 i l I J (upd v 10 ((v 10) + Int32.ofInt (1))) w else ((a_fail i l I J (6 : Int32) (v 3)), (si_fail i l I J (6 : Int32) (v 3)), l, I, J)) := rfl
def okl_laid : Nat → Nat → (Nat → Int32) → (Nat → Int64) → (Nat → Nat → Int32) → (Nat → Nat → Int64) → (Nat → Int32) → (Nat → Int64) → Prop
  | 0, _, _, _, _, _, _, _ => False
  | n + 1, hd, i, l, I, J, v, w => match hd with
    | 162 => okl_laid n 165 i l I J (upd v 10 (0 : Int32)) w
    | 165 => (if mj_cnd .ge (v 10) (((w 4) * (w 6))).toInt32 = true then True else (¬ ((v 9) < 0 ∨ 310000 ≤ ((v 9)).toNatClampNeg) ∧ (¬ ((v 8) = 0) ∧ (ok_number i l I J (v 2) ((v 10) - (v 10) / (v 8) * (v 8)) ∧ (¬ (((I 1 ((v 9)).toNatClampNeg) + (v 10)) < 0 ∨ 820000 ≤ (((I 1 ((v 9)).toNatClampNeg) + (v 10))).toNatClampNeg) ∧ okl_laid n 201 i l I (va_up J 0 (vp_updL (J 0) (((I 1 ((v 9)).toNatClampNeg) + (v 10))).toNatClampNeg (a_number i l I J (v 2) ((v 10) - (v 10) / (v 8) * (v 8))))) v w)))))
    | 201 => (¬ ((v 8) = 0) ∧ (ok_number i l I J (v 2) ((v 10) - (v 10) / (v 8) * (v 8)) ∧ (ok_fits i l I J (a_number i l I J (v 2) ((v 10) - (v 10) / (v 8) * (v 8))) ∧ (if mj_cnd .ne (a_fits i l I J (a_number i l I J (v 2) ((v 10) - (v 10) / (v 8) * (v 8)))) (0 : Int32) = true then okl_laid n 165 i l I J (upd v 10 ((v 10) + Int32.ofInt (1))) w else (ok_fail i l I J (6 : Int32) (v 3) ∧ True)))))
    | _ => False
def s_laid (n : Nat) (i : Nat → Int32) (l : Nat → Int64) (I : Nat → Nat → Int32) (J : Nat → Nat → Int64) (p0 : Int32) (p1 : Int32) (p2 : Int32) : Int32 × (Nat → Int32) × (Nat → Int64) × (Nat → Nat → Int32) × (Nat → Nat → Int64) := (if mj_cnd .eq (a_isNumbers i l I J p0) (0 : Int32) = true then ((a_fail i l I J (3 : Int32) p2), (si_fail i l I J (3 : Int32) p2), l, I, J) else (if mj_cnd .ne (a_many i l I J p0) (2 : Int32) = true then ((a_fail i l I J (3 : Int32) p2), (si_fail i l I J (3 : Int32) p2), l, I, J) else (if mj_cnd .ne (a_kindOf i l I J p1) (7 : Int32) = true then (if mj_cnd .lt (lg_cmp (a_number i l I J p0 (0 : Int32)) (1 : Int64)) (0 : Int32) = true then ((a_fail i l I J (5 : Int32) p2), (si_fail i l I J (5 : Int32) p2), l, I, J) else (if mj_cnd .gt (lg_cmp (a_number i l I J p0 (0 : Int32)) (12 : Int64)) (0 : Int32) = true then ((a_fail i l I J (5 : Int32) p2), (si_fail i l I J (5 : Int32) p2), l, I, J) else (if mj_cnd .lt (lg_cmp (a_number i l I J p0 (1 : Int32)) (1 : Int64)) (0 : Int32) = true then ((a_fail i l I J (5 : Int32) p2), (si_fail i l I J (5 : Int32) p2), l, I, J) else (if mj_cnd .gt (lg_cmp (a_number i l I J p0 (1 : Int32)) (12 : Int64)) (0 : Int32) = true then ((a_fail i l I J (5 : Int32) p2), (si_fail i l I J (5 : Int32) p2), l, I, J) else (if mj_cnd .eq (a_kindOf i l I J p1) (1 : Int32) = true then ((a_fail i l I J (5 : Int32) p2), (si_fail i l I J (5 : Int32) p2), l, I, J) else (if mj_cnd .ne (a_kindOf i l I J p1) (3 : Int32) = true then (if mj_cnd .ne (a_kindOf i l I J p1) (6 : Int32) = true then (if mj_cnd .ne (a_many i l I J p1) (0 : Int32) = true then lp_laid n 162 (si_table i l I J (((a_number i l I J p0 (0 : Int32))).toInt32) (((a_number i l I J p0 (1 : Int32))).toInt32)) l (sI_table i l I J (((a_number i l I J p0 (0 : Int32))).toInt32) (((a_number i l I J p0 (1 : Int32))).toInt32)) J (upd (upd (upd (upd (fun _ => 0) 2 p1) 3 p2) 8 (a_many i l I J p1)) 9 (a_table i l I J (((a_number i l I J p0 (0 : Int32))).toInt32) (((a_number i l I J p0 (1 : Int32))).toInt32))) (vp_updL (vp_updL (fun _ => 0) 4 (a_number i l I J p0 (0 : Int32))) 6 (a_number i l I J p0 (1 : Int32))) else ((a_fail i l I J (4 : Int32) p2), (si_fail i l I J (4 : Int32) p2), l, I, J)) else (if mj_cnd .ne ((a_many i l I J p1) * (a_columns i l I J p1)) (0 : Int32) = true then lp_laid n 162 (si_table i l I J (((a_number i l I J p0 (0 : Int32))).toInt32) (((a_number i l I J p0 (1 : Int32))).toInt32)) l (sI_table i l I J (((a_number i l I J p0 (0 : Int32))).toInt32) (((a_number i l I J p0 (1 : Int32))).toInt32)) J (upd (upd (upd (upd (fun _ => 0) 2 p1) 3 p2) 8 ((a_many i l I J p1) * (a_columns i l I J p1))) 9 (a_table i l I J (((a_number i l I J p0 (0 : Int32))).toInt32) (((a_number i l I J p0 (1 : Int32))).toInt32))) (vp_updL (vp_updL (fun _ => 0) 4 (a_number i l I J p0 (0 : Int32))) 6 (a_number i l I J p0 (1 : Int32))) else ((a_fail i l I J (4 : Int32) p2), (si_fail i l I J (4 : Int32) p2), l, I, J))) else ((a_fail i l I J (5 : Int32) p2), (si_fail i l I J (5 : Int32) p2), l, I, J))))))) else ((a_fail i l I J (3 : Int32) p2), (si_fail i l I J (3 : Int32) p2), l, I, J))))
def ok_laid (n : Nat) (i : Nat → Int32) (l : Nat → Int64) (I : Nat → Nat → Int32) (J : Nat → Nat → Int64) (p0 : Int32) (p1 : Int32) (p2 : Int32) : Prop := (ok_isNumbers i l I J p0 ∧ (if mj_cnd .eq (a_isNumbers i l I J p0) (0 : Int32) = true then (ok_fail i l I J (3 : Int32) p2 ∧ True) else (ok_many i l I J p0 ∧ (if mj_cnd .ne (a_many i l I J p0) (2 : Int32) = true then (ok_fail i l I J (3 : Int32) p2 ∧ True) else (ok_kindOf i l I J p1 ∧ (if mj_cnd .ne (a_kindOf i l I J p1) (7 : Int32) = true then (ok_number i l I J p0 (0 : Int32) ∧ (ok_number i l I J p0 (1 : Int32) ∧ (if mj_cnd .lt (lg_cmp (a_number i l I J p0 (0 : Int32)) (1 : Int64)) (0 : Int32) = true then (ok_fail i l I J (5 : Int32) p2 ∧ True) else (if mj_cnd .gt (lg_cmp (a_number i l I J p0 (0 : Int32)) (12 : Int64)) (0 : Int32) = true then (ok_fail i l I J (5 : Int32) p2 ∧ True) else (if mj_cnd .lt (lg_cmp (a_number i l I J p0 (1 : Int32)) (1 : Int64)) (0 : Int32) = true then (ok_fail i l I J (5 : Int32) p2 ∧ True) else (if mj_cnd .gt (lg_cmp (a_number i l I J p0 (1 : Int32)) (12 : Int64)) (0 : Int32) = true then (ok_fail i l I J (5 : Int32) p2 ∧ True) else (ok_kindOf i l I J p1 ∧ (if mj_cnd .eq (a_kindOf i l I J p1) (1 : Int32) = true then (ok_fail i l I J (5 : Int32) p2 ∧ True) else (ok_kindOf i l I J p1 ∧ (if mj_cnd .ne (a_kindOf i l I J p1) (3 : Int32) = true then (ok_kindOf i l I J p1 ∧ (if mj_cnd .ne (a_kindOf i l I J p1) (6 : Int32) = true then (ok_many i l I J p1 ∧ (if mj_cnd .ne (a_many i l I J p1) (0 : Int32) = true then (ok_table i l I J (((a_number i l I J p0 (0 : Int32))).toInt32) (((a_number i l I J p0 (1 : Int32))).toInt32) ∧ okl_laid n 162 (si_table i l I J (((a_number i l I J p0 (0 : Int32))).toInt32) (((a_number i l I J p0 (1 : Int32))).toInt32)) l (sI_table i l I J (((a_number i l I J p0 (0 : Int32))).toInt32) (((a_number i l I J p0 (1 : Int32))).toInt32)) J (upd (upd (upd (upd (fun _ => 0) 2 p1) 3 p2) 8 (a_many i l I J p1)) 9 (a_table i l I J (((a_number i l I J p0 (0 : Int32))).toInt32) (((a_number i l I J p0 (1 : Int32))).toInt32))) (vp_updL (vp_updL (fun _ => 0) 4 (a_number i l I J p0 (0 : Int32))) 6 (a_number i l I J p0 (1 : Int32)))) else (ok_fail i l I J (4 : Int32) p2 ∧ True))) else (ok_many i l I J p1 ∧ (ok_columns i l I J p1 ∧ (if mj_cnd .ne ((a_many i l I J p1) * (a_columns i l I J p1)) (0 : Int32) = true then (ok_table i l I J (((a_number i l I J p0 (0 : Int32))).toInt32) (((a_number i l I J p0 (1 : Int32))).toInt32) ∧ okl_laid n 162 (si_table i l I J (((a_number i l I J p0 (0 : Int32))).toInt32) (((a_number i l I J p0 (1 : Int32))).toInt32)) l (sI_table i l I J (((a_number i l I J p0 (0 : Int32))).toInt32) (((a_number i l I J p0 (1 : Int32))).toInt32)) J (upd (upd (upd (upd (fun _ => 0) 2 p1) 3 p2) 8 ((a_many i l I J p1) * (a_columns i l I J p1))) 9 (a_table i l I J (((a_number i l I J p0 (0 : Int32))).toInt32) (((a_number i l I J p0 (1 : Int32))).toInt32))) (vp_updL (vp_updL (fun _ => 0) 4 (a_number i l I J p0 (0 : Int32))) 6 (a_number i l I J p0 (1 : Int32)))) else (ok_fail i l I J (4 : Int32) p2 ∧ True)))))) else (ok_fail i l I J (5 : Int32) p2 ∧ True))))))))))) else (ok_fail i l I J (3 : Int32) p2 ∧ True)))))))
set_option maxRecDepth 20000 in
theorem ql_laid {xt : mj_X} {pre post : mj_H} {m : Nat} {d : Nat} (hm : pre.length = m) (h2 : 2 ≤ m) : ∀ n : Nat, (∀ i l I J v w, okl_laid n 162 i l I J v w → mjR (fun N => mj_call (mj_mmof pg_ms) (mj_TTof pg_TL) xt pg_tl 2 (d + 3) N) (mj_TTof pg_TL 12).1 (mj_TTof pg_TL 12).2 xt pg_tl 2 11 (d + 3) false (Option.some Jvm.ClassFile.FieldType.int) (mj_dec prog_14_method_57_code) 162 [(0, .ref m), (2, .int (v 2)), (3, .int (v 3)), (4, .long (w 4)), (6, .long (w 6)), (8, .int (v 8)), (9, .int (v 9))] [] (rH pre post m i l I J) (some (.int (lp_laid n 162 i l I J v w).1)) (rH pre post m (lp_laid n 162 i l I J v w).2.1 (lp_laid n 162 i l I J v w).2.2.1 (lp_laid n 162 i l I J v w).2.2.2.1 (lp_laid n 162 i l I J v w).2.2.2.2)) ∧ (∀ i l I J v w, okl_laid n 165 i l I J v w → mjR (fun N => mj_call (mj_mmof pg_ms) (mj_TTof pg_TL) xt pg_tl 2 (d + 3) N) (mj_TTof pg_TL 12).1 (mj_TTof pg_TL 12).2 xt pg_tl 2 11 (d + 3) false (Option.some Jvm.ClassFile.FieldType.int) (mj_dec prog_14_method_57_code) 165 [(0, .ref m), (2, .int (v 2)), (3, .int (v 3)), (4, .long (w 4)), (6, .long (w 6)), (8, .int (v 8)), (9, .int (v 9)), (10, .int (v 10))] [] (rH pre post m i l I J) (some (.int (lp_laid n 165 i l I J v w).1)) (rH pre post m (lp_laid n 165 i l I J v w).2.1 (lp_laid n 165 i l I J v w).2.2.1 (lp_laid n 165 i l I J v w).2.2.2.1 (lp_laid n 165 i l I J v w).2.2.2.2)) ∧ (∀ i l I J v w, okl_laid n 201 i l I J v w → mjR (fun N => mj_call (mj_mmof pg_ms) (mj_TTof pg_TL) xt pg_tl 2 (d + 3) N) (mj_TTof pg_TL 12).1 (mj_TTof pg_TL 12).2 xt pg_tl 2 11 (d + 3) false (Option.some Jvm.ClassFile.FieldType.int) (mj_dec prog_14_method_57_code) 201 [(0, .ref m), (2, .int (v 2)), (3, .int (v 3)), (4, .long (w 4)), (6, .long (w 6)), (8, .int (v 8)), (9, .int (v 9)), (10, .int (v 10))] [] (rH pre post m i l I J) (some (.int (lp_laid n 201 i l I J v w).1)) (rH pre post m (lp_laid n 201 i l I J v w).2.1 (lp_laid n 201 i l I J v w).2.2.1 (lp_laid n 201 i l I J v w).2.2.2.1 (lp_laid n 201 i l I J v w).2.2.2.2)) := by
  intro n
  induction n with
  | zero => exact ⟨fun i l I J v w h => absurd h id, fun i l I J v w h => absurd h id, fun i l I J v w h => absurd h id⟩
  | succ n ih =>
    refine ⟨?_, ?_, ?_⟩
    · intro i l I J v w hok
      have hok : okl_laid n 165 i l I J (upd v 10 (0 : Int32)) w := hok
      refine ms0 (S' := .int (0 : Int32) :: _) dm_laid_162 rfl rfl rfl rfl ?_
      refine ms1 dm_laid_163 rfl rfl rfl rfl ?_
      have he : lp_laid (n + 1) 162 i l I J v w = lp_laid n 165 i l I J (upd v 10 (0 : Int32)) w := by
        rw [lb_laid_162]
      rw [he]
      exact mjR_sub rfl rfl rfl (ih.2.1 _ _ _ _ _ _ hok)
    · intro i l I J v w hok
      have hok : (if mj_cnd .ge (v 10) (((w 4) * (w 6))).toInt32 = true then True else (¬ ((v 9) < 0 ∨ 310000 ≤ ((v 9)).toNatClampNeg) ∧ (¬ ((v 8) = 0) ∧ (ok_number i l I J (v 2) ((v 10) - (v 10) / (v 8) * (v 8)) ∧ (¬ (((I 1 ((v 9)).toNatClampNeg) + (v 10)) < 0 ∨ 820000 ≤ (((I 1 ((v 9)).toNatClampNeg) + (v 10))).toNatClampNeg) ∧ okl_laid n 201 i l I (va_up J 0 (vp_updL (J 0) (((I 1 ((v 9)).toNatClampNeg) + (v 10))).toNatClampNeg (a_number i l I J (v 2) ((v 10) - (v 10) / (v 8) * (v 8))))) v w))))) := hok
      refine ms1 dm_laid_165 rfl rfl rfl rfl ?_
      refine ms1 dm_laid_167 rfl rfl rfl rfl ?_
      refine ms1 dm_laid_169 rfl rfl rfl rfl ?_
      refine ms0 dm_laid_171 rfl rfl rfl rfl ?_
      refine ms0 dm_laid_172 rfl rfl rfl rfl ?_
      refine ms_2c dm_laid_173 rfl rfl (fun hb1 => ?_) (fun hb1 => ?_)
      · have hb1 : mj_cnd .ge (v 10) (((w 4) * (w 6))).toInt32 = true := hb1
        rw [if_pos hb1] at hok
        refine ms1 dm_laid_231 rfl rfl rfl rfl ?_
        have he : lp_laid (n + 1) 165 i l I J v w = ((v 9), i, l, I, J) := by
          rw [lb_laid_165]
          simp only [hb1, Bool.false_eq_true, if_true, if_false]
        rw [he]
        exact ms5 dm_laid_233 rfl rfl rfl
      · have hb1 : ¬ (mj_cnd .ge (v 10) (((w 4) * (w 6))).toInt32 = true) := hb1
        rw [if_neg hb1] at hok
        refine ms1 dm_laid_176 rfl rfl rfl rfl ?_
        refine ms3 dm_laid_177 (r_get hm h2 rfl (rg_0 _ _ _)) rfl rfl rfl ?_
        refine ms1 dm_laid_180 rfl rfl rfl rfl ?_
        refine ms3 dm_laid_181 (r_get hm h2 rfl (rg_1 _ _ _)) rfl rfl rfl ?_
        refine ms1 dm_laid_184 rfl rfl rfl rfl ?_
        obtain ⟨ho, hok⟩ := hok
        refine ms3 dm_laid_186 (r_iald hm h2 (rc_1 _ _ _ _ _) rfl ho) rfl rfl rfl ?_
        refine ms1 dm_laid_187 rfl rfl rfl rfl ?_
        refine ms0 dm_laid_189 rfl rfl rfl rfl ?_
        refine ms1 dm_laid_190 rfl rfl rfl rfl ?_
        refine ms1 dm_laid_191 rfl rfl rfl rfl ?_
        refine ms1 dm_laid_192 rfl rfl rfl rfl ?_
        refine ms1 dm_laid_194 rfl rfl rfl rfl ?_
        obtain ⟨ho, hok⟩ := hok
        refine ms_irem dm_laid_196 ho rfl ?_
        obtain ⟨ho, hok⟩ := hok
        refine ms4 dm_laid_197 rfl (r_inv (As := [.int (v 2), .int ((v 10) - (v 10) / (v 8) * (v 8))]) hm h2 rfl rfl rfl) (q_number hm h2 ho) rfl rfl rfl ?_
        obtain ⟨ho, hok⟩ := hok
        refine ms3 dm_laid_200 (r_lastk (k := 0) hm h2 (rc_0 _ _ _ _ _) rfl ho (rs_0 _ _ _ _ _ _)) rfl rfl rfl ?_
        have he : lp_laid (n + 1) 165 i l I J v w = lp_laid n 201 i l I (va_up J 0 (vp_updL (J 0) (((I 1 ((v 9)).toNatClampNeg) + (v 10))).toNatClampNeg (a_number i l I J (v 2) ((v 10) - (v 10) / (v 8) * (v 8))))) v w := by
          rw [lb_laid_165]
          simp only [hb1, Bool.false_eq_true, if_true, if_false]
        rw [he]
        exact mjR_sub rfl rfl rfl (ih.2.2 _ _ _ _ _ _ hok)
    · intro i l I J v w hok
      have hok : (¬ ((v 8) = 0) ∧ (ok_number i l I J (v 2) ((v 10) - (v 10) / (v 8) * (v 8)) ∧ (ok_fits i l I J (a_number i l I J (v 2) ((v 10) - (v 10) / (v 8) * (v 8))) ∧ (if mj_cnd .ne (a_fits i l I J (a_number i l I J (v 2) ((v 10) - (v 10) / (v 8) * (v 8)))) (0 : Int32) = true then okl_laid n 165 i l I J (upd v 10 ((v 10) + Int32.ofInt (1))) w else (ok_fail i l I J (6 : Int32) (v 3) ∧ True))))) := hok
      refine ms1 dm_laid_201 rfl rfl rfl rfl ?_
      refine ms1 dm_laid_202 rfl rfl rfl rfl ?_
      refine ms1 dm_laid_203 rfl rfl rfl rfl ?_
      refine ms1 dm_laid_205 rfl rfl rfl rfl ?_
      obtain ⟨ho, hok⟩ := hok
      refine ms_irem dm_laid_207 ho rfl ?_
      obtain ⟨ho, hok⟩ := hok
      refine ms4 dm_laid_208 rfl (r_inv (As := [.int (v 2), .int ((v 10) - (v 10) / (v 8) * (v 8))]) hm h2 rfl rfl rfl) (q_number hm h2 ho) rfl rfl rfl ?_
      obtain ⟨ho, hok⟩ := hok
      refine ms4 dm_laid_211 rfl (r_invs (As := [.long (a_number i l I J (v 2) ((v 10) - (v 10) / (v 8) * (v 8)))]) rfl rfl rfl) (q_fits hm h2 ho) rfl rfl rfl ?_
      refine ms_1c dm_laid_214 rfl rfl (fun hb1 => ?_) (fun hb1 => ?_)
      · have hb1 : mj_cnd .ne (a_fits i l I J (a_number i l I J (v 2) ((v 10) - (v 10) / (v 8) * (v 8)))) (0 : Int32) = true := hb1
        rw [if_pos hb1] at hok
        refine ms1 dm_laid_225 rfl rfl rfl rfl ?_
        refine ms2 dm_laid_228 rfl rfl rfl ?_
        have he : lp_laid (n + 1) 201 i l I J v w = lp_laid n 165 i l I J (upd v 10 ((v 10) + Int32.ofInt (1))) w := by
          rw [lb_laid_201]
          simp only [hb1, Bool.false_eq_true, if_true, if_false]
        rw [he]
        exact mjR_sub rfl rfl rfl (ih.2.1 _ _ _ _ _ _ hok)
      · have hb1 : ¬ (mj_cnd .ne (a_fits i l I J (a_number i l I J (v 2) ((v 10) - (v 10) / (v 8) * (v 8)))) (0 : Int32) = true) := hb1
        rw [if_neg hb1] at hok
        refine ms1 dm_laid_217 rfl rfl rfl rfl ?_
        refine ms0 (S' := .int (6 : Int32) :: _) dm_laid_218 rfl rfl rfl rfl ?_
        refine ms1 dm_laid_220 rfl rfl rfl rfl ?_
        obtain ⟨ho, hok⟩ := hok
        refine ms4 dm_laid_221 rfl (r_inv (As := [.int (6 : Int32), .int (v 3)]) hm h2 rfl rfl rfl) (q_fail hm h2 ho) rfl rfl rfl ?_
        have he : lp_laid (n + 1) 201 i l I J v w = ((a_fail i l I J (6 : Int32) (v 3)), (si_fail i l I J (6 : Int32) (v 3)), l, I, J) := by
          rw [lb_laid_201]
          simp only [hb1, Bool.false_eq_true, if_true, if_false]
        rw [he]
        exact ms5 dm_laid_224 rfl rfl rfl
set_option maxRecDepth 20000 in
theorem q_laid {xt : mj_X} {pre post : mj_H} {m : Nat} {i : Nat → Int32} {l : Nat → Int64} {I : Nat → Nat → Int32} {J : Nat → Nat → Int64} {d : Nat} (hm : pre.length = m) (h2 : 2 ≤ m) {p0 : Int32} {p1 : Int32} {p2 : Int32} {n : Nat} (hok : ok_laid n i l I J p0 p1 p2) : pgC xt (d + 4) k_laid (.ref m :: [.int p0, .int p1, .int p2]) (rH pre post m i l I J) (some (.int (s_laid n i l I J p0 p1 p2).1)) (rH pre post m (s_laid n i l I J p0 p1 p2).2.1 (s_laid n i l I J p0 p1 p2).2.2.1 (s_laid n i l I J p0 p1 p2).2.2.2.1 (s_laid n i l I J p0 p1 p2).2.2.2.2) := by
  unfold ok_laid at hok
  refine ms_call pm_laid (Nat.le_of_ble_eq_true rfl) ?_
  dsimp only
  refine ms1 dm_laid_0 rfl rfl rfl rfl ?_
  refine ms1 dm_laid_1 rfl rfl rfl rfl ?_
  obtain ⟨ho, hok⟩ := hok
  refine ms4 dm_laid_2 rfl (r_inv (As := [.int p0]) hm h2 rfl rfl rfl) (q_isNumbers hm h2 ho) rfl rfl rfl ?_
  refine ms_1c dm_laid_5 rfl rfl (fun hb1 => ?_) (fun hb1 => ?_)
  · have hb1 : mj_cnd .eq (a_isNumbers i l I J p0) (0 : Int32) = true := hb1
    rw [if_pos hb1] at hok
    refine ms1 dm_laid_27 rfl rfl rfl rfl ?_
    refine ms0 (S' := .int (3 : Int32) :: _) dm_laid_28 rfl rfl rfl rfl ?_
    refine ms1 dm_laid_29 rfl rfl rfl rfl ?_
    obtain ⟨ho, hok⟩ := hok
    refine ms4 dm_laid_30 rfl (r_inv (As := [.int (3 : Int32), .int p2]) hm h2 rfl rfl rfl) (q_fail hm h2 ho) rfl rfl rfl ?_
    have he : s_laid n i l I J p0 p1 p2 = ((a_fail i l I J (3 : Int32) p2), (si_fail i l I J (3 : Int32) p2), l, I, J) := by
      unfold s_laid
      simp only [hb1, Bool.false_eq_true, if_true, if_false]
    rw [he]
    exact ms5 dm_laid_33 rfl rfl rfl
  · have hb1 : ¬ (mj_cnd .eq (a_isNumbers i l I J p0) (0 : Int32) = true) := hb1
    rw [if_neg hb1] at hok
    refine ms1 dm_laid_8 rfl rfl rfl rfl ?_
    refine ms1 dm_laid_9 rfl rfl rfl rfl ?_
    obtain ⟨ho, hok⟩ := hok
    refine ms4 dm_laid_10 rfl (r_inv (As := [.int p0]) hm h2 rfl rfl rfl) (q_many hm h2 ho) rfl rfl rfl ?_
    refine ms0 (S' := .int (2 : Int32) :: _) dm_laid_13 rfl rfl rfl rfl ?_
    refine ms_2c dm_laid_14 rfl rfl (fun hb2 => ?_) (fun hb2 => ?_)
    · have hb2 : mj_cnd .ne (a_many i l I J p0) (2 : Int32) = true := hb2
      rw [if_pos hb2] at hok
      refine ms1 dm_laid_27 rfl rfl rfl rfl ?_
      refine ms0 (S' := .int (3 : Int32) :: _) dm_laid_28 rfl rfl rfl rfl ?_
      refine ms1 dm_laid_29 rfl rfl rfl rfl ?_
      obtain ⟨ho, hok⟩ := hok
      refine ms4 dm_laid_30 rfl (r_inv (As := [.int (3 : Int32), .int p2]) hm h2 rfl rfl rfl) (q_fail hm h2 ho) rfl rfl rfl ?_
      have he : s_laid n i l I J p0 p1 p2 = ((a_fail i l I J (3 : Int32) p2), (si_fail i l I J (3 : Int32) p2), l, I, J) := by
        unfold s_laid
        simp only [hb1, hb2, Bool.false_eq_true, if_true, if_false]
      rw [he]
      exact ms5 dm_laid_33 rfl rfl rfl
    · have hb2 : ¬ (mj_cnd .ne (a_many i l I J p0) (2 : Int32) = true) := hb2
      rw [if_neg hb2] at hok
      refine ms1 dm_laid_17 rfl rfl rfl rfl ?_
      refine ms1 dm_laid_18 rfl rfl rfl rfl ?_
      obtain ⟨ho, hok⟩ := hok
      refine ms4 dm_laid_19 rfl (r_inv (As := [.int p1]) hm h2 rfl rfl rfl) (q_kindOf hm h2 ho) rfl rfl rfl ?_
      refine ms0 (S' := .int (7 : Int32) :: _) dm_laid_22 rfl rfl rfl rfl ?_
      refine ms_2c dm_laid_24 rfl rfl (fun hb3 => ?_) (fun hb3 => ?_)
      · have hb3 : mj_cnd .ne (a_kindOf i l I J p1) (7 : Int32) = true := hb3
        rw [if_pos hb3] at hok
        refine ms1 dm_laid_34 rfl rfl rfl rfl ?_
        refine ms1 dm_laid_35 rfl rfl rfl rfl ?_
        refine ms0 (S' := .int (0 : Int32) :: _) dm_laid_36 rfl rfl rfl rfl ?_
        obtain ⟨ho, hok⟩ := hok
        refine ms4 dm_laid_37 rfl (r_inv (As := [.int p0, .int (0 : Int32)]) hm h2 rfl rfl rfl) (q_number hm h2 ho) rfl rfl rfl ?_
        refine ms1 dm_laid_40 rfl rfl rfl rfl ?_
        refine ms1 dm_laid_42 rfl rfl rfl rfl ?_
        refine ms1 dm_laid_43 rfl rfl rfl rfl ?_
        refine ms0 (S' := .int (1 : Int32) :: _) dm_laid_44 rfl rfl rfl rfl ?_
        obtain ⟨ho, hok⟩ := hok
        refine ms4 dm_laid_45 rfl (r_inv (As := [.int p0, .int (1 : Int32)]) hm h2 rfl rfl rfl) (q_number hm h2 ho) rfl rfl rfl ?_
        refine ms1 dm_laid_48 rfl rfl rfl rfl ?_
        refine ms1 dm_laid_50 rfl rfl rfl rfl ?_
        refine ms0 (S' := .long (1 : Int64) :: _) dm_laid_52 rfl rfl rfl rfl ?_
        refine ms0 dm_laid_53 rfl rfl rfl rfl ?_
        refine ms_1c dm_laid_54 rfl rfl (fun hb4 => ?_) (fun hb4 => ?_)
        · have hb4 : mj_cnd .lt (lg_cmp (a_number i l I J p0 (0 : Int32)) (1 : Int64)) (0 : Int32) = true := hb4
          rw [if_pos hb4] at hok
          refine ms1 dm_laid_100 rfl rfl rfl rfl ?_
          refine ms0 (S' := .int (5 : Int32) :: _) dm_laid_101 rfl rfl rfl rfl ?_
          refine ms1 dm_laid_102 rfl rfl rfl rfl ?_
          obtain ⟨ho, hok⟩ := hok
          refine ms4 dm_laid_103 rfl (r_inv (As := [.int (5 : Int32), .int p2]) hm h2 rfl rfl rfl) (q_fail hm h2 ho) rfl rfl rfl ?_
          have he : s_laid n i l I J p0 p1 p2 = ((a_fail i l I J (5 : Int32) p2), (si_fail i l I J (5 : Int32) p2), l, I, J) := by
            unfold s_laid
            simp only [hb1, hb2, hb3, hb4, Bool.false_eq_true, if_true, if_false]
          rw [he]
          exact ms5 dm_laid_106 rfl rfl rfl
        · have hb4 : ¬ (mj_cnd .lt (lg_cmp (a_number i l I J p0 (0 : Int32)) (1 : Int64)) (0 : Int32) = true) := hb4
          rw [if_neg hb4] at hok
          refine ms1 dm_laid_57 rfl rfl rfl rfl ?_
          refine ms3 (S' := .long (12 : Int64) :: _) dm_laid_59 rfl rfl rfl rfl ?_
          refine ms0 dm_laid_62 rfl rfl rfl rfl ?_
          refine ms_1c dm_laid_63 rfl rfl (fun hb5 => ?_) (fun hb5 => ?_)
          · have hb5 : mj_cnd .gt (lg_cmp (a_number i l I J p0 (0 : Int32)) (12 : Int64)) (0 : Int32) = true := hb5
            rw [if_pos hb5] at hok
            refine ms1 dm_laid_100 rfl rfl rfl rfl ?_
            refine ms0 (S' := .int (5 : Int32) :: _) dm_laid_101 rfl rfl rfl rfl ?_
            refine ms1 dm_laid_102 rfl rfl rfl rfl ?_
            obtain ⟨ho, hok⟩ := hok
            refine ms4 dm_laid_103 rfl (r_inv (As := [.int (5 : Int32), .int p2]) hm h2 rfl rfl rfl) (q_fail hm h2 ho) rfl rfl rfl ?_
            have he : s_laid n i l I J p0 p1 p2 = ((a_fail i l I J (5 : Int32) p2), (si_fail i l I J (5 : Int32) p2), l, I, J) := by
              unfold s_laid
              simp only [hb1, hb2, hb3, hb4, hb5, Bool.false_eq_true, if_true, if_false]
            rw [he]
            exact ms5 dm_laid_106 rfl rfl rfl
          · have hb5 : ¬ (mj_cnd .gt (lg_cmp (a_number i l I J p0 (0 : Int32)) (12 : Int64)) (0 : Int32) = true) := hb5
            rw [if_neg hb5] at hok
            refine ms1 dm_laid_66 rfl rfl rfl rfl ?_
            refine ms0 (S' := .long (1 : Int64) :: _) dm_laid_68 rfl rfl rfl rfl ?_
            refine ms0 dm_laid_69 rfl rfl rfl rfl ?_
            refine ms_1c dm_laid_70 rfl rfl (fun hb6 => ?_) (fun hb6 => ?_)
            · have hb6 : mj_cnd .lt (lg_cmp (a_number i l I J p0 (1 : Int32)) (1 : Int64)) (0 : Int32) = true := hb6
              rw [if_pos hb6] at hok
              refine ms1 dm_laid_100 rfl rfl rfl rfl ?_
              refine ms0 (S' := .int (5 : Int32) :: _) dm_laid_101 rfl rfl rfl rfl ?_
              refine ms1 dm_laid_102 rfl rfl rfl rfl ?_
              obtain ⟨ho, hok⟩ := hok
              refine ms4 dm_laid_103 rfl (r_inv (As := [.int (5 : Int32), .int p2]) hm h2 rfl rfl rfl) (q_fail hm h2 ho) rfl rfl rfl ?_
              have he : s_laid n i l I J p0 p1 p2 = ((a_fail i l I J (5 : Int32) p2), (si_fail i l I J (5 : Int32) p2), l, I, J) := by
                unfold s_laid
                simp only [hb1, hb2, hb3, hb4, hb5, hb6, Bool.false_eq_true, if_true, if_false]
              rw [he]
              exact ms5 dm_laid_106 rfl rfl rfl
            · have hb6 : ¬ (mj_cnd .lt (lg_cmp (a_number i l I J p0 (1 : Int32)) (1 : Int64)) (0 : Int32) = true) := hb6
              rw [if_neg hb6] at hok
              refine ms1 dm_laid_73 rfl rfl rfl rfl ?_
              refine ms3 (S' := .long (12 : Int64) :: _) dm_laid_75 rfl rfl rfl rfl ?_
              refine ms0 dm_laid_78 rfl rfl rfl rfl ?_
              refine ms_1c dm_laid_79 rfl rfl (fun hb7 => ?_) (fun hb7 => ?_)
              · have hb7 : mj_cnd .gt (lg_cmp (a_number i l I J p0 (1 : Int32)) (12 : Int64)) (0 : Int32) = true := hb7
                rw [if_pos hb7] at hok
                refine ms1 dm_laid_100 rfl rfl rfl rfl ?_
                refine ms0 (S' := .int (5 : Int32) :: _) dm_laid_101 rfl rfl rfl rfl ?_
                refine ms1 dm_laid_102 rfl rfl rfl rfl ?_
                obtain ⟨ho, hok⟩ := hok
                refine ms4 dm_laid_103 rfl (r_inv (As := [.int (5 : Int32), .int p2]) hm h2 rfl rfl rfl) (q_fail hm h2 ho) rfl rfl rfl ?_
                have he : s_laid n i l I J p0 p1 p2 = ((a_fail i l I J (5 : Int32) p2), (si_fail i l I J (5 : Int32) p2), l, I, J) := by
                  unfold s_laid
                  simp only [hb1, hb2, hb3, hb4, hb5, hb6, hb7, Bool.false_eq_true, if_true, if_false]
                rw [he]
                exact ms5 dm_laid_106 rfl rfl rfl
              · have hb7 : ¬ (mj_cnd .gt (lg_cmp (a_number i l I J p0 (1 : Int32)) (12 : Int64)) (0 : Int32) = true) := hb7
                rw [if_neg hb7] at hok
                refine ms1 dm_laid_82 rfl rfl rfl rfl ?_
                refine ms1 dm_laid_83 rfl rfl rfl rfl ?_
                obtain ⟨ho, hok⟩ := hok
                refine ms4 dm_laid_84 rfl (r_inv (As := [.int p1]) hm h2 rfl rfl rfl) (q_kindOf hm h2 ho) rfl rfl rfl ?_
                refine ms0 (S' := .int (1 : Int32) :: _) dm_laid_87 rfl rfl rfl rfl ?_
                refine ms_2c dm_laid_88 rfl rfl (fun hb8 => ?_) (fun hb8 => ?_)
                · have hb8 : mj_cnd .eq (a_kindOf i l I J p1) (1 : Int32) = true := hb8
                  rw [if_pos hb8] at hok
                  refine ms1 dm_laid_100 rfl rfl rfl rfl ?_
                  refine ms0 (S' := .int (5 : Int32) :: _) dm_laid_101 rfl rfl rfl rfl ?_
                  refine ms1 dm_laid_102 rfl rfl rfl rfl ?_
                  obtain ⟨ho, hok⟩ := hok
                  refine ms4 dm_laid_103 rfl (r_inv (As := [.int (5 : Int32), .int p2]) hm h2 rfl rfl rfl) (q_fail hm h2 ho) rfl rfl rfl ?_
                  have he : s_laid n i l I J p0 p1 p2 = ((a_fail i l I J (5 : Int32) p2), (si_fail i l I J (5 : Int32) p2), l, I, J) := by
                    unfold s_laid
                    simp only [hb1, hb2, hb3, hb4, hb5, hb6, hb7, hb8, Bool.false_eq_true, if_true, if_false]
                  rw [he]
                  exact ms5 dm_laid_106 rfl rfl rfl
                · have hb8 : ¬ (mj_cnd .eq (a_kindOf i l I J p1) (1 : Int32) = true) := hb8
                  rw [if_neg hb8] at hok
                  refine ms1 dm_laid_91 rfl rfl rfl rfl ?_
                  refine ms1 dm_laid_92 rfl rfl rfl rfl ?_
                  obtain ⟨ho, hok⟩ := hok
                  refine ms4 dm_laid_93 rfl (r_inv (As := [.int p1]) hm h2 rfl rfl rfl) (q_kindOf hm h2 ho) rfl rfl rfl ?_
                  refine ms0 (S' := .int (3 : Int32) :: _) dm_laid_96 rfl rfl rfl rfl ?_
                  refine ms_2c dm_laid_97 rfl rfl (fun hb9 => ?_) (fun hb9 => ?_)
                  · have hb9 : mj_cnd .ne (a_kindOf i l I J p1) (3 : Int32) = true := hb9
                    rw [if_pos hb9] at hok
                    refine ms1 dm_laid_107 rfl rfl rfl rfl ?_
                    refine ms1 dm_laid_108 rfl rfl rfl rfl ?_
                    obtain ⟨ho, hok⟩ := hok
                    refine ms4 dm_laid_109 rfl (r_inv (As := [.int p1]) hm h2 rfl rfl rfl) (q_kindOf hm h2 ho) rfl rfl rfl ?_
                    refine ms0 (S' := .int (6 : Int32) :: _) dm_laid_112 rfl rfl rfl rfl ?_
                    refine ms_2c dm_laid_114 rfl rfl (fun hb10 => ?_) (fun hb10 => ?_)
                    · have hb10 : mj_cnd .ne (a_kindOf i l I J p1) (6 : Int32) = true := hb10
                      rw [if_pos hb10] at hok
                      refine ms1 dm_laid_131 rfl rfl rfl rfl ?_
                      refine ms1 dm_laid_132 rfl rfl rfl rfl ?_
                      obtain ⟨ho, hok⟩ := hok
                      refine ms4 dm_laid_133 rfl (r_inv (As := [.int p1]) hm h2 rfl rfl rfl) (q_many hm h2 ho) rfl rfl rfl ?_
                      refine ms1 dm_laid_136 rfl rfl rfl rfl ?_
                      refine ms1 dm_laid_138 rfl rfl rfl rfl ?_
                      refine ms_1c dm_laid_140 rfl rfl (fun hb11 => ?_) (fun hb11 => ?_)
                      · have hb11 : mj_cnd .ne (a_many i l I J p1) (0 : Int32) = true := hb11
                        rw [if_pos hb11] at hok
                        refine ms1 dm_laid_150 rfl rfl rfl rfl ?_
                        refine ms1 dm_laid_151 rfl rfl rfl rfl ?_
                        refine ms0 dm_laid_153 rfl rfl rfl rfl ?_
                        refine ms1 dm_laid_154 rfl rfl rfl rfl ?_
                        refine ms0 dm_laid_156 rfl rfl rfl rfl ?_
                        obtain ⟨ho, hok⟩ := hok
                        refine ms4 dm_laid_157 rfl (r_inv (As := [.int ((a_number i l I J p0 (0 : Int32))).toInt32, .int ((a_number i l I J p0 (1 : Int32))).toInt32]) hm h2 rfl rfl rfl) (q_table hm h2 ho) rfl rfl rfl ?_
                        refine ms1 dm_laid_160 rfl rfl rfl rfl ?_
                        have he : s_laid n i l I J p0 p1 p2 = lp_laid n 162 (si_table i l I J (((a_number i l I J p0 (0 : Int32))).toInt32) (((a_number i l I J p0 (1 : Int32))).toInt32)) l (sI_table i l I J (((a_number i l I J p0 (0 : Int32))).toInt32) (((a_number i l I J p0 (1 : Int32))).toInt32)) J (upd (upd (upd (upd (fun _ => 0) 2 p1) 3 p2) 8 (a_many i l I J p1)) 9 (a_table i l I J (((a_number i l I J p0 (0 : Int32))).toInt32) (((a_number i l I J p0 (1 : Int32))).toInt32))) (vp_updL (vp_updL (fun _ => 0) 4 (a_number i l I J p0 (0 : Int32))) 6 (a_number i l I J p0 (1 : Int32))) := by
                          unfold s_laid
                          simp only [hb1, hb2, hb3, hb4, hb5, hb6, hb7, hb8, hb9, hb10, hb11, Bool.false_eq_true, if_true, if_false]
                        rw [he]
                        exact mjR_sub rfl rfl rfl ((ql_laid hm h2 n).1 _ _ _ _ _ _ hok)
                      · have hb11 : ¬ (mj_cnd .ne (a_many i l I J p1) (0 : Int32) = true) := hb11
                        rw [if_neg hb11] at hok
                        refine ms1 dm_laid_143 rfl rfl rfl rfl ?_
                        refine ms0 (S' := .int (4 : Int32) :: _) dm_laid_144 rfl rfl rfl rfl ?_
                        refine ms1 dm_laid_145 rfl rfl rfl rfl ?_
                        obtain ⟨ho, hok⟩ := hok
                        refine ms4 dm_laid_146 rfl (r_inv (As := [.int (4 : Int32), .int p2]) hm h2 rfl rfl rfl) (q_fail hm h2 ho) rfl rfl rfl ?_
                        have he : s_laid n i l I J p0 p1 p2 = ((a_fail i l I J (4 : Int32) p2), (si_fail i l I J (4 : Int32) p2), l, I, J) := by
                          unfold s_laid
                          simp only [hb1, hb2, hb3, hb4, hb5, hb6, hb7, hb8, hb9, hb10, hb11, Bool.false_eq_true, if_true, if_false]
                        rw [he]
                        exact ms5 dm_laid_149 rfl rfl rfl
                    · have hb10 : ¬ (mj_cnd .ne (a_kindOf i l I J p1) (6 : Int32) = true) := hb10
                      rw [if_neg hb10] at hok
                      refine ms1 dm_laid_117 rfl rfl rfl rfl ?_
                      refine ms1 dm_laid_118 rfl rfl rfl rfl ?_
                      obtain ⟨ho, hok⟩ := hok
                      refine ms4 dm_laid_119 rfl (r_inv (As := [.int p1]) hm h2 rfl rfl rfl) (q_many hm h2 ho) rfl rfl rfl ?_
                      refine ms1 dm_laid_122 rfl rfl rfl rfl ?_
                      refine ms1 dm_laid_123 rfl rfl rfl rfl ?_
                      obtain ⟨ho, hok⟩ := hok
                      refine ms4 dm_laid_124 rfl (r_inv (As := [.int p1]) hm h2 rfl rfl rfl) (q_columns hm h2 ho) rfl rfl rfl ?_
                      refine ms0 dm_laid_127 rfl rfl rfl rfl ?_
                      refine ms2 dm_laid_128 rfl rfl rfl ?_
                      refine ms1 dm_laid_136 rfl rfl rfl rfl ?_
                      refine ms1 dm_laid_138 rfl rfl rfl rfl ?_
                      refine ms_1c dm_laid_140 rfl rfl (fun hb12 => ?_) (fun hb12 => ?_)
                      · have hb12 : mj_cnd .ne ((a_many i l I J p1) * (a_columns i l I J p1)) (0 : Int32) = true := hb12
                        rw [if_pos hb12] at hok
                        refine ms1 dm_laid_150 rfl rfl rfl rfl ?_
                        refine ms1 dm_laid_151 rfl rfl rfl rfl ?_
                        refine ms0 dm_laid_153 rfl rfl rfl rfl ?_
                        refine ms1 dm_laid_154 rfl rfl rfl rfl ?_
                        refine ms0 dm_laid_156 rfl rfl rfl rfl ?_
                        obtain ⟨ho, hok⟩ := hok
                        refine ms4 dm_laid_157 rfl (r_inv (As := [.int ((a_number i l I J p0 (0 : Int32))).toInt32, .int ((a_number i l I J p0 (1 : Int32))).toInt32]) hm h2 rfl rfl rfl) (q_table hm h2 ho) rfl rfl rfl ?_
                        refine ms1 dm_laid_160 rfl rfl rfl rfl ?_
                        have he : s_laid n i l I J p0 p1 p2 = lp_laid n 162 (si_table i l I J (((a_number i l I J p0 (0 : Int32))).toInt32) (((a_number i l I J p0 (1 : Int32))).toInt32)) l (sI_table i l I J (((a_number i l I J p0 (0 : Int32))).toInt32) (((a_number i l I J p0 (1 : Int32))).toInt32)) J (upd (upd (upd (upd (fun _ => 0) 2 p1) 3 p2) 8 ((a_many i l I J p1) * (a_columns i l I J p1))) 9 (a_table i l I J (((a_number i l I J p0 (0 : Int32))).toInt32) (((a_number i l I J p0 (1 : Int32))).toInt32))) (vp_updL (vp_updL (fun _ => 0) 4 (a_number i l I J p0 (0 : Int32))) 6 (a_number i l I J p0 (1 : Int32))) := by
                          unfold s_laid
                          simp only [hb1, hb2, hb3, hb4, hb5, hb6, hb7, hb8, hb9, hb10, hb12, Bool.false_eq_true, if_true, if_false]
                        rw [he]
                        exact mjR_sub rfl rfl rfl ((ql_laid hm h2 n).1 _ _ _ _ _ _ hok)
                      · have hb12 : ¬ (mj_cnd .ne ((a_many i l I J p1) * (a_columns i l I J p1)) (0 : Int32) = true) := hb12
                        rw [if_neg hb12] at hok
                        refine ms1 dm_laid_143 rfl rfl rfl rfl ?_
                        refine ms0 (S' := .int (4 : Int32) :: _) dm_laid_144 rfl rfl rfl rfl ?_
                        refine ms1 dm_laid_145 rfl rfl rfl rfl ?_
                        obtain ⟨ho, hok⟩ := hok
                        refine ms4 dm_laid_146 rfl (r_inv (As := [.int (4 : Int32), .int p2]) hm h2 rfl rfl rfl) (q_fail hm h2 ho) rfl rfl rfl ?_
                        have he : s_laid n i l I J p0 p1 p2 = ((a_fail i l I J (4 : Int32) p2), (si_fail i l I J (4 : Int32) p2), l, I, J) := by
                          unfold s_laid
                          simp only [hb1, hb2, hb3, hb4, hb5, hb6, hb7, hb8, hb9, hb10, hb12, Bool.false_eq_true, if_true, if_false]
                        rw [he]
                        exact ms5 dm_laid_149 rfl rfl rfl
                  · have hb9 : ¬ (mj_cnd .ne (a_kindOf i l I J p1) (3 : Int32) = true) := hb9
                    rw [if_neg hb9] at hok
                    refine ms1 dm_laid_100 rfl rfl rfl rfl ?_
                    refine ms0 (S' := .int (5 : Int32) :: _) dm_laid_101 rfl rfl rfl rfl ?_
                    refine ms1 dm_laid_102 rfl rfl rfl rfl ?_
                    obtain ⟨ho, hok⟩ := hok
                    refine ms4 dm_laid_103 rfl (r_inv (As := [.int (5 : Int32), .int p2]) hm h2 rfl rfl rfl) (q_fail hm h2 ho) rfl rfl rfl ?_
                    have he : s_laid n i l I J p0 p1 p2 = ((a_fail i l I J (5 : Int32) p2), (si_fail i l I J (5 : Int32) p2), l, I, J) := by
                      unfold s_laid
                      simp only [hb1, hb2, hb3, hb4, hb5, hb6, hb7, hb8, hb9, Bool.false_eq_true, if_true, if_false]
                    rw [he]
                    exact ms5 dm_laid_106 rfl rfl rfl
      · have hb3 : ¬ (mj_cnd .ne (a_kindOf i l I J p1) (7 : Int32) = true) := hb3
        rw [if_neg hb3] at hok
        refine ms1 dm_laid_27 rfl rfl rfl rfl ?_
        refine ms0 (S' := .int (3 : Int32) :: _) dm_laid_28 rfl rfl rfl rfl ?_
        refine ms1 dm_laid_29 rfl rfl rfl rfl ?_
        obtain ⟨ho, hok⟩ := hok
        refine ms4 dm_laid_30 rfl (r_inv (As := [.int (3 : Int32), .int p2]) hm h2 rfl rfl rfl) (q_fail hm h2 ho) rfl rfl rfl ?_
        have he : s_laid n i l I J p0 p1 p2 = ((a_fail i l I J (3 : Int32) p2), (si_fail i l I J (3 : Int32) p2), l, I, J) := by
          unfold s_laid
          simp only [hb1, hb2, hb3, Bool.false_eq_true, if_true, if_false]
        rw [he]
        exact ms5 dm_laid_33 rfl rfl rfl
def k_picks : Nat := 266
set_option maxRecDepth 20000 in
theorem pm_picks : mj_mmof pg_ms k_picks = some ((⟨"ArrayCalculatorModel", "picks", "(III)I"⟩, prog_14_method_60_code, 7, (Option.some Jvm.ClassFile.FieldType.int)), 12, false, mj_dec prog_14_method_60_code) := rfl
theorem dm_picks_0 : mj_dec prog_14_method_60_code 0 = some (.aload_n 0, 1) := by decide +kernel
theorem dm_picks_1 : mj_dec prog_14_method_60_code 1 = some (.iload_n 1, 1) := by decide +kernel
theorem dm_picks_2 : mj_dec prog_14_method_60_code 2 = some (.invokevirtual 162, 3) := by decide +kernel
theorem dm_picks_5 : mj_dec prog_14_method_60_code 5 = some (.ifCond .ne 13, 3) := by decide +kernel
theorem dm_picks_8 : mj_dec prog_14_method_60_code 8 = some (.aload_n 0, 1) := by decide +kernel
theorem dm_picks_9 : mj_dec prog_14_method_60_code 9 = some (.iload_n 2, 1) := by decide +kernel
theorem dm_picks_10 : mj_dec prog_14_method_60_code 10 = some (.invokevirtual 146, 3) := by decide +kernel
theorem dm_picks_13 : mj_dec prog_14_method_60_code 13 = some (.bipush 6, 2) := by decide +kernel
theorem dm_picks_15 : mj_dec prog_14_method_60_code 15 = some (.if_icmp .lt 10, 3) := by decide +kernel
theorem dm_picks_18 : mj_dec prog_14_method_60_code 18 = some (.aload_n 0, 1) := by decide +kernel
theorem dm_picks_19 : mj_dec prog_14_method_60_code 19 = some (.iconst 3, 1) := by decide +kernel
theorem dm_picks_20 : mj_dec prog_14_method_60_code 20 = some (.iload_n 3, 1) := by decide +kernel
theorem dm_picks_21 : mj_dec prog_14_method_60_code 21 = some (.invokevirtual 190, 3) := by decide +kernel
theorem dm_picks_24 : mj_dec prog_14_method_60_code 24 = some (.ireturn, 1) := by decide +kernel
theorem dm_picks_25 : mj_dec prog_14_method_60_code 25 = some (.aload_n 0, 1) := by decide +kernel
theorem dm_picks_26 : mj_dec prog_14_method_60_code 26 = some (.iload_n 2, 1) := by decide +kernel
theorem dm_picks_27 : mj_dec prog_14_method_60_code 27 = some (.invokevirtual 146, 3) := by decide +kernel
theorem dm_picks_30 : mj_dec prog_14_method_60_code 30 = some (.iconst 1, 1) := by decide +kernel
theorem dm_picks_31 : mj_dec prog_14_method_60_code 31 = some (.if_icmp .eq 12, 3) := by decide +kernel
theorem dm_picks_34 : mj_dec prog_14_method_60_code 34 = some (.aload_n 0, 1) := by decide +kernel
theorem dm_picks_35 : mj_dec prog_14_method_60_code 35 = some (.iload_n 2, 1) := by decide +kernel
theorem dm_picks_36 : mj_dec prog_14_method_60_code 36 = some (.invokevirtual 146, 3) := by decide +kernel
theorem dm_picks_39 : mj_dec prog_14_method_60_code 39 = some (.iconst 3, 1) := by decide +kernel
theorem dm_picks_40 : mj_dec prog_14_method_60_code 40 = some (.if_icmp .ne 10, 3) := by decide +kernel
theorem dm_picks_43 : mj_dec prog_14_method_60_code 43 = some (.aload_n 0, 1) := by decide +kernel
theorem dm_picks_44 : mj_dec prog_14_method_60_code 44 = some (.iconst 5, 1) := by decide +kernel
theorem dm_picks_45 : mj_dec prog_14_method_60_code 45 = some (.iload_n 3, 1) := by decide +kernel
theorem dm_picks_46 : mj_dec prog_14_method_60_code 46 = some (.invokevirtual 190, 3) := by decide +kernel
theorem dm_picks_49 : mj_dec prog_14_method_60_code 49 = some (.ireturn, 1) := by decide +kernel
theorem dm_picks_50 : mj_dec prog_14_method_60_code 50 = some (.aload_n 0, 1) := by decide +kernel
theorem dm_picks_51 : mj_dec prog_14_method_60_code 51 = some (.iload_n 2, 1) := by decide +kernel
theorem dm_picks_52 : mj_dec prog_14_method_60_code 52 = some (.invokevirtual 162, 3) := by decide +kernel
theorem dm_picks_55 : mj_dec prog_14_method_60_code 55 = some (.ifCond .ne 28, 3) := by decide +kernel
theorem dm_picks_58 : mj_dec prog_14_method_60_code 58 = some (.aload_n 0, 1) := by decide +kernel
theorem dm_picks_59 : mj_dec prog_14_method_60_code 59 = some (.iload_n 1, 1) := by decide +kernel
theorem dm_picks_60 : mj_dec prog_14_method_60_code 60 = some (.invokevirtual 146, 3) := by decide +kernel
theorem dm_picks_63 : mj_dec prog_14_method_60_code 63 = some (.bipush 6, 2) := by decide +kernel
theorem dm_picks_65 : mj_dec prog_14_method_60_code 65 = some (.if_icmp .ne 18, 3) := by decide +kernel
theorem dm_picks_68 : mj_dec prog_14_method_60_code 68 = some (.aload_n 0, 1) := by decide +kernel
theorem dm_picks_69 : mj_dec prog_14_method_60_code 69 = some (.iload_n 2, 1) := by decide +kernel
theorem dm_picks_70 : mj_dec prog_14_method_60_code 70 = some (.invokevirtual 134, 3) := by decide +kernel
theorem dm_picks_73 : mj_dec prog_14_method_60_code 73 = some (.ifCond .ne 10, 3) := by decide +kernel
theorem dm_picks_76 : mj_dec prog_14_method_60_code 76 = some (.aload_n 0, 1) := by decide +kernel
theorem dm_picks_77 : mj_dec prog_14_method_60_code 77 = some (.iconst 4, 1) := by decide +kernel
theorem dm_picks_78 : mj_dec prog_14_method_60_code 78 = some (.iload_n 3, 1) := by decide +kernel
theorem dm_picks_79 : mj_dec prog_14_method_60_code 79 = some (.invokevirtual 190, 3) := by decide +kernel
theorem dm_picks_82 : mj_dec prog_14_method_60_code 82 = some (.ireturn, 1) := by decide +kernel
theorem dm_picks_83 : mj_dec prog_14_method_60_code 83 = some (.iconst 0, 1) := by decide +kernel
theorem dm_picks_84 : mj_dec prog_14_method_60_code 84 = some (.istore 4, 2) := by decide +kernel
theorem dm_picks_86 : mj_dec prog_14_method_60_code 86 = some (.iload 4, 2) := by decide +kernel
theorem dm_picks_88 : mj_dec prog_14_method_60_code 88 = some (.aload_n 0, 1) := by decide +kernel
theorem dm_picks_89 : mj_dec prog_14_method_60_code 89 = some (.iload_n 2, 1) := by decide +kernel
theorem dm_picks_90 : mj_dec prog_14_method_60_code 90 = some (.invokevirtual 134, 3) := by decide +kernel
theorem dm_picks_93 : mj_dec prog_14_method_60_code 93 = some (.if_icmp .ge 55, 3) := by decide +kernel
theorem dm_picks_96 : mj_dec prog_14_method_60_code 96 = some (.aload_n 0, 1) := by decide +kernel
theorem dm_picks_97 : mj_dec prog_14_method_60_code 97 = some (.iload_n 2, 1) := by decide +kernel
theorem dm_picks_98 : mj_dec prog_14_method_60_code 98 = some (.iload 4, 2) := by decide +kernel
theorem dm_picks_100 : mj_dec prog_14_method_60_code 100 = some (.invokevirtual 138, 3) := by decide +kernel
theorem dm_picks_103 : mj_dec prog_14_method_60_code 103 = some (.lstore 5, 2) := by decide +kernel
theorem dm_picks_105 : mj_dec prog_14_method_60_code 105 = some (.lload 5, 2) := by decide +kernel
theorem dm_picks_107 : mj_dec prog_14_method_60_code 107 = some (.lconst 0, 1) := by decide +kernel
theorem dm_picks_108 : mj_dec prog_14_method_60_code 108 = some (.lcmp, 1) := by decide +kernel
theorem dm_picks_109 : mj_dec prog_14_method_60_code 109 = some (.ifCond .lt 15, 3) := by decide +kernel
theorem dm_picks_112 : mj_dec prog_14_method_60_code 112 = some (.lload 5, 2) := by decide +kernel
theorem dm_picks_114 : mj_dec prog_14_method_60_code 114 = some (.aload_n 0, 1) := by decide +kernel
theorem dm_picks_115 : mj_dec prog_14_method_60_code 115 = some (.iload_n 1, 1) := by decide +kernel
theorem dm_picks_116 : mj_dec prog_14_method_60_code 116 = some (.invokevirtual 134, 3) := by decide +kernel
theorem dm_picks_119 : mj_dec prog_14_method_60_code 119 = some (.i2l, 1) := by decide +kernel
theorem dm_picks_120 : mj_dec prog_14_method_60_code 120 = some (.lcmp, 1) := by decide +kernel
theorem dm_picks_121 : mj_dec prog_14_method_60_code 121 = some (.ifCond .lt 11, 3) := by decide +kernel
theorem dm_picks_124 : mj_dec prog_14_method_60_code 124 = some (.aload_n 0, 1) := by decide +kernel
theorem dm_picks_125 : mj_dec prog_14_method_60_code 125 = some (.bipush 7, 2) := by decide +kernel
theorem dm_picks_127 : mj_dec prog_14_method_60_code 127 = some (.iload_n 3, 1) := by decide +kernel
theorem dm_picks_128 : mj_dec prog_14_method_60_code 128 = some (.invokevirtual 190, 3) := by decide +kernel
theorem dm_picks_131 : mj_dec prog_14_method_60_code 131 = some (.ireturn, 1) := by decide +kernel
theorem dm_picks_132 : mj_dec prog_14_method_60_code 132 = some (.aload_n 0, 1) := by decide +kernel
theorem dm_picks_133 : mj_dec prog_14_method_60_code 133 = some (.getfield 33, 3) := by decide +kernel
theorem dm_picks_136 : mj_dec prog_14_method_60_code 136 = some (.iload 4, 2) := by decide +kernel
theorem dm_picks_138 : mj_dec prog_14_method_60_code 138 = some (.lload 5, 2) := by decide +kernel
theorem dm_picks_140 : mj_dec prog_14_method_60_code 140 = some (.l2i, 1) := by decide +kernel
theorem dm_picks_141 : mj_dec prog_14_method_60_code 141 = some (.iastore, 1) := by decide +kernel
theorem dm_picks_142 : mj_dec prog_14_method_60_code 142 = some (.iinc 4 1, 3) := by decide +kernel
theorem dm_picks_145 : mj_dec prog_14_method_60_code 145 = some (.goto (-59), 3) := by decide +kernel
theorem dm_picks_148 : mj_dec prog_14_method_60_code 148 = some (.aload_n 0, 1) := by decide +kernel
theorem dm_picks_149 : mj_dec prog_14_method_60_code 149 = some (.iload_n 2, 1) := by decide +kernel
theorem dm_picks_150 : mj_dec prog_14_method_60_code 150 = some (.invokevirtual 162, 3) := by decide +kernel
theorem dm_picks_153 : mj_dec prog_14_method_60_code 153 = some (.ifCond .eq 15, 3) := by decide +kernel
theorem dm_picks_156 : mj_dec prog_14_method_60_code 156 = some (.aload_n 0, 1) := by decide +kernel
theorem dm_picks_157 : mj_dec prog_14_method_60_code 157 = some (.iload_n 1, 1) := by decide +kernel
theorem dm_picks_158 : mj_dec prog_14_method_60_code 158 = some (.aload_n 0, 1) := by decide +kernel
theorem dm_picks_159 : mj_dec prog_14_method_60_code 159 = some (.getfield 33, 3) := by decide +kernel
theorem dm_picks_162 : mj_dec prog_14_method_60_code 162 = some (.iconst 0, 1) := by decide +kernel
theorem dm_picks_163 : mj_dec prog_14_method_60_code 163 = some (.iaload, 1) := by decide +kernel
theorem dm_picks_164 : mj_dec prog_14_method_60_code 164 = some (.invokevirtual 217, 3) := by decide +kernel
theorem dm_picks_167 : mj_dec prog_14_method_60_code 167 = some (.ireturn, 1) := by decide +kernel
theorem dm_picks_168 : mj_dec prog_14_method_60_code 168 = some (.aload_n 0, 1) := by decide +kernel
theorem dm_picks_169 : mj_dec prog_14_method_60_code 169 = some (.iload_n 2, 1) := by decide +kernel
theorem dm_picks_170 : mj_dec prog_14_method_60_code 170 = some (.invokevirtual 134, 3) := by decide +kernel
theorem dm_picks_173 : mj_dec prog_14_method_60_code 173 = some (.aload_n 0, 1) := by decide +kernel
theorem dm_picks_174 : mj_dec prog_14_method_60_code 174 = some (.iload_n 1, 1) := by decide +kernel
theorem dm_picks_175 : mj_dec prog_14_method_60_code 175 = some (.invokevirtual 146, 3) := by decide +kernel
theorem dm_picks_178 : mj_dec prog_14_method_60_code 178 = some (.bipush 7, 2) := by decide +kernel
theorem dm_picks_180 : mj_dec prog_14_method_60_code 180 = some (.if_icmp .ne 8, 3) := by decide +kernel
theorem dm_picks_183 : mj_dec prog_14_method_60_code 183 = some (.bipush 24, 2) := by decide +kernel
theorem dm_picks_185 : mj_dec prog_14_method_60_code 185 = some (.goto 20, 3) := by decide +kernel
theorem dm_picks_188 : mj_dec prog_14_method_60_code 188 = some (.aload_n 0, 1) := by decide +kernel
theorem dm_picks_189 : mj_dec prog_14_method_60_code 189 = some (.iload_n 1, 1) := by decide +kernel
theorem dm_picks_190 : mj_dec prog_14_method_60_code 190 = some (.invokevirtual 146, 3) := by decide +kernel
theorem dm_picks_193 : mj_dec prog_14_method_60_code 193 = some (.bipush 6, 2) := by decide +kernel
theorem dm_picks_195 : mj_dec prog_14_method_60_code 195 = some (.if_icmp .ne 8, 3) := by decide +kernel
theorem dm_picks_198 : mj_dec prog_14_method_60_code 198 = some (.bipush 12, 2) := by decide +kernel
theorem dm_picks_200 : mj_dec prog_14_method_60_code 200 = some (.goto 5, 3) := by decide +kernel
theorem dm_picks_203 : mj_dec prog_14_method_60_code 203 = some (.bipush 120, 2) := by decide +kernel
theorem dm_picks_205 : mj_dec prog_14_method_60_code 205 = some (.if_icmp .le 11, 3) := by decide +kernel
theorem dm_picks_208 : mj_dec prog_14_method_60_code 208 = some (.aload_n 0, 1) := by decide +kernel
theorem dm_picks_209 : mj_dec prog_14_method_60_code 209 = some (.bipush 8, 2) := by decide +kernel
theorem dm_picks_211 : mj_dec prog_14_method_60_code 211 = some (.iload_n 3, 1) := by decide +kernel
theorem dm_picks_212 : mj_dec prog_14_method_60_code 212 = some (.invokevirtual 190, 3) := by decide +kernel
theorem dm_picks_215 : mj_dec prog_14_method_60_code 215 = some (.ireturn, 1) := by decide +kernel
theorem dm_picks_216 : mj_dec prog_14_method_60_code 216 = some (.aload_n 0, 1) := by decide +kernel
theorem dm_picks_217 : mj_dec prog_14_method_60_code 217 = some (.iload_n 1, 1) := by decide +kernel
theorem dm_picks_218 : mj_dec prog_14_method_60_code 218 = some (.aload_n 0, 1) := by decide +kernel
theorem dm_picks_219 : mj_dec prog_14_method_60_code 219 = some (.iload_n 2, 1) := by decide +kernel
theorem dm_picks_220 : mj_dec prog_14_method_60_code 220 = some (.invokevirtual 134, 3) := by decide +kernel
theorem dm_picks_223 : mj_dec prog_14_method_60_code 223 = some (.invokevirtual 223, 3) := by decide +kernel
theorem dm_picks_226 : mj_dec prog_14_method_60_code 226 = some (.ireturn, 1) := by decide +kernel
def lp_picks : Nat → Nat → (Nat → Int32) → (Nat → Int64) → (Nat → Nat → Int32) → (Nat → Nat → Int64) → (Nat → Int32) → (Nat → Int64) → Int32 × (Nat → Int32) × (Nat → Int64) × (Nat → Nat → Int32) × (Nat → Nat → Int64)
  | 0, _, i, l, I, J, _, _ => (0, i, l, I, J)
  | n + 1, hd, i, l, I, J, v, w => match hd with
    | 86 => (if mj_cnd .ge (v 4) (a_many i l I J (v 2)) = true then (if mj_cnd .eq (a_isOne i l I J (v 2)) (0 : Int32) = true then (if mj_cnd .ne (a_kindOf i l I J (v 1)) (7 : Int32) = true then (if mj_cnd .ne (a_kindOf i l I J (v 1)) (6 : Int32) = true then (if mj_cnd .le (a_many i l I J (v 2)) (120 : Int32) = true then (((s_picked n i l I J (v 1) (a_many i l I J (v 2))).1), ((s_picked n i l I J (v 1) (a_many i l I J (v 2))).2.1), ((s_picked n i l I J (v 1) (a_many i l I J (v 2))).2.2.1), ((s_picked n i l I J (v 1) (a_many i l I J (v 2))).2.2.2.1), ((s_picked n i l I J (v 1) (a_many i l I J (v 2))).2.2.2.2)) else ((a_fail i l I J (8 : Int32) (v 3)), (si_fail i l I J (8 : Int32) (v 3)), l, I, J)) else (if mj_cnd .le (a_many i l I J (v 2)) (12 : Int32) = true then (((s_picked n i l I J (v 1) (a_many i l I J (v 2))).1), ((s_picked n i l I J (v 1) (a_many i l I J (v 2))).2.1), ((s_picked n i l I J (v 1) (a_many i l I J (v 2))).2.2.1), ((s_picked n i l I J (v 1) (a_many i l I J (v 2))).2.2.2.1), ((s_picked n i l I J (v 1) (a_many i l I J (v 2))).2.2.2.2)) else ((a_fail i l I J (8 : Int32) (v 3)), (si_fail i l I J (8 : Int32) (v 3)), l, I, J))) else (if mj_cnd .le (a_many i l I J (v 2)) (24 : Int32) = true then (((s_picked n i l I J (v 1) (a_many i l I J (v 2))).1), ((s_picked n i l I J (v 1) (a_many i l I J (v 2))).2.1), ((s_picked n i l I J (v 1) (a_many i l I J (v 2))).2.2.1), ((s_picked n i l I J (v 1) (a_many i l I J (v 2))).2.2.2.1), ((s_picked n i l I J (v 1) (a_many i l I J (v 2))).2.2.2.2)) else ((a_fail i l I J (8 : Int32) (v 3)), (si_fail i l I J (8 : Int32) (v 3)), l, I, J))) else ((a_itemOf i l I J (v 1) (I 14 ((0 : Int32)).toNatClampNeg)), (si_itemOf i l I J (v 1) (I 14 ((0 : Int32)).toNatClampNeg)), l, (sI_itemOf i l I J (v 1) (I 14 ((0 : Int32)).toNatClampNeg)), J)) else (if mj_cnd .lt (lg_cmp (a_number i l I J (v 2) (v 4)) (0 : Int64)) (0 : Int32) = true then ((a_fail i l I J (7 : Int32) (v 3)), (si_fail i l I J (7 : Int32) (v 3)), l, I, J) else (if mj_cnd .lt (lg_cmp (a_number i l I J (v 2) (v 4)) ((a_many i l I J (v 1))).toInt64) (0 : Int32) = true then lp_picks n 86 i l (va_up I 14 (upd (I 14) ((v 4)).toNatClampNeg ((a_number i l I J (v 2) (v 4))).toInt32)) J (upd v 4 ((v 4) + Int32.ofInt (1))) w else ((a_fail i l I J (7 : Int32) (v 3)), (si_fail i l I J (7 : Int32) (v 3)), l, I, J))))
    | _ => (0, i, l, I, J)
theorem lb_picks_86 (n : Nat) (i : Nat → Int32) (l : Nat → Int64) (I : Nat → Nat → Int32) (J : Nat → Nat → Int64) (v : Nat → Int32) (w : Nat → Int64) : lp_picks (n + 1) 86 i l I J v w = (if mj_cnd .ge (v 4) (a_many i l I J (v 2)) = true then (if mj_cnd .eq (a_isOne i l I J (v 2)) (0 : Int32) = true then (if mj_cnd .ne (a_kindOf i l I J (v 1)) (7 : Int32) = true then (if mj_cnd .ne (a_kindOf i l I J (v 1)) (6 : Int32) = true then (if mj_cnd .le (a_many i l I J (v 2)) (120 : Int32) = true then (((s_picked n i l I J (v 1) (a_many i l I J (v 2))).1), ((s_picked n i l I J (v 1) (a_many i l I J (v 2))).2.1), ((s_picked n i l I J (v 1) (a_many i l I J (v 2))).2.2.1), ((s_picked n i l I J (v 1) (a_many i l I J (v 2))).2.2.2.1), ((s_picked n i l I J (v 1) (a_many i l I J (v 2))).2.2.2.2)) else ((a_fail i l I J (8 : Int32) (v 3)), (si_fail i l I J (8 : Int32) (v 3)), l, I, J)) else (if mj_cnd .le (a_many i l I J (v 2)) (12 : Int32) = true then (((s_picked n i l I J (v 1) (a_many i l I J (v 2))).1), ((s_picked n i l I J (v 1) (a_many i l I J (v 2))).2.1), ((s_picked n i l I J (v 1) (a_many i l I J (v 2))).2.2.1), ((s_picked n i l I J (v 1) (a_many i l I J (v 2))).2.2.2.1), ((s_picked n i l I J (v 1) (a_many i l I J (v 2))).2.2.2.2)) else ((a_fail i l I J (8 : Int32) (v 3)), (si_fail i l I J (8 : Int32) (v 3)), l, I, J))) else (if mj_cnd .le (a_many i l I J (v 2)) (24 : Int32) = true then (((s_picked n i l I J (v 1) (a_many i l I J (v 2))).1), ((s_picked n i l I J (v 1) (a_many i l I J (v 2))).2.1), ((s_picked n i l I J (v 1) (a_many i l I J (v 2))).2.2.1), ((s_picked n i l I J (v 1) (a_many i l I J (v 2))).2.2.2.1), ((s_picked n i l I J (v 1) (a_many i l I J (v 2))).2.2.2.2)) else ((a_fail i l I J (8 : Int32) (v 3)), (si_fail i l I J (8 : Int32) (v 3)), l, I, J))) else ((a_itemOf i l I J (v 1) (I 14 ((0 : Int32)).toNatClampNeg)), (si_itemOf i l I J (v 1) (I 14 ((0 : Int32)).toNatClampNeg)), l, (sI_itemOf i l I J (v 1) (I 14 ((0 : Int32)).toNatClampNeg)), J)) else (if mj_cnd .lt (lg_cmp (a_number i l I J (v 2) (v 4)) (0 : Int64)) (0 : Int32) = true then ((a_fail i l I J (7 : Int32) (v 3)), (si_fail i l I J (7 : Int32) (v 3)), l, I, J) else (if mj_cnd .lt (lg_cmp (a_number i l I J (v 2) (v 4)) ((a_many i l I J (v 1))).toInt64) (0 : Int32) = true then lp_picks n 86 i l (va_up I 14 (upd (I 14) ((v 4)).toNatClampNeg ((a_number i l I J (v 2) (v 4))).toInt32)) J (upd v 4 ((v 4) + Int32.ofInt (1))) w else ((a_fail i l I J (7 : Int32) (v 3)), (si_fail i l I J (7 : Int32) (v 3)), l, I, J)))) := rfl
def okl_picks : Nat → Nat → (Nat → Int32) → (Nat → Int64) → (Nat → Nat → Int32) → (Nat → Nat → Int64) → (Nat → Int32) → (Nat → Int64) → Prop
  | 0, _, _, _, _, _, _, _ => False
  | n + 1, hd, i, l, I, J, v, w => match hd with
    | 86 => (ok_many i l I J (v 2) ∧ (if mj_cnd .ge (v 4) (a_many i l I J (v 2)) = true then (ok_isOne i l I J (v 2) ∧ (if mj_cnd .eq (a_isOne i l I J (v 2)) (0 : Int32) = true then (ok_many i l I J (v 2) ∧ (ok_kindOf i l I J (v 1) ∧ (if mj_cnd .ne (a_kindOf i l I J (v 1)) (7 : Int32) = true then (ok_kindOf i l I J (v 1) ∧ (if mj_cnd .ne (a_kindOf i l I J (v 1)) (6 : Int32) = true then (if mj_cnd .le (a_many i l I J (v 2)) (120 : Int32) = true then (ok_many i l I J (v 2) ∧ (ok_picked n i l I J (v 1) (a_many i l I J (v 2)) ∧ True)) else (ok_fail i l I J (8 : Int32) (v 3) ∧ True)) else (if mj_cnd .le (a_many i l I J (v 2)) (12 : Int32) = true then (ok_many i l I J (v 2) ∧ (ok_picked n i l I J (v 1) (a_many i l I J (v 2)) ∧ True)) else (ok_fail i l I J (8 : Int32) (v 3) ∧ True)))) else (if mj_cnd .le (a_many i l I J (v 2)) (24 : Int32) = true then (ok_many i l I J (v 2) ∧ (ok_picked n i l I J (v 1) (a_many i l I J (v 2)) ∧ True)) else (ok_fail i l I J (8 : Int32) (v 3) ∧ True))))) else (¬ ((0 : Int32) < 0 ∨ 260 ≤ ((0 : Int32)).toNatClampNeg) ∧ (ok_itemOf i l I J (v 1) (I 14 ((0 : Int32)).toNatClampNeg) ∧ True)))) else (ok_number i l I J (v 2) (v 4) ∧ (if mj_cnd .lt (lg_cmp (a_number i l I J (v 2) (v 4)) (0 : Int64)) (0 : Int32) = true then (ok_fail i l I J (7 : Int32) (v 3) ∧ True) else (ok_many i l I J (v 1) ∧ (if mj_cnd .lt (lg_cmp (a_number i l I J (v 2) (v 4)) ((a_many i l I J (v 1))).toInt64) (0 : Int32) = true then (¬ ((v 4) < 0 ∨ 260 ≤ ((v 4)).toNatClampNeg) ∧ okl_picks n 86 i l (va_up I 14 (upd (I 14) ((v 4)).toNatClampNeg ((a_number i l I J (v 2) (v 4))).toInt32)) J (upd v 4 ((v 4) + Int32.ofInt (1))) w) else (ok_fail i l I J (7 : Int32) (v 3) ∧ True)))))))
    | _ => False
def s_picks (n : Nat) (i : Nat → Int32) (l : Nat → Int64) (I : Nat → Nat → Int32) (J : Nat → Nat → Int64) (p0 : Int32) (p1 : Int32) (p2 : Int32) : Int32 × (Nat → Int32) × (Nat → Int64) × (Nat → Nat → Int32) × (Nat → Nat → Int64) := (if mj_cnd .ne (a_isOne i l I J p0) (0 : Int32) = true then ((a_fail i l I J (3 : Int32) p2), (si_fail i l I J (3 : Int32) p2), l, I, J) else (if mj_cnd .lt (a_kindOf i l I J p1) (6 : Int32) = true then (if mj_cnd .eq (a_kindOf i l I J p1) (1 : Int32) = true then ((a_fail i l I J (5 : Int32) p2), (si_fail i l I J (5 : Int32) p2), l, I, J) else (if mj_cnd .ne (a_kindOf i l I J p1) (3 : Int32) = true then (if mj_cnd .ne (a_isOne i l I J p1) (0 : Int32) = true then lp_picks n 86 i l I J (upd (upd (upd (upd (fun _ => 0) 1 p0) 2 p1) 3 p2) 4 (0 : Int32)) (fun _ => 0) else (if mj_cnd .ne (a_kindOf i l I J p0) (6 : Int32) = true then lp_picks n 86 i l I J (upd (upd (upd (upd (fun _ => 0) 1 p0) 2 p1) 3 p2) 4 (0 : Int32)) (fun _ => 0) else (if mj_cnd .ne (a_many i l I J p1) (0 : Int32) = true then lp_picks n 86 i l I J (upd (upd (upd (upd (fun _ => 0) 1 p0) 2 p1) 3 p2) 4 (0 : Int32)) (fun _ => 0) else ((a_fail i l I J (4 : Int32) p2), (si_fail i l I J (4 : Int32) p2), l, I, J)))) else ((a_fail i l I J (5 : Int32) p2), (si_fail i l I J (5 : Int32) p2), l, I, J))) else ((a_fail i l I J (3 : Int32) p2), (si_fail i l I J (3 : Int32) p2), l, I, J)))
def ok_picks (n : Nat) (i : Nat → Int32) (l : Nat → Int64) (I : Nat → Nat → Int32) (J : Nat → Nat → Int64) (p0 : Int32) (p1 : Int32) (p2 : Int32) : Prop := (ok_isOne i l I J p0 ∧ (if mj_cnd .ne (a_isOne i l I J p0) (0 : Int32) = true then (ok_fail i l I J (3 : Int32) p2 ∧ True) else (ok_kindOf i l I J p1 ∧ (if mj_cnd .lt (a_kindOf i l I J p1) (6 : Int32) = true then (ok_kindOf i l I J p1 ∧ (if mj_cnd .eq (a_kindOf i l I J p1) (1 : Int32) = true then (ok_fail i l I J (5 : Int32) p2 ∧ True) else (ok_kindOf i l I J p1 ∧ (if mj_cnd .ne (a_kindOf i l I J p1) (3 : Int32) = true then (ok_isOne i l I J p1 ∧ (if mj_cnd .ne (a_isOne i l I J p1) (0 : Int32) = true then okl_picks n 86 i l I J (upd (upd (upd (upd (fun _ => 0) 1 p0) 2 p1) 3 p2) 4 (0 : Int32)) (fun _ => 0) else (ok_kindOf i l I J p0 ∧ (if mj_cnd .ne (a_kindOf i l I J p0) (6 : Int32) = true then okl_picks n 86 i l I J (upd (upd (upd (upd (fun _ => 0) 1 p0) 2 p1) 3 p2) 4 (0 : Int32)) (fun _ => 0) else (ok_many i l I J p1 ∧ (if mj_cnd .ne (a_many i l I J p1) (0 : Int32) = true then okl_picks n 86 i l I J (upd (upd (upd (upd (fun _ => 0) 1 p0) 2 p1) 3 p2) 4 (0 : Int32)) (fun _ => 0) else (ok_fail i l I J (4 : Int32) p2 ∧ True))))))) else (ok_fail i l I J (5 : Int32) p2 ∧ True))))) else (ok_fail i l I J (3 : Int32) p2 ∧ True)))))
set_option maxRecDepth 20000 in
theorem ql_picks {xt : mj_X} {pre post : mj_H} {m : Nat} {d : Nat} (hm : pre.length = m) (h2 : 2 ≤ m) : ∀ n : Nat, (∀ i l I J v w, okl_picks n 86 i l I J v w → mjR (fun N => mj_call (mj_mmof pg_ms) (mj_TTof pg_TL) xt pg_tl 2 (d + 4) N) (mj_TTof pg_TL 12).1 (mj_TTof pg_TL 12).2 xt pg_tl 2 7 (d + 4) false (Option.some Jvm.ClassFile.FieldType.int) (mj_dec prog_14_method_60_code) 86 [(0, .ref m), (1, .int (v 1)), (2, .int (v 2)), (3, .int (v 3)), (4, .int (v 4))] [] (rH pre post m i l I J) (some (.int (lp_picks n 86 i l I J v w).1)) (rH pre post m (lp_picks n 86 i l I J v w).2.1 (lp_picks n 86 i l I J v w).2.2.1 (lp_picks n 86 i l I J v w).2.2.2.1 (lp_picks n 86 i l I J v w).2.2.2.2)) := by
  intro n
  induction n with
  | zero => exact fun i l I J v w h => absurd h id
  | succ n ih =>
    · intro i l I J v w hok
      have hok : (ok_many i l I J (v 2) ∧ (if mj_cnd .ge (v 4) (a_many i l I J (v 2)) = true then (ok_isOne i l I J (v 2) ∧ (if mj_cnd .eq (a_isOne i l I J (v 2)) (0 : Int32) = true then (ok_many i l I J (v 2) ∧ (ok_kindOf i l I J (v 1) ∧ (if mj_cnd .ne (a_kindOf i l I J (v 1)) (7 : Int32) = true then (ok_kindOf i l I J (v 1) ∧ (if mj_cnd .ne (a_kindOf i l I J (v 1)) (6 : Int32) = true then (if mj_cnd .le (a_many i l I J (v 2)) (120 : Int32) = true then (ok_many i l I J (v 2) ∧ (ok_picked n i l I J (v 1) (a_many i l I J (v 2)) ∧ True)) else (ok_fail i l I J (8 : Int32) (v 3) ∧ True)) else (if mj_cnd .le (a_many i l I J (v 2)) (12 : Int32) = true then (ok_many i l I J (v 2) ∧ (ok_picked n i l I J (v 1) (a_many i l I J (v 2)) ∧ True)) else (ok_fail i l I J (8 : Int32) (v 3) ∧ True)))) else (if mj_cnd .le (a_many i l I J (v 2)) (24 : Int32) = true then (ok_many i l I J (v 2) ∧ (ok_picked n i l I J (v 1) (a_many i l I J (v 2)) ∧ True)) else (ok_fail i l I J (8 : Int32) (v 3) ∧ True))))) else (¬ ((0 : Int32) < 0 ∨ 260 ≤ ((0 : Int32)).toNatClampNeg) ∧ (ok_itemOf i l I J (v 1) (I 14 ((0 : Int32)).toNatClampNeg) ∧ True)))) else (ok_number i l I J (v 2) (v 4) ∧ (if mj_cnd .lt (lg_cmp (a_number i l I J (v 2) (v 4)) (0 : Int64)) (0 : Int32) = true then (ok_fail i l I J (7 : Int32) (v 3) ∧ True) else (ok_many i l I J (v 1) ∧ (if mj_cnd .lt (lg_cmp (a_number i l I J (v 2) (v 4)) ((a_many i l I J (v 1))).toInt64) (0 : Int32) = true then (¬ ((v 4) < 0 ∨ 260 ≤ ((v 4)).toNatClampNeg) ∧ okl_picks n 86 i l (va_up I 14 (upd (I 14) ((v 4)).toNatClampNeg ((a_number i l I J (v 2) (v 4))).toInt32)) J (upd v 4 ((v 4) + Int32.ofInt (1))) w) else (ok_fail i l I J (7 : Int32) (v 3) ∧ True))))))) := hok
      refine ms1 dm_picks_86 rfl rfl rfl rfl ?_
      refine ms1 dm_picks_88 rfl rfl rfl rfl ?_
      refine ms1 dm_picks_89 rfl rfl rfl rfl ?_
      obtain ⟨ho, hok⟩ := hok
      refine ms4 dm_picks_90 rfl (r_inv (As := [.int (v 2)]) hm h2 rfl rfl rfl) (q_many hm h2 ho) rfl rfl rfl ?_
      refine ms_2c dm_picks_93 rfl rfl (fun hb1 => ?_) (fun hb1 => ?_)
      · have hb1 : mj_cnd .ge (v 4) (a_many i l I J (v 2)) = true := hb1
        rw [if_pos hb1] at hok
        refine ms1 dm_picks_148 rfl rfl rfl rfl ?_
        refine ms1 dm_picks_149 rfl rfl rfl rfl ?_
        obtain ⟨ho, hok⟩ := hok
        refine ms4 dm_picks_150 rfl (r_inv (As := [.int (v 2)]) hm h2 rfl rfl rfl) (q_isOne hm h2 ho) rfl rfl rfl ?_
        refine ms_1c dm_picks_153 rfl rfl (fun hb2 => ?_) (fun hb2 => ?_)
        · have hb2 : mj_cnd .eq (a_isOne i l I J (v 2)) (0 : Int32) = true := hb2
          rw [if_pos hb2] at hok
          refine ms1 dm_picks_168 rfl rfl rfl rfl ?_
          refine ms1 dm_picks_169 rfl rfl rfl rfl ?_
          obtain ⟨ho, hok⟩ := hok
          refine ms4 dm_picks_170 rfl (r_inv (As := [.int (v 2)]) hm h2 rfl rfl rfl) (q_many hm h2 ho) rfl rfl rfl ?_
          refine ms1 dm_picks_173 rfl rfl rfl rfl ?_
          refine ms1 dm_picks_174 rfl rfl rfl rfl ?_
          obtain ⟨ho, hok⟩ := hok
          refine ms4 dm_picks_175 rfl (r_inv (As := [.int (v 1)]) hm h2 rfl rfl rfl) (q_kindOf hm h2 ho) rfl rfl rfl ?_
          refine ms0 (S' := .int (7 : Int32) :: _) dm_picks_178 rfl rfl rfl rfl ?_
          refine ms_2c dm_picks_180 rfl rfl (fun hb3 => ?_) (fun hb3 => ?_)
          · have hb3 : mj_cnd .ne (a_kindOf i l I J (v 1)) (7 : Int32) = true := hb3
            rw [if_pos hb3] at hok
            refine ms1 dm_picks_188 rfl rfl rfl rfl ?_
            refine ms1 dm_picks_189 rfl rfl rfl rfl ?_
            obtain ⟨ho, hok⟩ := hok
            refine ms4 dm_picks_190 rfl (r_inv (As := [.int (v 1)]) hm h2 rfl rfl rfl) (q_kindOf hm h2 ho) rfl rfl rfl ?_
            refine ms0 (S' := .int (6 : Int32) :: _) dm_picks_193 rfl rfl rfl rfl ?_
            refine ms_2c dm_picks_195 rfl rfl (fun hb4 => ?_) (fun hb4 => ?_)
            · have hb4 : mj_cnd .ne (a_kindOf i l I J (v 1)) (6 : Int32) = true := hb4
              rw [if_pos hb4] at hok
              refine ms0 (S' := .int (120 : Int32) :: _) dm_picks_203 rfl rfl rfl rfl ?_
              refine ms_2c dm_picks_205 rfl rfl (fun hb5 => ?_) (fun hb5 => ?_)
              · have hb5 : mj_cnd .le (a_many i l I J (v 2)) (120 : Int32) = true := hb5
                rw [if_pos hb5] at hok
                refine ms1 dm_picks_216 rfl rfl rfl rfl ?_
                refine ms1 dm_picks_217 rfl rfl rfl rfl ?_
                refine ms1 dm_picks_218 rfl rfl rfl rfl ?_
                refine ms1 dm_picks_219 rfl rfl rfl rfl ?_
                obtain ⟨ho, hok⟩ := hok
                refine ms4 dm_picks_220 rfl (r_inv (As := [.int (v 2)]) hm h2 rfl rfl rfl) (q_many hm h2 ho) rfl rfl rfl ?_
                obtain ⟨ho, hok⟩ := hok
                refine ms4 dm_picks_223 rfl (r_inv (As := [.int (v 1), .int (a_many i l I J (v 2))]) hm h2 rfl rfl rfl) (q_picked hm h2 ho) rfl rfl rfl ?_
                have he : lp_picks (n + 1) 86 i l I J v w = (((s_picked n i l I J (v 1) (a_many i l I J (v 2))).1), ((s_picked n i l I J (v 1) (a_many i l I J (v 2))).2.1), ((s_picked n i l I J (v 1) (a_many i l I J (v 2))).2.2.1), ((s_picked n i l I J (v 1) (a_many i l I J (v 2))).2.2.2.1), ((s_picked n i l I J (v 1) (a_many i l I J (v 2))).2.2.2.2)) := by
                  rw [lb_picks_86]
                  simp only [hb1, hb2, hb3, hb4, hb5, Bool.false_eq_true, if_true, if_false]
                rw [he]
                exact ms5 dm_picks_226 rfl rfl rfl
              · have hb5 : ¬ (mj_cnd .le (a_many i l I J (v 2)) (120 : Int32) = true) := hb5
                rw [if_neg hb5] at hok
                refine ms1 dm_picks_208 rfl rfl rfl rfl ?_
                refine ms0 (S' := .int (8 : Int32) :: _) dm_picks_209 rfl rfl rfl rfl ?_
                refine ms1 dm_picks_211 rfl rfl rfl rfl ?_
                obtain ⟨ho, hok⟩ := hok
                refine ms4 dm_picks_212 rfl (r_inv (As := [.int (8 : Int32), .int (v 3)]) hm h2 rfl rfl rfl) (q_fail hm h2 ho) rfl rfl rfl ?_
                have he : lp_picks (n + 1) 86 i l I J v w = ((a_fail i l I J (8 : Int32) (v 3)), (si_fail i l I J (8 : Int32) (v 3)), l, I, J) := by
                  rw [lb_picks_86]
                  simp only [hb1, hb2, hb3, hb4, hb5, Bool.false_eq_true, if_true, if_false]
                rw [he]
                exact ms5 dm_picks_215 rfl rfl rfl
            · have hb4 : ¬ (mj_cnd .ne (a_kindOf i l I J (v 1)) (6 : Int32) = true) := hb4
              rw [if_neg hb4] at hok
              refine ms0 (S' := .int (12 : Int32) :: _) dm_picks_198 rfl rfl rfl rfl ?_
              refine ms2 dm_picks_200 rfl rfl rfl ?_
              refine ms_2c dm_picks_205 rfl rfl (fun hb6 => ?_) (fun hb6 => ?_)
              · have hb6 : mj_cnd .le (a_many i l I J (v 2)) (12 : Int32) = true := hb6
                rw [if_pos hb6] at hok
                refine ms1 dm_picks_216 rfl rfl rfl rfl ?_
                refine ms1 dm_picks_217 rfl rfl rfl rfl ?_
                refine ms1 dm_picks_218 rfl rfl rfl rfl ?_
                refine ms1 dm_picks_219 rfl rfl rfl rfl ?_
                obtain ⟨ho, hok⟩ := hok
                refine ms4 dm_picks_220 rfl (r_inv (As := [.int (v 2)]) hm h2 rfl rfl rfl) (q_many hm h2 ho) rfl rfl rfl ?_
                obtain ⟨ho, hok⟩ := hok
                refine ms4 dm_picks_223 rfl (r_inv (As := [.int (v 1), .int (a_many i l I J (v 2))]) hm h2 rfl rfl rfl) (q_picked hm h2 ho) rfl rfl rfl ?_
                have he : lp_picks (n + 1) 86 i l I J v w = (((s_picked n i l I J (v 1) (a_many i l I J (v 2))).1), ((s_picked n i l I J (v 1) (a_many i l I J (v 2))).2.1), ((s_picked n i l I J (v 1) (a_many i l I J (v 2))).2.2.1), ((s_picked n i l I J (v 1) (a_many i l I J (v 2))).2.2.2.1), ((s_picked n i l I J (v 1) (a_many i l I J (v 2))).2.2.2.2)) := by
                  rw [lb_picks_86]
                  simp only [hb1, hb2, hb3, hb4, hb6, Bool.false_eq_true, if_true, if_false]
                rw [he]
                exact ms5 dm_picks_226 rfl rfl rfl
              · have hb6 : ¬ (mj_cnd .le (a_many i l I J (v 2)) (12 : Int32) = true) := hb6
                rw [if_neg hb6] at hok
                refine ms1 dm_picks_208 rfl rfl rfl rfl ?_
                refine ms0 (S' := .int (8 : Int32) :: _) dm_picks_209 rfl rfl rfl rfl ?_
                refine ms1 dm_picks_211 rfl rfl rfl rfl ?_
                obtain ⟨ho, hok⟩ := hok
                refine ms4 dm_picks_212 rfl (r_inv (As := [.int (8 : Int32), .int (v 3)]) hm h2 rfl rfl rfl) (q_fail hm h2 ho) rfl rfl rfl ?_
                have he : lp_picks (n + 1) 86 i l I J v w = ((a_fail i l I J (8 : Int32) (v 3)), (si_fail i l I J (8 : Int32) (v 3)), l, I, J) := by
                  rw [lb_picks_86]
                  simp only [hb1, hb2, hb3, hb4, hb6, Bool.false_eq_true, if_true, if_false]
                rw [he]
                exact ms5 dm_picks_215 rfl rfl rfl
          · have hb3 : ¬ (mj_cnd .ne (a_kindOf i l I J (v 1)) (7 : Int32) = true) := hb3
            rw [if_neg hb3] at hok
            refine ms0 (S' := .int (24 : Int32) :: _) dm_picks_183 rfl rfl rfl rfl ?_
            refine ms2 dm_picks_185 rfl rfl rfl ?_
            refine ms_2c dm_picks_205 rfl rfl (fun hb7 => ?_) (fun hb7 => ?_)
            · have hb7 : mj_cnd .le (a_many i l I J (v 2)) (24 : Int32) = true := hb7
              rw [if_pos hb7] at hok
              refine ms1 dm_picks_216 rfl rfl rfl rfl ?_
              refine ms1 dm_picks_217 rfl rfl rfl rfl ?_
              refine ms1 dm_picks_218 rfl rfl rfl rfl ?_
              refine ms1 dm_picks_219 rfl rfl rfl rfl ?_
              obtain ⟨ho, hok⟩ := hok
              refine ms4 dm_picks_220 rfl (r_inv (As := [.int (v 2)]) hm h2 rfl rfl rfl) (q_many hm h2 ho) rfl rfl rfl ?_
              obtain ⟨ho, hok⟩ := hok
              refine ms4 dm_picks_223 rfl (r_inv (As := [.int (v 1), .int (a_many i l I J (v 2))]) hm h2 rfl rfl rfl) (q_picked hm h2 ho) rfl rfl rfl ?_
              have he : lp_picks (n + 1) 86 i l I J v w = (((s_picked n i l I J (v 1) (a_many i l I J (v 2))).1), ((s_picked n i l I J (v 1) (a_many i l I J (v 2))).2.1), ((s_picked n i l I J (v 1) (a_many i l I J (v 2))).2.2.1), ((s_picked n i l I J (v 1) (a_many i l I J (v 2))).2.2.2.1), ((s_picked n i l I J (v 1) (a_many i l I J (v 2))).2.2.2.2)) := by
                rw [lb_picks_86]
                simp only [hb1, hb2, hb3, hb7, Bool.false_eq_true, if_true, if_false]
              rw [he]
              exact ms5 dm_picks_226 rfl rfl rfl
            · have hb7 : ¬ (mj_cnd .le (a_many i l I J (v 2)) (24 : Int32) = true) := hb7
              rw [if_neg hb7] at hok
              refine ms1 dm_picks_208 rfl rfl rfl rfl ?_
              refine ms0 (S' := .int (8 : Int32) :: _) dm_picks_209 rfl rfl rfl rfl ?_
              refine ms1 dm_picks_211 rfl rfl rfl rfl ?_
              obtain ⟨ho, hok⟩ := hok
              refine ms4 dm_picks_212 rfl (r_inv (As := [.int (8 : Int32), .int (v 3)]) hm h2 rfl rfl rfl) (q_fail hm h2 ho) rfl rfl rfl ?_
              have he : lp_picks (n + 1) 86 i l I J v w = ((a_fail i l I J (8 : Int32) (v 3)), (si_fail i l I J (8 : Int32) (v 3)), l, I, J) := by
                rw [lb_picks_86]
                simp only [hb1, hb2, hb3, hb7, Bool.false_eq_true, if_true, if_false]
              rw [he]
              exact ms5 dm_picks_215 rfl rfl rfl
        · have hb2 : ¬ (mj_cnd .eq (a_isOne i l I J (v 2)) (0 : Int32) = true) := hb2
          rw [if_neg hb2] at hok
          refine ms1 dm_picks_156 rfl rfl rfl rfl ?_
          refine ms1 dm_picks_157 rfl rfl rfl rfl ?_
          refine ms1 dm_picks_158 rfl rfl rfl rfl ?_
          refine ms3 dm_picks_159 (r_get hm h2 rfl (rg_14 _ _ _)) rfl rfl rfl ?_
          refine ms0 (S' := .int (0 : Int32) :: _) dm_picks_162 rfl rfl rfl rfl ?_
          obtain ⟨ho, hok⟩ := hok
          refine ms3 dm_picks_163 (r_iald hm h2 (rc_14 _ _ _ _ _) rfl ho) rfl rfl rfl ?_
          obtain ⟨ho, hok⟩ := hok
          refine ms4 dm_picks_164 rfl (r_inv (As := [.int (v 1), .int (I 14 ((0 : Int32)).toNatClampNeg)]) hm h2 rfl rfl rfl) (q_itemOf hm h2 ho) rfl rfl rfl ?_
          have he : lp_picks (n + 1) 86 i l I J v w = ((a_itemOf i l I J (v 1) (I 14 ((0 : Int32)).toNatClampNeg)), (si_itemOf i l I J (v 1) (I 14 ((0 : Int32)).toNatClampNeg)), l, (sI_itemOf i l I J (v 1) (I 14 ((0 : Int32)).toNatClampNeg)), J) := by
            rw [lb_picks_86]
            simp only [hb1, hb2, Bool.false_eq_true, if_true, if_false]
          rw [he]
          exact ms5 dm_picks_167 rfl rfl rfl
      · have hb1 : ¬ (mj_cnd .ge (v 4) (a_many i l I J (v 2)) = true) := hb1
        rw [if_neg hb1] at hok
        refine ms1 dm_picks_96 rfl rfl rfl rfl ?_
        refine ms1 dm_picks_97 rfl rfl rfl rfl ?_
        refine ms1 dm_picks_98 rfl rfl rfl rfl ?_
        obtain ⟨ho, hok⟩ := hok
        refine ms4 dm_picks_100 rfl (r_inv (As := [.int (v 2), .int (v 4)]) hm h2 rfl rfl rfl) (q_number hm h2 ho) rfl rfl rfl ?_
        refine ms1 dm_picks_103 rfl rfl rfl rfl ?_
        refine ms1 dm_picks_105 rfl rfl rfl rfl ?_
        refine ms0 (S' := .long (0 : Int64) :: _) dm_picks_107 rfl rfl rfl rfl ?_
        refine ms0 dm_picks_108 rfl rfl rfl rfl ?_
        refine ms_1c dm_picks_109 rfl rfl (fun hb8 => ?_) (fun hb8 => ?_)
        · have hb8 : mj_cnd .lt (lg_cmp (a_number i l I J (v 2) (v 4)) (0 : Int64)) (0 : Int32) = true := hb8
          rw [if_pos hb8] at hok
          refine ms1 dm_picks_124 rfl rfl rfl rfl ?_
          refine ms0 (S' := .int (7 : Int32) :: _) dm_picks_125 rfl rfl rfl rfl ?_
          refine ms1 dm_picks_127 rfl rfl rfl rfl ?_
          obtain ⟨ho, hok⟩ := hok
          refine ms4 dm_picks_128 rfl (r_inv (As := [.int (7 : Int32), .int (v 3)]) hm h2 rfl rfl rfl) (q_fail hm h2 ho) rfl rfl rfl ?_
          have he : lp_picks (n + 1) 86 i l I J v w = ((a_fail i l I J (7 : Int32) (v 3)), (si_fail i l I J (7 : Int32) (v 3)), l, I, J) := by
            rw [lb_picks_86]
            simp only [hb1, hb8, Bool.false_eq_true, if_true, if_false]
          rw [he]
          exact ms5 dm_picks_131 rfl rfl rfl
        · have hb8 : ¬ (mj_cnd .lt (lg_cmp (a_number i l I J (v 2) (v 4)) (0 : Int64)) (0 : Int32) = true) := hb8
          rw [if_neg hb8] at hok
          refine ms1 dm_picks_112 rfl rfl rfl rfl ?_
          refine ms1 dm_picks_114 rfl rfl rfl rfl ?_
          refine ms1 dm_picks_115 rfl rfl rfl rfl ?_
          obtain ⟨ho, hok⟩ := hok
          refine ms4 dm_picks_116 rfl (r_inv (As := [.int (v 1)]) hm h2 rfl rfl rfl) (q_many hm h2 ho) rfl rfl rfl ?_
          refine ms0 dm_picks_119 rfl rfl rfl rfl ?_
          refine ms0 dm_picks_120 rfl rfl rfl rfl ?_
          refine ms_1c dm_picks_121 rfl rfl (fun hb9 => ?_) (fun hb9 => ?_)
          · have hb9 : mj_cnd .lt (lg_cmp (a_number i l I J (v 2) (v 4)) ((a_many i l I J (v 1))).toInt64) (0 : Int32) = true := hb9
            rw [if_pos hb9] at hok
            refine ms1 dm_picks_132 rfl rfl rfl rfl ?_
            refine ms3 dm_picks_133 (r_get hm h2 rfl (rg_14 _ _ _)) rfl rfl rfl ?_
            refine ms1 dm_picks_136 rfl rfl rfl rfl ?_
            refine ms1 dm_picks_138 rfl rfl rfl rfl ?_
            refine ms0 dm_picks_140 rfl rfl rfl rfl ?_
            obtain ⟨ho, hok⟩ := hok
            refine ms3 dm_picks_141 (r_iastk (k := 14) hm h2 (rc_14 _ _ _ _ _) rfl ho (rs_14 _ _ _ _ _ _)) rfl rfl rfl ?_
            refine ms1 dm_picks_142 rfl rfl rfl rfl ?_
            refine ms2 dm_picks_145 rfl rfl rfl ?_
            have he : lp_picks (n + 1) 86 i l I J v w = lp_picks n 86 i l (va_up I 14 (upd (I 14) ((v 4)).toNatClampNeg ((a_number i l I J (v 2) (v 4))).toInt32)) J (upd v 4 ((v 4) + Int32.ofInt (1))) w := by
              rw [lb_picks_86]
              simp only [hb1, hb8, hb9, Bool.false_eq_true, if_true, if_false]
            rw [he]
            exact mjR_sub rfl rfl rfl (ih _ _ _ _ _ _ hok)
          · have hb9 : ¬ (mj_cnd .lt (lg_cmp (a_number i l I J (v 2) (v 4)) ((a_many i l I J (v 1))).toInt64) (0 : Int32) = true) := hb9
            rw [if_neg hb9] at hok
            refine ms1 dm_picks_124 rfl rfl rfl rfl ?_
            refine ms0 (S' := .int (7 : Int32) :: _) dm_picks_125 rfl rfl rfl rfl ?_
            refine ms1 dm_picks_127 rfl rfl rfl rfl ?_
            obtain ⟨ho, hok⟩ := hok
            refine ms4 dm_picks_128 rfl (r_inv (As := [.int (7 : Int32), .int (v 3)]) hm h2 rfl rfl rfl) (q_fail hm h2 ho) rfl rfl rfl ?_
            have he : lp_picks (n + 1) 86 i l I J v w = ((a_fail i l I J (7 : Int32) (v 3)), (si_fail i l I J (7 : Int32) (v 3)), l, I, J) := by
              rw [lb_picks_86]
              simp only [hb1, hb8, hb9, Bool.false_eq_true, if_true, if_false]
            rw [he]
            exact ms5 dm_picks_131 rfl rfl rfl
set_option maxRecDepth 20000 in
theorem q_picks {xt : mj_X} {pre post : mj_H} {m : Nat} {i : Nat → Int32} {l : Nat → Int64} {I : Nat → Nat → Int32} {J : Nat → Nat → Int64} {d : Nat} (hm : pre.length = m) (h2 : 2 ≤ m) {p0 : Int32} {p1 : Int32} {p2 : Int32} {n : Nat} (hok : ok_picks n i l I J p0 p1 p2) : pgC xt (d + 5) k_picks (.ref m :: [.int p0, .int p1, .int p2]) (rH pre post m i l I J) (some (.int (s_picks n i l I J p0 p1 p2).1)) (rH pre post m (s_picks n i l I J p0 p1 p2).2.1 (s_picks n i l I J p0 p1 p2).2.2.1 (s_picks n i l I J p0 p1 p2).2.2.2.1 (s_picks n i l I J p0 p1 p2).2.2.2.2) := by
  unfold ok_picks at hok
  refine ms_call pm_picks (Nat.le_of_ble_eq_true rfl) ?_
  dsimp only
  refine ms1 dm_picks_0 rfl rfl rfl rfl ?_
  refine ms1 dm_picks_1 rfl rfl rfl rfl ?_
  obtain ⟨ho, hok⟩ := hok
  refine ms4 dm_picks_2 rfl (r_inv (As := [.int p0]) hm h2 rfl rfl rfl) (q_isOne hm h2 ho) rfl rfl rfl ?_
  refine ms_1c dm_picks_5 rfl rfl (fun hb1 => ?_) (fun hb1 => ?_)
  · have hb1 : mj_cnd .ne (a_isOne i l I J p0) (0 : Int32) = true := hb1
    rw [if_pos hb1] at hok
    refine ms1 dm_picks_18 rfl rfl rfl rfl ?_
    refine ms0 (S' := .int (3 : Int32) :: _) dm_picks_19 rfl rfl rfl rfl ?_
    refine ms1 dm_picks_20 rfl rfl rfl rfl ?_
    obtain ⟨ho, hok⟩ := hok
    refine ms4 dm_picks_21 rfl (r_inv (As := [.int (3 : Int32), .int p2]) hm h2 rfl rfl rfl) (q_fail hm h2 ho) rfl rfl rfl ?_
    have he : s_picks n i l I J p0 p1 p2 = ((a_fail i l I J (3 : Int32) p2), (si_fail i l I J (3 : Int32) p2), l, I, J) := by
      unfold s_picks
      simp only [hb1, Bool.false_eq_true, if_true, if_false]
    rw [he]
    exact ms5 dm_picks_24 rfl rfl rfl
  · have hb1 : ¬ (mj_cnd .ne (a_isOne i l I J p0) (0 : Int32) = true) := hb1
    rw [if_neg hb1] at hok
    refine ms1 dm_picks_8 rfl rfl rfl rfl ?_
    refine ms1 dm_picks_9 rfl rfl rfl rfl ?_
    obtain ⟨ho, hok⟩ := hok
    refine ms4 dm_picks_10 rfl (r_inv (As := [.int p1]) hm h2 rfl rfl rfl) (q_kindOf hm h2 ho) rfl rfl rfl ?_
    refine ms0 (S' := .int (6 : Int32) :: _) dm_picks_13 rfl rfl rfl rfl ?_
    refine ms_2c dm_picks_15 rfl rfl (fun hb2 => ?_) (fun hb2 => ?_)
    · have hb2 : mj_cnd .lt (a_kindOf i l I J p1) (6 : Int32) = true := hb2
      rw [if_pos hb2] at hok
      refine ms1 dm_picks_25 rfl rfl rfl rfl ?_
      refine ms1 dm_picks_26 rfl rfl rfl rfl ?_
      obtain ⟨ho, hok⟩ := hok
      refine ms4 dm_picks_27 rfl (r_inv (As := [.int p1]) hm h2 rfl rfl rfl) (q_kindOf hm h2 ho) rfl rfl rfl ?_
      refine ms0 (S' := .int (1 : Int32) :: _) dm_picks_30 rfl rfl rfl rfl ?_
      refine ms_2c dm_picks_31 rfl rfl (fun hb3 => ?_) (fun hb3 => ?_)
      · have hb3 : mj_cnd .eq (a_kindOf i l I J p1) (1 : Int32) = true := hb3
        rw [if_pos hb3] at hok
        refine ms1 dm_picks_43 rfl rfl rfl rfl ?_
        refine ms0 (S' := .int (5 : Int32) :: _) dm_picks_44 rfl rfl rfl rfl ?_
        refine ms1 dm_picks_45 rfl rfl rfl rfl ?_
        obtain ⟨ho, hok⟩ := hok
        refine ms4 dm_picks_46 rfl (r_inv (As := [.int (5 : Int32), .int p2]) hm h2 rfl rfl rfl) (q_fail hm h2 ho) rfl rfl rfl ?_
        have he : s_picks n i l I J p0 p1 p2 = ((a_fail i l I J (5 : Int32) p2), (si_fail i l I J (5 : Int32) p2), l, I, J) := by
          unfold s_picks
          simp only [hb1, hb2, hb3, Bool.false_eq_true, if_true, if_false]
        rw [he]
        exact ms5 dm_picks_49 rfl rfl rfl
      · have hb3 : ¬ (mj_cnd .eq (a_kindOf i l I J p1) (1 : Int32) = true) := hb3
        rw [if_neg hb3] at hok
        refine ms1 dm_picks_34 rfl rfl rfl rfl ?_
        refine ms1 dm_picks_35 rfl rfl rfl rfl ?_
        obtain ⟨ho, hok⟩ := hok
        refine ms4 dm_picks_36 rfl (r_inv (As := [.int p1]) hm h2 rfl rfl rfl) (q_kindOf hm h2 ho) rfl rfl rfl ?_
        refine ms0 (S' := .int (3 : Int32) :: _) dm_picks_39 rfl rfl rfl rfl ?_
        refine ms_2c dm_picks_40 rfl rfl (fun hb4 => ?_) (fun hb4 => ?_)
        · have hb4 : mj_cnd .ne (a_kindOf i l I J p1) (3 : Int32) = true := hb4
          rw [if_pos hb4] at hok
          refine ms1 dm_picks_50 rfl rfl rfl rfl ?_
          refine ms1 dm_picks_51 rfl rfl rfl rfl ?_
          obtain ⟨ho, hok⟩ := hok
          refine ms4 dm_picks_52 rfl (r_inv (As := [.int p1]) hm h2 rfl rfl rfl) (q_isOne hm h2 ho) rfl rfl rfl ?_
          refine ms_1c dm_picks_55 rfl rfl (fun hb5 => ?_) (fun hb5 => ?_)
          · have hb5 : mj_cnd .ne (a_isOne i l I J p1) (0 : Int32) = true := hb5
            rw [if_pos hb5] at hok
            refine ms0 (S' := .int (0 : Int32) :: _) dm_picks_83 rfl rfl rfl rfl ?_
            refine ms1 dm_picks_84 rfl rfl rfl rfl ?_
            have he : s_picks n i l I J p0 p1 p2 = lp_picks n 86 i l I J (upd (upd (upd (upd (fun _ => 0) 1 p0) 2 p1) 3 p2) 4 (0 : Int32)) (fun _ => 0) := by
              unfold s_picks
              simp only [hb1, hb2, hb3, hb4, hb5, Bool.false_eq_true, if_true, if_false]
            rw [he]
            exact mjR_sub rfl rfl rfl ((ql_picks hm h2 n) _ _ _ _ _ _ hok)
          · have hb5 : ¬ (mj_cnd .ne (a_isOne i l I J p1) (0 : Int32) = true) := hb5
            rw [if_neg hb5] at hok
            refine ms1 dm_picks_58 rfl rfl rfl rfl ?_
            refine ms1 dm_picks_59 rfl rfl rfl rfl ?_
            obtain ⟨ho, hok⟩ := hok
            refine ms4 dm_picks_60 rfl (r_inv (As := [.int p0]) hm h2 rfl rfl rfl) (q_kindOf hm h2 ho) rfl rfl rfl ?_
            refine ms0 (S' := .int (6 : Int32) :: _) dm_picks_63 rfl rfl rfl rfl ?_
            refine ms_2c dm_picks_65 rfl rfl (fun hb6 => ?_) (fun hb6 => ?_)
            · have hb6 : mj_cnd .ne (a_kindOf i l I J p0) (6 : Int32) = true := hb6
              rw [if_pos hb6] at hok
              refine ms0 (S' := .int (0 : Int32) :: _) dm_picks_83 rfl rfl rfl rfl ?_
              refine ms1 dm_picks_84 rfl rfl rfl rfl ?_
              have he : s_picks n i l I J p0 p1 p2 = lp_picks n 86 i l I J (upd (upd (upd (upd (fun _ => 0) 1 p0) 2 p1) 3 p2) 4 (0 : Int32)) (fun _ => 0) := by
                unfold s_picks
                simp only [hb1, hb2, hb3, hb4, hb5, hb6, Bool.false_eq_true, if_true, if_false]
              rw [he]
              exact mjR_sub rfl rfl rfl ((ql_picks hm h2 n) _ _ _ _ _ _ hok)
            · have hb6 : ¬ (mj_cnd .ne (a_kindOf i l I J p0) (6 : Int32) = true) := hb6
              rw [if_neg hb6] at hok
              refine ms1 dm_picks_68 rfl rfl rfl rfl ?_
              refine ms1 dm_picks_69 rfl rfl rfl rfl ?_
              obtain ⟨ho, hok⟩ := hok
              refine ms4 dm_picks_70 rfl (r_inv (As := [.int p1]) hm h2 rfl rfl rfl) (q_many hm h2 ho) rfl rfl rfl ?_
              refine ms_1c dm_picks_73 rfl rfl (fun hb7 => ?_) (fun hb7 => ?_)
              · have hb7 : mj_cnd .ne (a_many i l I J p1) (0 : Int32) = true := hb7
                rw [if_pos hb7] at hok
                refine ms0 (S' := .int (0 : Int32) :: _) dm_picks_83 rfl rfl rfl rfl ?_
                refine ms1 dm_picks_84 rfl rfl rfl rfl ?_
                have he : s_picks n i l I J p0 p1 p2 = lp_picks n 86 i l I J (upd (upd (upd (upd (fun _ => 0) 1 p0) 2 p1) 3 p2) 4 (0 : Int32)) (fun _ => 0) := by
                  unfold s_picks
                  simp only [hb1, hb2, hb3, hb4, hb5, hb6, hb7, Bool.false_eq_true, if_true, if_false]
                rw [he]
                exact mjR_sub rfl rfl rfl ((ql_picks hm h2 n) _ _ _ _ _ _ hok)
              · have hb7 : ¬ (mj_cnd .ne (a_many i l I J p1) (0 : Int32) = true) := hb7
                rw [if_neg hb7] at hok
                refine ms1 dm_picks_76 rfl rfl rfl rfl ?_
                refine ms0 (S' := .int (4 : Int32) :: _) dm_picks_77 rfl rfl rfl rfl ?_
                refine ms1 dm_picks_78 rfl rfl rfl rfl ?_
                obtain ⟨ho, hok⟩ := hok
                refine ms4 dm_picks_79 rfl (r_inv (As := [.int (4 : Int32), .int p2]) hm h2 rfl rfl rfl) (q_fail hm h2 ho) rfl rfl rfl ?_
                have he : s_picks n i l I J p0 p1 p2 = ((a_fail i l I J (4 : Int32) p2), (si_fail i l I J (4 : Int32) p2), l, I, J) := by
                  unfold s_picks
                  simp only [hb1, hb2, hb3, hb4, hb5, hb6, hb7, Bool.false_eq_true, if_true, if_false]
                rw [he]
                exact ms5 dm_picks_82 rfl rfl rfl
        · have hb4 : ¬ (mj_cnd .ne (a_kindOf i l I J p1) (3 : Int32) = true) := hb4
          rw [if_neg hb4] at hok
          refine ms1 dm_picks_43 rfl rfl rfl rfl ?_
          refine ms0 (S' := .int (5 : Int32) :: _) dm_picks_44 rfl rfl rfl rfl ?_
          refine ms1 dm_picks_45 rfl rfl rfl rfl ?_
          obtain ⟨ho, hok⟩ := hok
          refine ms4 dm_picks_46 rfl (r_inv (As := [.int (5 : Int32), .int p2]) hm h2 rfl rfl rfl) (q_fail hm h2 ho) rfl rfl rfl ?_
          have he : s_picks n i l I J p0 p1 p2 = ((a_fail i l I J (5 : Int32) p2), (si_fail i l I J (5 : Int32) p2), l, I, J) := by
            unfold s_picks
            simp only [hb1, hb2, hb3, hb4, Bool.false_eq_true, if_true, if_false]
          rw [he]
          exact ms5 dm_picks_49 rfl rfl rfl
    · have hb2 : ¬ (mj_cnd .lt (a_kindOf i l I J p1) (6 : Int32) = true) := hb2
      rw [if_neg hb2] at hok
      refine ms1 dm_picks_18 rfl rfl rfl rfl ?_
      refine ms0 (S' := .int (3 : Int32) :: _) dm_picks_19 rfl rfl rfl rfl ?_
      refine ms1 dm_picks_20 rfl rfl rfl rfl ?_
      obtain ⟨ho, hok⟩ := hok
      refine ms4 dm_picks_21 rfl (r_inv (As := [.int (3 : Int32), .int p2]) hm h2 rfl rfl rfl) (q_fail hm h2 ho) rfl rfl rfl ?_
      have he : s_picks n i l I J p0 p1 p2 = ((a_fail i l I J (3 : Int32) p2), (si_fail i l I J (3 : Int32) p2), l, I, J) := by
        unfold s_picks
        simp only [hb1, hb2, Bool.false_eq_true, if_true, if_false]
      rw [he]
      exact ms5 dm_picks_24 rfl rfl rfl
def k_fit : Nat := 267
set_option maxRecDepth 20000 in
theorem pm_fit : mj_mmof pg_ms k_fit = some ((⟨"ArrayCalculatorModel", "fit", "(III)I"⟩, prog_14_method_61_code, 9, (Option.some Jvm.ClassFile.FieldType.int)), 12, false, mj_dec prog_14_method_61_code) := rfl
theorem dm_fit_0 : mj_dec prog_14_method_61_code 0 = some (.aload_n 0, 1) := by decide +kernel
theorem dm_fit_1 : mj_dec prog_14_method_61_code 1 = some (.iload_n 1, 1) := by decide +kernel
theorem dm_fit_2 : mj_dec prog_14_method_61_code 2 = some (.invokevirtual 162, 3) := by decide +kernel
theorem dm_fit_5 : mj_dec prog_14_method_61_code 5 = some (.ifCond .ne 10, 3) := by decide +kernel
theorem dm_fit_8 : mj_dec prog_14_method_61_code 8 = some (.aload_n 0, 1) := by decide +kernel
theorem dm_fit_9 : mj_dec prog_14_method_61_code 9 = some (.iconst 3, 1) := by decide +kernel
theorem dm_fit_10 : mj_dec prog_14_method_61_code 10 = some (.iload_n 3, 1) := by decide +kernel
theorem dm_fit_11 : mj_dec prog_14_method_61_code 11 = some (.invokevirtual 190, 3) := by decide +kernel
theorem dm_fit_14 : mj_dec prog_14_method_61_code 14 = some (.ireturn, 1) := by decide +kernel
theorem dm_fit_15 : mj_dec prog_14_method_61_code 15 = some (.aload_n 0, 1) := by decide +kernel
theorem dm_fit_16 : mj_dec prog_14_method_61_code 16 = some (.iload_n 1, 1) := by decide +kernel
theorem dm_fit_17 : mj_dec prog_14_method_61_code 17 = some (.invokevirtual 146, 3) := by decide +kernel
theorem dm_fit_20 : mj_dec prog_14_method_61_code 20 = some (.iconst 1, 1) := by decide +kernel
theorem dm_fit_21 : mj_dec prog_14_method_61_code 21 = some (.if_icmp .eq 47, 3) := by decide +kernel
theorem dm_fit_24 : mj_dec prog_14_method_61_code 24 = some (.aload_n 0, 1) := by decide +kernel
theorem dm_fit_25 : mj_dec prog_14_method_61_code 25 = some (.iload_n 1, 1) := by decide +kernel
theorem dm_fit_26 : mj_dec prog_14_method_61_code 26 = some (.iconst 0, 1) := by decide +kernel
theorem dm_fit_27 : mj_dec prog_14_method_61_code 27 = some (.invokevirtual 138, 3) := by decide +kernel
theorem dm_fit_30 : mj_dec prog_14_method_61_code 30 = some (.ldc2_w 350, 3) := by decide +kernel
theorem dm_fit_33 : mj_dec prog_14_method_61_code 33 = some (.lcmp, 1) := by decide +kernel
theorem dm_fit_34 : mj_dec prog_14_method_61_code 34 = some (.ifCond .lt 34, 3) := by decide +kernel
theorem dm_fit_37 : mj_dec prog_14_method_61_code 37 = some (.aload_n 0, 1) := by decide +kernel
theorem dm_fit_38 : mj_dec prog_14_method_61_code 38 = some (.iload_n 1, 1) := by decide +kernel
theorem dm_fit_39 : mj_dec prog_14_method_61_code 39 = some (.iconst 0, 1) := by decide +kernel
theorem dm_fit_40 : mj_dec prog_14_method_61_code 40 = some (.invokevirtual 138, 3) := by decide +kernel
theorem dm_fit_43 : mj_dec prog_14_method_61_code 43 = some (.ldc2_w 239, 3) := by decide +kernel
theorem dm_fit_46 : mj_dec prog_14_method_61_code 46 = some (.lcmp, 1) := by decide +kernel
theorem dm_fit_47 : mj_dec prog_14_method_61_code 47 = some (.ifCond .gt 21, 3) := by decide +kernel
theorem dm_fit_50 : mj_dec prog_14_method_61_code 50 = some (.aload_n 0, 1) := by decide +kernel
theorem dm_fit_51 : mj_dec prog_14_method_61_code 51 = some (.iload_n 2, 1) := by decide +kernel
theorem dm_fit_52 : mj_dec prog_14_method_61_code 52 = some (.invokevirtual 146, 3) := by decide +kernel
theorem dm_fit_55 : mj_dec prog_14_method_61_code 55 = some (.iconst 1, 1) := by decide +kernel
theorem dm_fit_56 : mj_dec prog_14_method_61_code 56 = some (.if_icmp .eq 19, 3) := by decide +kernel
theorem dm_fit_59 : mj_dec prog_14_method_61_code 59 = some (.aload_n 0, 1) := by decide +kernel
theorem dm_fit_60 : mj_dec prog_14_method_61_code 60 = some (.iload_n 2, 1) := by decide +kernel
theorem dm_fit_61 : mj_dec prog_14_method_61_code 61 = some (.invokevirtual 146, 3) := by decide +kernel
theorem dm_fit_64 : mj_dec prog_14_method_61_code 64 = some (.iconst 3, 1) := by decide +kernel
theorem dm_fit_65 : mj_dec prog_14_method_61_code 65 = some (.if_icmp .eq 10, 3) := by decide +kernel
theorem dm_fit_68 : mj_dec prog_14_method_61_code 68 = some (.aload_n 0, 1) := by decide +kernel
theorem dm_fit_69 : mj_dec prog_14_method_61_code 69 = some (.iconst 5, 1) := by decide +kernel
theorem dm_fit_70 : mj_dec prog_14_method_61_code 70 = some (.iload_n 3, 1) := by decide +kernel
theorem dm_fit_71 : mj_dec prog_14_method_61_code 71 = some (.invokevirtual 190, 3) := by decide +kernel
theorem dm_fit_74 : mj_dec prog_14_method_61_code 74 = some (.ireturn, 1) := by decide +kernel
theorem dm_fit_75 : mj_dec prog_14_method_61_code 75 = some (.aload_n 0, 1) := by decide +kernel
theorem dm_fit_76 : mj_dec prog_14_method_61_code 76 = some (.iload_n 1, 1) := by decide +kernel
theorem dm_fit_77 : mj_dec prog_14_method_61_code 77 = some (.iconst 0, 1) := by decide +kernel
theorem dm_fit_78 : mj_dec prog_14_method_61_code 78 = some (.invokevirtual 138, 3) := by decide +kernel
theorem dm_fit_81 : mj_dec prog_14_method_61_code 81 = some (.l2i, 1) := by decide +kernel
theorem dm_fit_82 : mj_dec prog_14_method_61_code 82 = some (.istore 4, 2) := by decide +kernel
theorem dm_fit_84 : mj_dec prog_14_method_61_code 84 = some (.iload 4, 2) := by decide +kernel
theorem dm_fit_86 : mj_dec prog_14_method_61_code 86 = some (.ifCond .ge 9, 3) := by decide +kernel
theorem dm_fit_89 : mj_dec prog_14_method_61_code 89 = some (.iload 4, 2) := by decide +kernel
theorem dm_fit_91 : mj_dec prog_14_method_61_code 91 = some (.ineg, 1) := by decide +kernel
theorem dm_fit_92 : mj_dec prog_14_method_61_code 92 = some (.goto 5, 3) := by decide +kernel
theorem dm_fit_95 : mj_dec prog_14_method_61_code 95 = some (.iload 4, 2) := by decide +kernel
theorem dm_fit_97 : mj_dec prog_14_method_61_code 97 = some (.istore 5, 2) := by decide +kernel
theorem dm_fit_99 : mj_dec prog_14_method_61_code 99 = some (.iload 4, 2) := by decide +kernel
theorem dm_fit_101 : mj_dec prog_14_method_61_code 101 = some (.ifCond .ge 14, 3) := by decide +kernel
theorem dm_fit_104 : mj_dec prog_14_method_61_code 104 = some (.aload_n 0, 1) := by decide +kernel
theorem dm_fit_105 : mj_dec prog_14_method_61_code 105 = some (.iload_n 2, 1) := by decide +kernel
theorem dm_fit_106 : mj_dec prog_14_method_61_code 106 = some (.invokevirtual 134, 3) := by decide +kernel
theorem dm_fit_109 : mj_dec prog_14_method_61_code 109 = some (.iload 5, 2) := by decide +kernel
theorem dm_fit_111 : mj_dec prog_14_method_61_code 111 = some (.isub, 1) := by decide +kernel
theorem dm_fit_112 : mj_dec prog_14_method_61_code 112 = some (.goto 4, 3) := by decide +kernel
theorem dm_fit_115 : mj_dec prog_14_method_61_code 115 = some (.iconst 0, 1) := by decide +kernel
theorem dm_fit_116 : mj_dec prog_14_method_61_code 116 = some (.istore 6, 2) := by decide +kernel
theorem dm_fit_118 : mj_dec prog_14_method_61_code 118 = some (.aload_n 0, 1) := by decide +kernel
theorem dm_fit_119 : mj_dec prog_14_method_61_code 119 = some (.iconst 3, 1) := by decide +kernel
theorem dm_fit_120 : mj_dec prog_14_method_61_code 120 = some (.iload 5, 2) := by decide +kernel
theorem dm_fit_122 : mj_dec prog_14_method_61_code 122 = some (.invokevirtual 126, 3) := by decide +kernel
theorem dm_fit_125 : mj_dec prog_14_method_61_code 125 = some (.istore 7, 2) := by decide +kernel
theorem dm_fit_127 : mj_dec prog_14_method_61_code 127 = some (.iconst 0, 1) := by decide +kernel
theorem dm_fit_128 : mj_dec prog_14_method_61_code 128 = some (.istore 8, 2) := by decide +kernel
theorem dm_fit_130 : mj_dec prog_14_method_61_code 130 = some (.iload 8, 2) := by decide +kernel
theorem dm_fit_132 : mj_dec prog_14_method_61_code 132 = some (.iload 5, 2) := by decide +kernel
theorem dm_fit_134 : mj_dec prog_14_method_61_code 134 = some (.if_icmp .ge 61, 3) := by decide +kernel
theorem dm_fit_137 : mj_dec prog_14_method_61_code 137 = some (.aload_n 0, 1) := by decide +kernel
theorem dm_fit_138 : mj_dec prog_14_method_61_code 138 = some (.getfield 8, 3) := by decide +kernel
theorem dm_fit_141 : mj_dec prog_14_method_61_code 141 = some (.aload_n 0, 1) := by decide +kernel
theorem dm_fit_142 : mj_dec prog_14_method_61_code 142 = some (.getfield 15, 3) := by decide +kernel
theorem dm_fit_145 : mj_dec prog_14_method_61_code 145 = some (.iload 7, 2) := by decide +kernel
theorem dm_fit_147 : mj_dec prog_14_method_61_code 147 = some (.iaload, 1) := by decide +kernel
theorem dm_fit_148 : mj_dec prog_14_method_61_code 148 = some (.iload 8, 2) := by decide +kernel
theorem dm_fit_150 : mj_dec prog_14_method_61_code 150 = some (.iadd, 1) := by decide +kernel
theorem dm_fit_151 : mj_dec prog_14_method_61_code 151 = some (.iload 8, 2) := by decide +kernel
theorem dm_fit_153 : mj_dec prog_14_method_61_code 153 = some (.iload 6, 2) := by decide +kernel
theorem dm_fit_155 : mj_dec prog_14_method_61_code 155 = some (.iadd, 1) := by decide +kernel
theorem dm_fit_156 : mj_dec prog_14_method_61_code 156 = some (.ifCond .lt 29, 3) := by decide +kernel
theorem dm_fit_159 : mj_dec prog_14_method_61_code 159 = some (.iload 8, 2) := by decide +kernel
theorem dm_fit_161 : mj_dec prog_14_method_61_code 161 = some (.iload 6, 2) := by decide +kernel
theorem dm_fit_163 : mj_dec prog_14_method_61_code 163 = some (.iadd, 1) := by decide +kernel
theorem dm_fit_164 : mj_dec prog_14_method_61_code 164 = some (.aload_n 0, 1) := by decide +kernel
theorem dm_fit_165 : mj_dec prog_14_method_61_code 165 = some (.iload_n 2, 1) := by decide +kernel
theorem dm_fit_166 : mj_dec prog_14_method_61_code 166 = some (.invokevirtual 134, 3) := by decide +kernel
theorem dm_fit_169 : mj_dec prog_14_method_61_code 169 = some (.if_icmp .ge 16, 3) := by decide +kernel
theorem dm_fit_172 : mj_dec prog_14_method_61_code 172 = some (.aload_n 0, 1) := by decide +kernel
theorem dm_fit_173 : mj_dec prog_14_method_61_code 173 = some (.iload_n 2, 1) := by decide +kernel
theorem dm_fit_174 : mj_dec prog_14_method_61_code 174 = some (.iload 8, 2) := by decide +kernel
theorem dm_fit_176 : mj_dec prog_14_method_61_code 176 = some (.iload 6, 2) := by decide +kernel
theorem dm_fit_178 : mj_dec prog_14_method_61_code 178 = some (.iadd, 1) := by decide +kernel
theorem dm_fit_179 : mj_dec prog_14_method_61_code 179 = some (.invokevirtual 138, 3) := by decide +kernel
theorem dm_fit_182 : mj_dec prog_14_method_61_code 182 = some (.goto 6, 3) := by decide +kernel
theorem dm_fit_185 : mj_dec prog_14_method_61_code 185 = some (.ldc2_w 271, 3) := by decide +kernel
theorem dm_fit_188 : mj_dec prog_14_method_61_code 188 = some (.lastore, 1) := by decide +kernel
theorem dm_fit_189 : mj_dec prog_14_method_61_code 189 = some (.iinc 8 1, 3) := by decide +kernel
theorem dm_fit_192 : mj_dec prog_14_method_61_code 192 = some (.goto (-62), 3) := by decide +kernel
theorem dm_fit_195 : mj_dec prog_14_method_61_code 195 = some (.iload 7, 2) := by decide +kernel
theorem dm_fit_197 : mj_dec prog_14_method_61_code 197 = some (.ireturn, 1) := by decide +kernel
def lp_fit : Nat → Nat → (Nat → Int32) → (Nat → Int64) → (Nat → Nat → Int32) → (Nat → Nat → Int64) → (Nat → Int32) → (Nat → Int64) → Int32 × (Nat → Int32) × (Nat → Int64) × (Nat → Nat → Int32) × (Nat → Nat → Int64)
  | 0, _, i, l, I, J, _, _ => (0, i, l, I, J)
  | n + 1, hd, i, l, I, J, v, w => match hd with
    | 130 => (if mj_cnd .ge (v 8) (v 5) = true then ((v 7), i, l, I, J) else (if mj_cnd .lt ((v 8) + (v 6)) (0 : Int32) = true then lp_fit n 189 i l I (va_up J 0 (vp_updL (J 0) (((I 1 ((v 7)).toNatClampNeg) + (v 8))).toNatClampNeg (32 : Int64))) v w else (if mj_cnd .ge ((v 8) + (v 6)) (a_many i l I J (v 2)) = true then lp_fit n 189 i l I (va_up J 0 (vp_updL (J 0) (((I 1 ((v 7)).toNatClampNeg) + (v 8))).toNatClampNeg (32 : Int64))) v w else lp_fit n 189 i l I (va_up J 0 (vp_updL (J 0) (((I 1 ((v 7)).toNatClampNeg) + (v 8))).toNatClampNeg (a_number i l I J (v 2) ((v 8) + (v 6))))) v w)))
    | 189 => lp_fit n 130 i l I J (upd v 8 ((v 8) + Int32.ofInt (1))) w
    | _ => (0, i, l, I, J)
theorem lb_fit_130 (n : Nat) (i : Nat → Int32) (l : Nat → Int64) (I : Nat → Nat → Int32) (J : Nat → Nat → Int64) (v : Nat → Int32) (w : Nat → Int64) : lp_fit (n + 1) 130 i l I J v w = (if mj_cnd .ge (v 8) (v 5) = true then ((v 7), i, l, I, J) else (if mj_cnd .lt ((v 8) + (v 6)) (0 : Int32) = true then lp_fit n 189 i l I (va_up J 0 (vp_updL (J 0) (((I 1 ((v 7)).toNatClampNeg) + (v 8))).toNatClampNeg (32 : Int64))) v w else (if mj_cnd .ge ((v 8) + (v 6)) (a_many i l I J (v 2)) = true then lp_fit n 189 i l I (va_up J 0 (vp_updL (J 0) (((I 1 ((v 7)).toNatClampNeg) + (v 8))).toNatClampNeg (32 : Int64))) v w else lp_fit n 189 i l I (va_up J 0 (vp_updL (J 0) (((I 1 ((v 7)).toNatClampNeg) + (v 8))).toNatClampNeg (a_number i l I J (v 2) ((v 8) + (v 6))))) v w))) := rfl
theorem lb_fit_189 (n : Nat) (i : Nat → Int32) (l : Nat → Int64) (I : Nat → Nat → Int32) (J : Nat → Nat → Int64) (v : Nat → Int32) (w : Nat → Int64) : lp_fit (n + 1) 189 i l I J v w = lp_fit n 130 i l I J (upd v 8 ((v 8) + Int32.ofInt (1))) w := rfl
def okl_fit : Nat → Nat → (Nat → Int32) → (Nat → Int64) → (Nat → Nat → Int32) → (Nat → Nat → Int64) → (Nat → Int32) → (Nat → Int64) → Prop
  | 0, _, _, _, _, _, _, _ => False
  | n + 1, hd, i, l, I, J, v, w => match hd with
    | 130 => (if mj_cnd .ge (v 8) (v 5) = true then True else (¬ ((v 7) < 0 ∨ 310000 ≤ ((v 7)).toNatClampNeg) ∧ (if mj_cnd .lt ((v 8) + (v 6)) (0 : Int32) = true then (¬ (((I 1 ((v 7)).toNatClampNeg) + (v 8)) < 0 ∨ 820000 ≤ (((I 1 ((v 7)).toNatClampNeg) + (v 8))).toNatClampNeg) ∧ okl_fit n 189 i l I (va_up J 0 (vp_updL (J 0) (((I 1 ((v 7)).toNatClampNeg) + (v 8))).toNatClampNeg (32 : Int64))) v w) else (ok_many i l I J (v 2) ∧ (if mj_cnd .ge ((v 8) + (v 6)) (a_many i l I J (v 2)) = true then (¬ (((I 1 ((v 7)).toNatClampNeg) + (v 8)) < 0 ∨ 820000 ≤ (((I 1 ((v 7)).toNatClampNeg) + (v 8))).toNatClampNeg) ∧ okl_fit n 189 i l I (va_up J 0 (vp_updL (J 0) (((I 1 ((v 7)).toNatClampNeg) + (v 8))).toNatClampNeg (32 : Int64))) v w) else (ok_number i l I J (v 2) ((v 8) + (v 6)) ∧ (¬ (((I 1 ((v 7)).toNatClampNeg) + (v 8)) < 0 ∨ 820000 ≤ (((I 1 ((v 7)).toNatClampNeg) + (v 8))).toNatClampNeg) ∧ okl_fit n 189 i l I (va_up J 0 (vp_updL (J 0) (((I 1 ((v 7)).toNatClampNeg) + (v 8))).toNatClampNeg (a_number i l I J (v 2) ((v 8) + (v 6))))) v w)))))))
    | 189 => okl_fit n 130 i l I J (upd v 8 ((v 8) + Int32.ofInt (1))) w
    | _ => False
def s_fit (n : Nat) (i : Nat → Int32) (l : Nat → Int64) (I : Nat → Nat → Int32) (J : Nat → Nat → Int64) (p0 : Int32) (p1 : Int32) (p2 : Int32) : Int32 × (Nat → Int32) × (Nat → Int64) × (Nat → Nat → Int32) × (Nat → Nat → Int64) := (if mj_cnd .ne (a_isOne i l I J p0) (0 : Int32) = true then (if mj_cnd .eq (a_kindOf i l I J p0) (1 : Int32) = true then ((a_fail i l I J (5 : Int32) p2), (si_fail i l I J (5 : Int32) p2), l, I, J) else (if mj_cnd .lt (lg_cmp (a_number i l I J p0 (0 : Int32)) (-120 : Int64)) (0 : Int32) = true then ((a_fail i l I J (5 : Int32) p2), (si_fail i l I J (5 : Int32) p2), l, I, J) else (if mj_cnd .gt (lg_cmp (a_number i l I J p0 (0 : Int32)) (120 : Int64)) (0 : Int32) = true then ((a_fail i l I J (5 : Int32) p2), (si_fail i l I J (5 : Int32) p2), l, I, J) else (if mj_cnd .eq (a_kindOf i l I J p1) (1 : Int32) = true then (if mj_cnd .ge ((a_number i l I J p0 (0 : Int32))).toInt32 (0 : Int32) = true then lp_fit n 130 (si_row i l I J (3 : Int32) (((a_number i l I J p0 (0 : Int32))).toInt32)) l (sI_row i l I J (3 : Int32) (((a_number i l I J p0 (0 : Int32))).toInt32)) J (upd (upd (upd (upd (upd (fun _ => 0) 2 p1) 5 ((a_number i l I J p0 (0 : Int32))).toInt32) 6 (0 : Int32)) 7 (a_row i l I J (3 : Int32) (((a_number i l I J p0 (0 : Int32))).toInt32))) 8 (0 : Int32)) (fun _ => 0) else lp_fit n 130 (si_row i l I J (3 : Int32) (-((a_number i l I J p0 (0 : Int32))).toInt32)) l (sI_row i l I J (3 : Int32) (-((a_number i l I J p0 (0 : Int32))).toInt32)) J (upd (upd (upd (upd (upd (fun _ => 0) 2 p1) 5 (-((a_number i l I J p0 (0 : Int32))).toInt32)) 6 ((a_many i l I J p1) - (-((a_number i l I J p0 (0 : Int32))).toInt32))) 7 (a_row i l I J (3 : Int32) (-((a_number i l I J p0 (0 : Int32))).toInt32))) 8 (0 : Int32)) (fun _ => 0)) else (if mj_cnd .eq (a_kindOf i l I J p1) (3 : Int32) = true then (if mj_cnd .ge ((a_number i l I J p0 (0 : Int32))).toInt32 (0 : Int32) = true then lp_fit n 130 (si_row i l I J (3 : Int32) (((a_number i l I J p0 (0 : Int32))).toInt32)) l (sI_row i l I J (3 : Int32) (((a_number i l I J p0 (0 : Int32))).toInt32)) J (upd (upd (upd (upd (upd (fun _ => 0) 2 p1) 5 ((a_number i l I J p0 (0 : Int32))).toInt32) 6 (0 : Int32)) 7 (a_row i l I J (3 : Int32) (((a_number i l I J p0 (0 : Int32))).toInt32))) 8 (0 : Int32)) (fun _ => 0) else lp_fit n 130 (si_row i l I J (3 : Int32) (-((a_number i l I J p0 (0 : Int32))).toInt32)) l (sI_row i l I J (3 : Int32) (-((a_number i l I J p0 (0 : Int32))).toInt32)) J (upd (upd (upd (upd (upd (fun _ => 0) 2 p1) 5 (-((a_number i l I J p0 (0 : Int32))).toInt32)) 6 ((a_many i l I J p1) - (-((a_number i l I J p0 (0 : Int32))).toInt32))) 7 (a_row i l I J (3 : Int32) (-((a_number i l I J p0 (0 : Int32))).toInt32))) 8 (0 : Int32)) (fun _ => 0)) else ((a_fail i l I J (5 : Int32) p2), (si_fail i l I J (5 : Int32) p2), l, I, J)))))) else ((a_fail i l I J (3 : Int32) p2), (si_fail i l I J (3 : Int32) p2), l, I, J))
def ok_fit (n : Nat) (i : Nat → Int32) (l : Nat → Int64) (I : Nat → Nat → Int32) (J : Nat → Nat → Int64) (p0 : Int32) (p1 : Int32) (p2 : Int32) : Prop := (ok_isOne i l I J p0 ∧ (if mj_cnd .ne (a_isOne i l I J p0) (0 : Int32) = true then (ok_kindOf i l I J p0 ∧ (if mj_cnd .eq (a_kindOf i l I J p0) (1 : Int32) = true then (ok_fail i l I J (5 : Int32) p2 ∧ True) else (ok_number i l I J p0 (0 : Int32) ∧ (if mj_cnd .lt (lg_cmp (a_number i l I J p0 (0 : Int32)) (-120 : Int64)) (0 : Int32) = true then (ok_fail i l I J (5 : Int32) p2 ∧ True) else (ok_number i l I J p0 (0 : Int32) ∧ (if mj_cnd .gt (lg_cmp (a_number i l I J p0 (0 : Int32)) (120 : Int64)) (0 : Int32) = true then (ok_fail i l I J (5 : Int32) p2 ∧ True) else (ok_kindOf i l I J p1 ∧ (if mj_cnd .eq (a_kindOf i l I J p1) (1 : Int32) = true then (ok_number i l I J p0 (0 : Int32) ∧ (if mj_cnd .ge ((a_number i l I J p0 (0 : Int32))).toInt32 (0 : Int32) = true then (ok_row i l I J (3 : Int32) (((a_number i l I J p0 (0 : Int32))).toInt32) ∧ okl_fit n 130 (si_row i l I J (3 : Int32) (((a_number i l I J p0 (0 : Int32))).toInt32)) l (sI_row i l I J (3 : Int32) (((a_number i l I J p0 (0 : Int32))).toInt32)) J (upd (upd (upd (upd (upd (fun _ => 0) 2 p1) 5 ((a_number i l I J p0 (0 : Int32))).toInt32) 6 (0 : Int32)) 7 (a_row i l I J (3 : Int32) (((a_number i l I J p0 (0 : Int32))).toInt32))) 8 (0 : Int32)) (fun _ => 0)) else (ok_many i l I J p1 ∧ (ok_row i l I J (3 : Int32) (-((a_number i l I J p0 (0 : Int32))).toInt32) ∧ okl_fit n 130 (si_row i l I J (3 : Int32) (-((a_number i l I J p0 (0 : Int32))).toInt32)) l (sI_row i l I J (3 : Int32) (-((a_number i l I J p0 (0 : Int32))).toInt32)) J (upd (upd (upd (upd (upd (fun _ => 0) 2 p1) 5 (-((a_number i l I J p0 (0 : Int32))).toInt32)) 6 ((a_many i l I J p1) - (-((a_number i l I J p0 (0 : Int32))).toInt32))) 7 (a_row i l I J (3 : Int32) (-((a_number i l I J p0 (0 : Int32))).toInt32))) 8 (0 : Int32)) (fun _ => 0))))) else (ok_kindOf i l I J p1 ∧ (if mj_cnd .eq (a_kindOf i l I J p1) (3 : Int32) = true then (ok_number i l I J p0 (0 : Int32) ∧ (if mj_cnd .ge ((a_number i l I J p0 (0 : Int32))).toInt32 (0 : Int32) = true then (ok_row i l I J (3 : Int32) (((a_number i l I J p0 (0 : Int32))).toInt32) ∧ okl_fit n 130 (si_row i l I J (3 : Int32) (((a_number i l I J p0 (0 : Int32))).toInt32)) l (sI_row i l I J (3 : Int32) (((a_number i l I J p0 (0 : Int32))).toInt32)) J (upd (upd (upd (upd (upd (fun _ => 0) 2 p1) 5 ((a_number i l I J p0 (0 : Int32))).toInt32) 6 (0 : Int32)) 7 (a_row i l I J (3 : Int32) (((a_number i l I J p0 (0 : Int32))).toInt32))) 8 (0 : Int32)) (fun _ => 0)) else (ok_many i l I J p1 ∧ (ok_row i l I J (3 : Int32) (-((a_number i l I J p0 (0 : Int32))).toInt32) ∧ okl_fit n 130 (si_row i l I J (3 : Int32) (-((a_number i l I J p0 (0 : Int32))).toInt32)) l (sI_row i l I J (3 : Int32) (-((a_number i l I J p0 (0 : Int32))).toInt32)) J (upd (upd (upd (upd (upd (fun _ => 0) 2 p1) 5 (-((a_number i l I J p0 (0 : Int32))).toInt32)) 6 ((a_many i l I J p1) - (-((a_number i l I J p0 (0 : Int32))).toInt32))) 7 (a_row i l I J (3 : Int32) (-((a_number i l I J p0 (0 : Int32))).toInt32))) 8 (0 : Int32)) (fun _ => 0))))) else (ok_fail i l I J (5 : Int32) p2 ∧ True))))))))))) else (ok_fail i l I J (3 : Int32) p2 ∧ True)))
set_option maxRecDepth 20000 in
theorem ql_fit {xt : mj_X} {pre post : mj_H} {m : Nat} {d : Nat} (hm : pre.length = m) (h2 : 2 ≤ m) : ∀ n : Nat, (∀ i l I J v w, okl_fit n 130 i l I J v w → mjR (fun N => mj_call (mj_mmof pg_ms) (mj_TTof pg_TL) xt pg_tl 2 (d + 3) N) (mj_TTof pg_TL 12).1 (mj_TTof pg_TL 12).2 xt pg_tl 2 9 (d + 3) false (Option.some Jvm.ClassFile.FieldType.int) (mj_dec prog_14_method_61_code) 130 [(0, .ref m), (2, .int (v 2)), (5, .int (v 5)), (6, .int (v 6)), (7, .int (v 7)), (8, .int (v 8))] [] (rH pre post m i l I J) (some (.int (lp_fit n 130 i l I J v w).1)) (rH pre post m (lp_fit n 130 i l I J v w).2.1 (lp_fit n 130 i l I J v w).2.2.1 (lp_fit n 130 i l I J v w).2.2.2.1 (lp_fit n 130 i l I J v w).2.2.2.2)) ∧ (∀ i l I J v w, okl_fit n 189 i l I J v w → mjR (fun N => mj_call (mj_mmof pg_ms) (mj_TTof pg_TL) xt pg_tl 2 (d + 3) N) (mj_TTof pg_TL 12).1 (mj_TTof pg_TL 12).2 xt pg_tl 2 9 (d + 3) false (Option.some Jvm.ClassFile.FieldType.int) (mj_dec prog_14_method_61_code) 189 [(0, .ref m), (2, .int (v 2)), (5, .int (v 5)), (6, .int (v 6)), (7, .int (v 7)), (8, .int (v 8))] [] (rH pre post m i l I J) (some (.int (lp_fit n 189 i l I J v w).1)) (rH pre post m (lp_fit n 189 i l I J v w).2.1 (lp_fit n 189 i l I J v w).2.2.1 (lp_fit n 189 i l I J v w).2.2.2.1 (lp_fit n 189 i l I J v w).2.2.2.2)) := by
  intro n
  induction n with
  | zero => exact ⟨fun i l I J v w h => absurd h id, fun i l I J v w h => absurd h id⟩
  | succ n ih =>
    refine ⟨?_, ?_⟩
    · intro i l I J v w hok
      have hok : (if mj_cnd .ge (v 8) (v 5) = true then True else (¬ ((v 7) < 0 ∨ 310000 ≤ ((v 7)).toNatClampNeg) ∧ (if mj_cnd .lt ((v 8) + (v 6)) (0 : Int32) = true then (¬ (((I 1 ((v 7)).toNatClampNeg) + (v 8)) < 0 ∨ 820000 ≤ (((I 1 ((v 7)).toNatClampNeg) + (v 8))).toNatClampNeg) ∧ okl_fit n 189 i l I (va_up J 0 (vp_updL (J 0) (((I 1 ((v 7)).toNatClampNeg) + (v 8))).toNatClampNeg (32 : Int64))) v w) else (ok_many i l I J (v 2) ∧ (if mj_cnd .ge ((v 8) + (v 6)) (a_many i l I J (v 2)) = true then (¬ (((I 1 ((v 7)).toNatClampNeg) + (v 8)) < 0 ∨ 820000 ≤ (((I 1 ((v 7)).toNatClampNeg) + (v 8))).toNatClampNeg) ∧ okl_fit n 189 i l I (va_up J 0 (vp_updL (J 0) (((I 1 ((v 7)).toNatClampNeg) + (v 8))).toNatClampNeg (32 : Int64))) v w) else (ok_number i l I J (v 2) ((v 8) + (v 6)) ∧ (¬ (((I 1 ((v 7)).toNatClampNeg) + (v 8)) < 0 ∨ 820000 ≤ (((I 1 ((v 7)).toNatClampNeg) + (v 8))).toNatClampNeg) ∧ okl_fit n 189 i l I (va_up J 0 (vp_updL (J 0) (((I 1 ((v 7)).toNatClampNeg) + (v 8))).toNatClampNeg (a_number i l I J (v 2) ((v 8) + (v 6))))) v w))))))) := hok
      refine ms1 dm_fit_130 rfl rfl rfl rfl ?_
      refine ms1 dm_fit_132 rfl rfl rfl rfl ?_
      refine ms_2c dm_fit_134 rfl rfl (fun hb1 => ?_) (fun hb1 => ?_)
      · have hb1 : mj_cnd .ge (v 8) (v 5) = true := hb1
        rw [if_pos hb1] at hok
        refine ms1 dm_fit_195 rfl rfl rfl rfl ?_
        have he : lp_fit (n + 1) 130 i l I J v w = ((v 7), i, l, I, J) := by
          rw [lb_fit_130]
          simp only [hb1, Bool.false_eq_true, if_true, if_false]
        rw [he]
        exact ms5 dm_fit_197 rfl rfl rfl
      · have hb1 : ¬ (mj_cnd .ge (v 8) (v 5) = true) := hb1
        rw [if_neg hb1] at hok
        refine ms1 dm_fit_137 rfl rfl rfl rfl ?_
        refine ms3 dm_fit_138 (r_get hm h2 rfl (rg_0 _ _ _)) rfl rfl rfl ?_
        refine ms1 dm_fit_141 rfl rfl rfl rfl ?_
        refine ms3 dm_fit_142 (r_get hm h2 rfl (rg_1 _ _ _)) rfl rfl rfl ?_
        refine ms1 dm_fit_145 rfl rfl rfl rfl ?_
        obtain ⟨ho, hok⟩ := hok
        refine ms3 dm_fit_147 (r_iald hm h2 (rc_1 _ _ _ _ _) rfl ho) rfl rfl rfl ?_
        refine ms1 dm_fit_148 rfl rfl rfl rfl ?_
        refine ms0 dm_fit_150 rfl rfl rfl rfl ?_
        refine ms1 dm_fit_151 rfl rfl rfl rfl ?_
        refine ms1 dm_fit_153 rfl rfl rfl rfl ?_
        refine ms0 dm_fit_155 rfl rfl rfl rfl ?_
        refine ms_1c dm_fit_156 rfl rfl (fun hb2 => ?_) (fun hb2 => ?_)
        · have hb2 : mj_cnd .lt ((v 8) + (v 6)) (0 : Int32) = true := hb2
          rw [if_pos hb2] at hok
          refine ms3 (S' := .long (32 : Int64) :: _) dm_fit_185 rfl rfl rfl rfl ?_
          obtain ⟨ho, hok⟩ := hok
          refine ms3 dm_fit_188 (r_lastk (k := 0) hm h2 (rc_0 _ _ _ _ _) rfl ho (rs_0 _ _ _ _ _ _)) rfl rfl rfl ?_
          have he : lp_fit (n + 1) 130 i l I J v w = lp_fit n 189 i l I (va_up J 0 (vp_updL (J 0) (((I 1 ((v 7)).toNatClampNeg) + (v 8))).toNatClampNeg (32 : Int64))) v w := by
            rw [lb_fit_130]
            simp only [hb1, hb2, Bool.false_eq_true, if_true, if_false]
          rw [he]
          exact mjR_sub rfl rfl rfl (ih.2 _ _ _ _ _ _ hok)
        · have hb2 : ¬ (mj_cnd .lt ((v 8) + (v 6)) (0 : Int32) = true) := hb2
          rw [if_neg hb2] at hok
          refine ms1 dm_fit_159 rfl rfl rfl rfl ?_
          refine ms1 dm_fit_161 rfl rfl rfl rfl ?_
          refine ms0 dm_fit_163 rfl rfl rfl rfl ?_
          refine ms1 dm_fit_164 rfl rfl rfl rfl ?_
          refine ms1 dm_fit_165 rfl rfl rfl rfl ?_
          obtain ⟨ho, hok⟩ := hok
          refine ms4 dm_fit_166 rfl (r_inv (As := [.int (v 2)]) hm h2 rfl rfl rfl) (q_many hm h2 ho) rfl rfl rfl ?_
          refine ms_2c dm_fit_169 rfl rfl (fun hb3 => ?_) (fun hb3 => ?_)
          · have hb3 : mj_cnd .ge ((v 8) + (v 6)) (a_many i l I J (v 2)) = true := hb3
            rw [if_pos hb3] at hok
            refine ms3 (S' := .long (32 : Int64) :: _) dm_fit_185 rfl rfl rfl rfl ?_
            obtain ⟨ho, hok⟩ := hok
            refine ms3 dm_fit_188 (r_lastk (k := 0) hm h2 (rc_0 _ _ _ _ _) rfl ho (rs_0 _ _ _ _ _ _)) rfl rfl rfl ?_
            have he : lp_fit (n + 1) 130 i l I J v w = lp_fit n 189 i l I (va_up J 0 (vp_updL (J 0) (((I 1 ((v 7)).toNatClampNeg) + (v 8))).toNatClampNeg (32 : Int64))) v w := by
              rw [lb_fit_130]
              simp only [hb1, hb2, hb3, Bool.false_eq_true, if_true, if_false]
            rw [he]
            exact mjR_sub rfl rfl rfl (ih.2 _ _ _ _ _ _ hok)
          · have hb3 : ¬ (mj_cnd .ge ((v 8) + (v 6)) (a_many i l I J (v 2)) = true) := hb3
            rw [if_neg hb3] at hok
            refine ms1 dm_fit_172 rfl rfl rfl rfl ?_
            refine ms1 dm_fit_173 rfl rfl rfl rfl ?_
            refine ms1 dm_fit_174 rfl rfl rfl rfl ?_
            refine ms1 dm_fit_176 rfl rfl rfl rfl ?_
            refine ms0 dm_fit_178 rfl rfl rfl rfl ?_
            obtain ⟨ho, hok⟩ := hok
            refine ms4 dm_fit_179 rfl (r_inv (As := [.int (v 2), .int ((v 8) + (v 6))]) hm h2 rfl rfl rfl) (q_number hm h2 ho) rfl rfl rfl ?_
            refine ms2 dm_fit_182 rfl rfl rfl ?_
            obtain ⟨ho, hok⟩ := hok
            refine ms3 dm_fit_188 (r_lastk (k := 0) hm h2 (rc_0 _ _ _ _ _) rfl ho (rs_0 _ _ _ _ _ _)) rfl rfl rfl ?_
            have he : lp_fit (n + 1) 130 i l I J v w = lp_fit n 189 i l I (va_up J 0 (vp_updL (J 0) (((I 1 ((v 7)).toNatClampNeg) + (v 8))).toNatClampNeg (a_number i l I J (v 2) ((v 8) + (v 6))))) v w := by
              rw [lb_fit_130]
              simp only [hb1, hb2, hb3, Bool.false_eq_true, if_true, if_false]
            rw [he]
            exact mjR_sub rfl rfl rfl (ih.2 _ _ _ _ _ _ hok)
    · intro i l I J v w hok
      have hok : okl_fit n 130 i l I J (upd v 8 ((v 8) + Int32.ofInt (1))) w := hok
      refine ms1 dm_fit_189 rfl rfl rfl rfl ?_
      refine ms2 dm_fit_192 rfl rfl rfl ?_
      have he : lp_fit (n + 1) 189 i l I J v w = lp_fit n 130 i l I J (upd v 8 ((v 8) + Int32.ofInt (1))) w := by
        rw [lb_fit_189]
      rw [he]
      exact mjR_sub rfl rfl rfl (ih.1 _ _ _ _ _ _ hok)
set_option maxRecDepth 20000 in
theorem q_fit {xt : mj_X} {pre post : mj_H} {m : Nat} {i : Nat → Int32} {l : Nat → Int64} {I : Nat → Nat → Int32} {J : Nat → Nat → Int64} {d : Nat} (hm : pre.length = m) (h2 : 2 ≤ m) {p0 : Int32} {p1 : Int32} {p2 : Int32} {n : Nat} (hok : ok_fit n i l I J p0 p1 p2) : pgC xt (d + 4) k_fit (.ref m :: [.int p0, .int p1, .int p2]) (rH pre post m i l I J) (some (.int (s_fit n i l I J p0 p1 p2).1)) (rH pre post m (s_fit n i l I J p0 p1 p2).2.1 (s_fit n i l I J p0 p1 p2).2.2.1 (s_fit n i l I J p0 p1 p2).2.2.2.1 (s_fit n i l I J p0 p1 p2).2.2.2.2) := by
  unfold ok_fit at hok
  refine ms_call pm_fit (Nat.le_of_ble_eq_true rfl) ?_
  dsimp only
  refine ms1 dm_fit_0 rfl rfl rfl rfl ?_
  refine ms1 dm_fit_1 rfl rfl rfl rfl ?_
  obtain ⟨ho, hok⟩ := hok
  refine ms4 dm_fit_2 rfl (r_inv (As := [.int p0]) hm h2 rfl rfl rfl) (q_isOne hm h2 ho) rfl rfl rfl ?_
  refine ms_1c dm_fit_5 rfl rfl (fun hb1 => ?_) (fun hb1 => ?_)
  · have hb1 : mj_cnd .ne (a_isOne i l I J p0) (0 : Int32) = true := hb1
    rw [if_pos hb1] at hok
    refine ms1 dm_fit_15 rfl rfl rfl rfl ?_
    refine ms1 dm_fit_16 rfl rfl rfl rfl ?_
    obtain ⟨ho, hok⟩ := hok
    refine ms4 dm_fit_17 rfl (r_inv (As := [.int p0]) hm h2 rfl rfl rfl) (q_kindOf hm h2 ho) rfl rfl rfl ?_
    refine ms0 (S' := .int (1 : Int32) :: _) dm_fit_20 rfl rfl rfl rfl ?_
    refine ms_2c dm_fit_21 rfl rfl (fun hb2 => ?_) (fun hb2 => ?_)
    · have hb2 : mj_cnd .eq (a_kindOf i l I J p0) (1 : Int32) = true := hb2
      rw [if_pos hb2] at hok
      refine ms1 dm_fit_68 rfl rfl rfl rfl ?_
      refine ms0 (S' := .int (5 : Int32) :: _) dm_fit_69 rfl rfl rfl rfl ?_
      refine ms1 dm_fit_70 rfl rfl rfl rfl ?_
      obtain ⟨ho, hok⟩ := hok
      refine ms4 dm_fit_71 rfl (r_inv (As := [.int (5 : Int32), .int p2]) hm h2 rfl rfl rfl) (q_fail hm h2 ho) rfl rfl rfl ?_
      have he : s_fit n i l I J p0 p1 p2 = ((a_fail i l I J (5 : Int32) p2), (si_fail i l I J (5 : Int32) p2), l, I, J) := by
        unfold s_fit
        simp only [hb1, hb2, Bool.false_eq_true, if_true, if_false]
      rw [he]
      exact ms5 dm_fit_74 rfl rfl rfl
    · have hb2 : ¬ (mj_cnd .eq (a_kindOf i l I J p0) (1 : Int32) = true) := hb2
      rw [if_neg hb2] at hok
      refine ms1 dm_fit_24 rfl rfl rfl rfl ?_
      refine ms1 dm_fit_25 rfl rfl rfl rfl ?_
      refine ms0 (S' := .int (0 : Int32) :: _) dm_fit_26 rfl rfl rfl rfl ?_
      obtain ⟨ho, hok⟩ := hok
      refine ms4 dm_fit_27 rfl (r_inv (As := [.int p0, .int (0 : Int32)]) hm h2 rfl rfl rfl) (q_number hm h2 ho) rfl rfl rfl ?_
      refine ms3 (S' := .long (-120 : Int64) :: _) dm_fit_30 rfl rfl rfl rfl ?_
      refine ms0 dm_fit_33 rfl rfl rfl rfl ?_
      refine ms_1c dm_fit_34 rfl rfl (fun hb3 => ?_) (fun hb3 => ?_)
      · have hb3 : mj_cnd .lt (lg_cmp (a_number i l I J p0 (0 : Int32)) (-120 : Int64)) (0 : Int32) = true := hb3
        rw [if_pos hb3] at hok
        refine ms1 dm_fit_68 rfl rfl rfl rfl ?_
        refine ms0 (S' := .int (5 : Int32) :: _) dm_fit_69 rfl rfl rfl rfl ?_
        refine ms1 dm_fit_70 rfl rfl rfl rfl ?_
        obtain ⟨ho, hok⟩ := hok
        refine ms4 dm_fit_71 rfl (r_inv (As := [.int (5 : Int32), .int p2]) hm h2 rfl rfl rfl) (q_fail hm h2 ho) rfl rfl rfl ?_
        have he : s_fit n i l I J p0 p1 p2 = ((a_fail i l I J (5 : Int32) p2), (si_fail i l I J (5 : Int32) p2), l, I, J) := by
          unfold s_fit
          simp only [hb1, hb2, hb3, Bool.false_eq_true, if_true, if_false]
        rw [he]
        exact ms5 dm_fit_74 rfl rfl rfl
      · have hb3 : ¬ (mj_cnd .lt (lg_cmp (a_number i l I J p0 (0 : Int32)) (-120 : Int64)) (0 : Int32) = true) := hb3
        rw [if_neg hb3] at hok
        refine ms1 dm_fit_37 rfl rfl rfl rfl ?_
        refine ms1 dm_fit_38 rfl rfl rfl rfl ?_
        refine ms0 (S' := .int (0 : Int32) :: _) dm_fit_39 rfl rfl rfl rfl ?_
        obtain ⟨ho, hok⟩ := hok
        refine ms4 dm_fit_40 rfl (r_inv (As := [.int p0, .int (0 : Int32)]) hm h2 rfl rfl rfl) (q_number hm h2 ho) rfl rfl rfl ?_
        refine ms3 (S' := .long (120 : Int64) :: _) dm_fit_43 rfl rfl rfl rfl ?_
        refine ms0 dm_fit_46 rfl rfl rfl rfl ?_
        refine ms_1c dm_fit_47 rfl rfl (fun hb4 => ?_) (fun hb4 => ?_)
        · have hb4 : mj_cnd .gt (lg_cmp (a_number i l I J p0 (0 : Int32)) (120 : Int64)) (0 : Int32) = true := hb4
          rw [if_pos hb4] at hok
          refine ms1 dm_fit_68 rfl rfl rfl rfl ?_
          refine ms0 (S' := .int (5 : Int32) :: _) dm_fit_69 rfl rfl rfl rfl ?_
          refine ms1 dm_fit_70 rfl rfl rfl rfl ?_
          obtain ⟨ho, hok⟩ := hok
          refine ms4 dm_fit_71 rfl (r_inv (As := [.int (5 : Int32), .int p2]) hm h2 rfl rfl rfl) (q_fail hm h2 ho) rfl rfl rfl ?_
          have he : s_fit n i l I J p0 p1 p2 = ((a_fail i l I J (5 : Int32) p2), (si_fail i l I J (5 : Int32) p2), l, I, J) := by
            unfold s_fit
            simp only [hb1, hb2, hb3, hb4, Bool.false_eq_true, if_true, if_false]
          rw [he]
          exact ms5 dm_fit_74 rfl rfl rfl
        · have hb4 : ¬ (mj_cnd .gt (lg_cmp (a_number i l I J p0 (0 : Int32)) (120 : Int64)) (0 : Int32) = true) := hb4
          rw [if_neg hb4] at hok
          refine ms1 dm_fit_50 rfl rfl rfl rfl ?_
          refine ms1 dm_fit_51 rfl rfl rfl rfl ?_
          obtain ⟨ho, hok⟩ := hok
          refine ms4 dm_fit_52 rfl (r_inv (As := [.int p1]) hm h2 rfl rfl rfl) (q_kindOf hm h2 ho) rfl rfl rfl ?_
          refine ms0 (S' := .int (1 : Int32) :: _) dm_fit_55 rfl rfl rfl rfl ?_
          refine ms_2c dm_fit_56 rfl rfl (fun hb5 => ?_) (fun hb5 => ?_)
          · have hb5 : mj_cnd .eq (a_kindOf i l I J p1) (1 : Int32) = true := hb5
            rw [if_pos hb5] at hok
            refine ms1 dm_fit_75 rfl rfl rfl rfl ?_
            refine ms1 dm_fit_76 rfl rfl rfl rfl ?_
            refine ms0 (S' := .int (0 : Int32) :: _) dm_fit_77 rfl rfl rfl rfl ?_
            obtain ⟨ho, hok⟩ := hok
            refine ms4 dm_fit_78 rfl (r_inv (As := [.int p0, .int (0 : Int32)]) hm h2 rfl rfl rfl) (q_number hm h2 ho) rfl rfl rfl ?_
            refine ms0 dm_fit_81 rfl rfl rfl rfl ?_
            refine ms1 dm_fit_82 rfl rfl rfl rfl ?_
            refine ms1 dm_fit_84 rfl rfl rfl rfl ?_
            refine ms_1c dm_fit_86 rfl rfl (fun hb6 => ?_) (fun hb6 => ?_)
            · have hb6 : mj_cnd .ge ((a_number i l I J p0 (0 : Int32))).toInt32 (0 : Int32) = true := hb6
              rw [if_pos hb6] at hok
              refine ms1 dm_fit_95 rfl rfl rfl rfl ?_
              refine ms1 dm_fit_97 rfl rfl rfl rfl ?_
              refine ms1 dm_fit_99 rfl rfl rfl rfl ?_
              refine ms_1t dm_fit_101 rfl hb6 ?_
              refine ms0 (S' := .int (0 : Int32) :: _) dm_fit_115 rfl rfl rfl rfl ?_
              refine ms1 dm_fit_116 rfl rfl rfl rfl ?_
              refine ms1 dm_fit_118 rfl rfl rfl rfl ?_
              refine ms0 (S' := .int (3 : Int32) :: _) dm_fit_119 rfl rfl rfl rfl ?_
              refine ms1 dm_fit_120 rfl rfl rfl rfl ?_
              obtain ⟨ho, hok⟩ := hok
              refine ms4 dm_fit_122 rfl (r_inv (As := [.int (3 : Int32), .int ((a_number i l I J p0 (0 : Int32))).toInt32]) hm h2 rfl rfl rfl) (q_row hm h2 ho) rfl rfl rfl ?_
              refine ms1 dm_fit_125 rfl rfl rfl rfl ?_
              refine ms0 (S' := .int (0 : Int32) :: _) dm_fit_127 rfl rfl rfl rfl ?_
              refine ms1 dm_fit_128 rfl rfl rfl rfl ?_
              have he : s_fit n i l I J p0 p1 p2 = lp_fit n 130 (si_row i l I J (3 : Int32) (((a_number i l I J p0 (0 : Int32))).toInt32)) l (sI_row i l I J (3 : Int32) (((a_number i l I J p0 (0 : Int32))).toInt32)) J (upd (upd (upd (upd (upd (fun _ => 0) 2 p1) 5 ((a_number i l I J p0 (0 : Int32))).toInt32) 6 (0 : Int32)) 7 (a_row i l I J (3 : Int32) (((a_number i l I J p0 (0 : Int32))).toInt32))) 8 (0 : Int32)) (fun _ => 0) := by
                unfold s_fit
                simp only [hb1, hb2, hb3, hb4, hb5, hb6, Bool.false_eq_true, if_true, if_false]
              rw [he]
              exact mjR_sub rfl rfl rfl ((ql_fit hm h2 n).1 _ _ _ _ _ _ hok)
            · have hb6 : ¬ (mj_cnd .ge ((a_number i l I J p0 (0 : Int32))).toInt32 (0 : Int32) = true) := hb6
              rw [if_neg hb6] at hok
              refine ms1 dm_fit_89 rfl rfl rfl rfl ?_
              refine ms0 dm_fit_91 rfl rfl rfl rfl ?_
              refine ms2 dm_fit_92 rfl rfl rfl ?_
              refine ms1 dm_fit_97 rfl rfl rfl rfl ?_
              refine ms1 dm_fit_99 rfl rfl rfl rfl ?_
              refine ms_1f dm_fit_101 rfl hb6 rfl ?_
              refine ms1 dm_fit_104 rfl rfl rfl rfl ?_
              refine ms1 dm_fit_105 rfl rfl rfl rfl ?_
              obtain ⟨ho, hok⟩ := hok
              refine ms4 dm_fit_106 rfl (r_inv (As := [.int p1]) hm h2 rfl rfl rfl) (q_many hm h2 ho) rfl rfl rfl ?_
              refine ms1 dm_fit_109 rfl rfl rfl rfl ?_
              refine ms0 dm_fit_111 rfl rfl rfl rfl ?_
              refine ms2 dm_fit_112 rfl rfl rfl ?_
              refine ms1 dm_fit_116 rfl rfl rfl rfl ?_
              refine ms1 dm_fit_118 rfl rfl rfl rfl ?_
              refine ms0 (S' := .int (3 : Int32) :: _) dm_fit_119 rfl rfl rfl rfl ?_
              refine ms1 dm_fit_120 rfl rfl rfl rfl ?_
              obtain ⟨ho, hok⟩ := hok
              refine ms4 dm_fit_122 rfl (r_inv (As := [.int (3 : Int32), .int (-((a_number i l I J p0 (0 : Int32))).toInt32)]) hm h2 rfl rfl rfl) (q_row hm h2 ho) rfl rfl rfl ?_
              refine ms1 dm_fit_125 rfl rfl rfl rfl ?_
              refine ms0 (S' := .int (0 : Int32) :: _) dm_fit_127 rfl rfl rfl rfl ?_
              refine ms1 dm_fit_128 rfl rfl rfl rfl ?_
              have he : s_fit n i l I J p0 p1 p2 = lp_fit n 130 (si_row i l I J (3 : Int32) (-((a_number i l I J p0 (0 : Int32))).toInt32)) l (sI_row i l I J (3 : Int32) (-((a_number i l I J p0 (0 : Int32))).toInt32)) J (upd (upd (upd (upd (upd (fun _ => 0) 2 p1) 5 (-((a_number i l I J p0 (0 : Int32))).toInt32)) 6 ((a_many i l I J p1) - (-((a_number i l I J p0 (0 : Int32))).toInt32))) 7 (a_row i l I J (3 : Int32) (-((a_number i l I J p0 (0 : Int32))).toInt32))) 8 (0 : Int32)) (fun _ => 0) := by
                unfold s_fit
                simp only [hb1, hb2, hb3, hb4, hb5, hb6, Bool.false_eq_true, if_true, if_false]
              rw [he]
              exact mjR_sub rfl rfl rfl ((ql_fit hm h2 n).1 _ _ _ _ _ _ hok)
          · have hb5 : ¬ (mj_cnd .eq (a_kindOf i l I J p1) (1 : Int32) = true) := hb5
            rw [if_neg hb5] at hok
            refine ms1 dm_fit_59 rfl rfl rfl rfl ?_
            refine ms1 dm_fit_60 rfl rfl rfl rfl ?_
            obtain ⟨ho, hok⟩ := hok
            refine ms4 dm_fit_61 rfl (r_inv (As := [.int p1]) hm h2 rfl rfl rfl) (q_kindOf hm h2 ho) rfl rfl rfl ?_
            refine ms0 (S' := .int (3 : Int32) :: _) dm_fit_64 rfl rfl rfl rfl ?_
            refine ms_2c dm_fit_65 rfl rfl (fun hb7 => ?_) (fun hb7 => ?_)
            · have hb7 : mj_cnd .eq (a_kindOf i l I J p1) (3 : Int32) = true := hb7
              rw [if_pos hb7] at hok
              refine ms1 dm_fit_75 rfl rfl rfl rfl ?_
              refine ms1 dm_fit_76 rfl rfl rfl rfl ?_
              refine ms0 (S' := .int (0 : Int32) :: _) dm_fit_77 rfl rfl rfl rfl ?_
              obtain ⟨ho, hok⟩ := hok
              refine ms4 dm_fit_78 rfl (r_inv (As := [.int p0, .int (0 : Int32)]) hm h2 rfl rfl rfl) (q_number hm h2 ho) rfl rfl rfl ?_
              refine ms0 dm_fit_81 rfl rfl rfl rfl ?_
              refine ms1 dm_fit_82 rfl rfl rfl rfl ?_
              refine ms1 dm_fit_84 rfl rfl rfl rfl ?_
              refine ms_1c dm_fit_86 rfl rfl (fun hb8 => ?_) (fun hb8 => ?_)
              · have hb8 : mj_cnd .ge ((a_number i l I J p0 (0 : Int32))).toInt32 (0 : Int32) = true := hb8
                rw [if_pos hb8] at hok
                refine ms1 dm_fit_95 rfl rfl rfl rfl ?_
                refine ms1 dm_fit_97 rfl rfl rfl rfl ?_
                refine ms1 dm_fit_99 rfl rfl rfl rfl ?_
                refine ms_1t dm_fit_101 rfl hb8 ?_
                refine ms0 (S' := .int (0 : Int32) :: _) dm_fit_115 rfl rfl rfl rfl ?_
                refine ms1 dm_fit_116 rfl rfl rfl rfl ?_
                refine ms1 dm_fit_118 rfl rfl rfl rfl ?_
                refine ms0 (S' := .int (3 : Int32) :: _) dm_fit_119 rfl rfl rfl rfl ?_
                refine ms1 dm_fit_120 rfl rfl rfl rfl ?_
                obtain ⟨ho, hok⟩ := hok
                refine ms4 dm_fit_122 rfl (r_inv (As := [.int (3 : Int32), .int ((a_number i l I J p0 (0 : Int32))).toInt32]) hm h2 rfl rfl rfl) (q_row hm h2 ho) rfl rfl rfl ?_
                refine ms1 dm_fit_125 rfl rfl rfl rfl ?_
                refine ms0 (S' := .int (0 : Int32) :: _) dm_fit_127 rfl rfl rfl rfl ?_
                refine ms1 dm_fit_128 rfl rfl rfl rfl ?_
                have he : s_fit n i l I J p0 p1 p2 = lp_fit n 130 (si_row i l I J (3 : Int32) (((a_number i l I J p0 (0 : Int32))).toInt32)) l (sI_row i l I J (3 : Int32) (((a_number i l I J p0 (0 : Int32))).toInt32)) J (upd (upd (upd (upd (upd (fun _ => 0) 2 p1) 5 ((a_number i l I J p0 (0 : Int32))).toInt32) 6 (0 : Int32)) 7 (a_row i l I J (3 : Int32) (((a_number i l I J p0 (0 : Int32))).toInt32))) 8 (0 : Int32)) (fun _ => 0) := by
                  unfold s_fit
                  simp only [hb1, hb2, hb3, hb4, hb5, hb7, hb8, Bool.false_eq_true, if_true, if_false]
                rw [he]
                exact mjR_sub rfl rfl rfl ((ql_fit hm h2 n).1 _ _ _ _ _ _ hok)
              · have hb8 : ¬ (mj_cnd .ge ((a_number i l I J p0 (0 : Int32))).toInt32 (0 : Int32) = true) := hb8
                rw [if_neg hb8] at hok
                refine ms1 dm_fit_89 rfl rfl rfl rfl ?_
                refine ms0 dm_fit_91 rfl rfl rfl rfl ?_
                refine ms2 dm_fit_92 rfl rfl rfl ?_
                refine ms1 dm_fit_97 rfl rfl rfl rfl ?_
                refine ms1 dm_fit_99 rfl rfl rfl rfl ?_
                refine ms_1f dm_fit_101 rfl hb8 rfl ?_
                refine ms1 dm_fit_104 rfl rfl rfl rfl ?_
                refine ms1 dm_fit_105 rfl rfl rfl rfl ?_
                obtain ⟨ho, hok⟩ := hok
                refine ms4 dm_fit_106 rfl (r_inv (As := [.int p1]) hm h2 rfl rfl rfl) (q_many hm h2 ho) rfl rfl rfl ?_
                refine ms1 dm_fit_109 rfl rfl rfl rfl ?_
                refine ms0 dm_fit_111 rfl rfl rfl rfl ?_
                refine ms2 dm_fit_112 rfl rfl rfl ?_
                refine ms1 dm_fit_116 rfl rfl rfl rfl ?_
                refine ms1 dm_fit_118 rfl rfl rfl rfl ?_
                refine ms0 (S' := .int (3 : Int32) :: _) dm_fit_119 rfl rfl rfl rfl ?_
                refine ms1 dm_fit_120 rfl rfl rfl rfl ?_
                obtain ⟨ho, hok⟩ := hok
                refine ms4 dm_fit_122 rfl (r_inv (As := [.int (3 : Int32), .int (-((a_number i l I J p0 (0 : Int32))).toInt32)]) hm h2 rfl rfl rfl) (q_row hm h2 ho) rfl rfl rfl ?_
                refine ms1 dm_fit_125 rfl rfl rfl rfl ?_
                refine ms0 (S' := .int (0 : Int32) :: _) dm_fit_127 rfl rfl rfl rfl ?_
                refine ms1 dm_fit_128 rfl rfl rfl rfl ?_
                have he : s_fit n i l I J p0 p1 p2 = lp_fit n 130 (si_row i l I J (3 : Int32) (-((a_number i l I J p0 (0 : Int32))).toInt32)) l (sI_row i l I J (3 : Int32) (-((a_number i l I J p0 (0 : Int32))).toInt32)) J (upd (upd (upd (upd (upd (fun _ => 0) 2 p1) 5 (-((a_number i l I J p0 (0 : Int32))).toInt32)) 6 ((a_many i l I J p1) - (-((a_number i l I J p0 (0 : Int32))).toInt32))) 7 (a_row i l I J (3 : Int32) (-((a_number i l I J p0 (0 : Int32))).toInt32))) 8 (0 : Int32)) (fun _ => 0) := by
                  unfold s_fit
                  simp only [hb1, hb2, hb3, hb4, hb5, hb7, hb8, Bool.false_eq_true, if_true, if_false]
                rw [he]
                exact mjR_sub rfl rfl rfl ((ql_fit hm h2 n).1 _ _ _ _ _ _ hok)
            · have hb7 : ¬ (mj_cnd .eq (a_kindOf i l I J p1) (3 : Int32) = true) := hb7
              rw [if_neg hb7] at hok
              refine ms1 dm_fit_68 rfl rfl rfl rfl ?_
              refine ms0 (S' := .int (5 : Int32) :: _) dm_fit_69 rfl rfl rfl rfl ?_
              refine ms1 dm_fit_70 rfl rfl rfl rfl ?_
              obtain ⟨ho, hok⟩ := hok
              refine ms4 dm_fit_71 rfl (r_inv (As := [.int (5 : Int32), .int p2]) hm h2 rfl rfl rfl) (q_fail hm h2 ho) rfl rfl rfl ?_
              have he : s_fit n i l I J p0 p1 p2 = ((a_fail i l I J (5 : Int32) p2), (si_fail i l I J (5 : Int32) p2), l, I, J) := by
                unfold s_fit
                simp only [hb1, hb2, hb3, hb4, hb5, hb7, Bool.false_eq_true, if_true, if_false]
              rw [he]
              exact ms5 dm_fit_74 rfl rfl rfl
  · have hb1 : ¬ (mj_cnd .ne (a_isOne i l I J p0) (0 : Int32) = true) := hb1
    rw [if_neg hb1] at hok
    refine ms1 dm_fit_8 rfl rfl rfl rfl ?_
    refine ms0 (S' := .int (3 : Int32) :: _) dm_fit_9 rfl rfl rfl rfl ?_
    refine ms1 dm_fit_10 rfl rfl rfl rfl ?_
    obtain ⟨ho, hok⟩ := hok
    refine ms4 dm_fit_11 rfl (r_inv (As := [.int (3 : Int32), .int p2]) hm h2 rfl rfl rfl) (q_fail hm h2 ho) rfl rfl rfl ?_
    have he : s_fit n i l I J p0 p1 p2 = ((a_fail i l I J (3 : Int32) p2), (si_fail i l I J (3 : Int32) p2), l, I, J) := by
      unfold s_fit
      simp only [hb1, Bool.false_eq_true, if_true, if_false]
    rw [he]
    exact ms5 dm_fit_14 rfl rfl rfl
