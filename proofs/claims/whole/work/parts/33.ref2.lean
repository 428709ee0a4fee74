def k_settled : Nat := 220
set_option maxRecDepth 20000 in
theorem pm_settled : mj_mmof pg_ms k_settled = some ((⟨"ArrayCalculatorModel", "settled", "(I)I"⟩, prog_14_method_13_code, 4, (Option.some Jvm.ClassFile.FieldType.int)), 12, false, mj_dec prog_14_method_13_code) := rfl
theorem dm_settled_0 : mj_dec prog_14_method_13_code 0 = some (.iconst 1, 1) := by decide +kernel
theorem dm_settled_1 : mj_dec prog_14_method_13_code 1 = some (.istore_n 2, 1) := by decide +kernel
theorem dm_settled_2 : mj_dec prog_14_method_13_code 2 = some (.iconst 0, 1) := by decide +kernel
theorem dm_settled_3 : mj_dec prog_14_method_13_code 3 = some (.istore_n 3, 1) := by decide +kernel
theorem dm_settled_4 : mj_dec prog_14_method_13_code 4 = some (.iload_n 3, 1) := by decide +kernel
theorem dm_settled_5 : mj_dec prog_14_method_13_code 5 = some (.aload_n 0, 1) := by decide +kernel
theorem dm_settled_6 : mj_dec prog_14_method_13_code 6 = some (.iload_n 1, 1) := by decide +kernel
theorem dm_settled_7 : mj_dec prog_14_method_13_code 7 = some (.invokevirtual 134, 3) := by decide +kernel
theorem dm_settled_10 : mj_dec prog_14_method_13_code 10 = some (.if_icmp .ge 31, 3) := by decide +kernel
theorem dm_settled_13 : mj_dec prog_14_method_13_code 13 = some (.iload_n 2, 1) := by decide +kernel
theorem dm_settled_14 : mj_dec prog_14_method_13_code 14 = some (.ifCond .eq 19, 3) := by decide +kernel
theorem dm_settled_17 : mj_dec prog_14_method_13_code 17 = some (.aload_n 0, 1) := by decide +kernel
theorem dm_settled_18 : mj_dec prog_14_method_13_code 18 = some (.iload_n 1, 1) := by decide +kernel
theorem dm_settled_19 : mj_dec prog_14_method_13_code 19 = some (.iload_n 3, 1) := by decide +kernel
theorem dm_settled_20 : mj_dec prog_14_method_13_code 20 = some (.invokevirtual 138, 3) := by decide +kernel
theorem dm_settled_23 : mj_dec prog_14_method_13_code 23 = some (.invokestatic 142, 3) := by decide +kernel
theorem dm_settled_26 : mj_dec prog_14_method_13_code 26 = some (.ifCond .eq 7, 3) := by decide +kernel
theorem dm_settled_29 : mj_dec prog_14_method_13_code 29 = some (.iconst 1, 1) := by decide +kernel
theorem dm_settled_30 : mj_dec prog_14_method_13_code 30 = some (.goto 4, 3) := by decide +kernel
theorem dm_settled_33 : mj_dec prog_14_method_13_code 33 = some (.iconst 0, 1) := by decide +kernel
theorem dm_settled_34 : mj_dec prog_14_method_13_code 34 = some (.istore_n 2, 1) := by decide +kernel
theorem dm_settled_35 : mj_dec prog_14_method_13_code 35 = some (.iinc 3 1, 3) := by decide +kernel
theorem dm_settled_38 : mj_dec prog_14_method_13_code 38 = some (.goto (-34), 3) := by decide +kernel
theorem dm_settled_41 : mj_dec prog_14_method_13_code 41 = some (.aload_n 0, 1) := by decide +kernel
theorem dm_settled_42 : mj_dec prog_14_method_13_code 42 = some (.iload_n 1, 1) := by decide +kernel
theorem dm_settled_43 : mj_dec prog_14_method_13_code 43 = some (.iload_n 2, 1) := by decide +kernel
theorem dm_settled_44 : mj_dec prog_14_method_13_code 44 = some (.ifCond .eq 7, 3) := by decide +kernel
theorem dm_settled_47 : mj_dec prog_14_method_13_code 47 = some (.iconst 4, 1) := by decide +kernel
theorem dm_settled_48 : mj_dec prog_14_method_13_code 48 = some (.goto 4, 3) := by decide +kernel
theorem dm_settled_51 : mj_dec prog_14_method_13_code 51 = some (.iconst 5, 1) := by decide +kernel
theorem dm_settled_52 : mj_dec prog_14_method_13_code 52 = some (.aload_n 0, 1) := by decide +kernel
theorem dm_settled_53 : mj_dec prog_14_method_13_code 53 = some (.getfield 15, 3) := by decide +kernel
theorem dm_settled_56 : mj_dec prog_14_method_13_code 56 = some (.iload_n 1, 1) := by decide +kernel
theorem dm_settled_57 : mj_dec prog_14_method_13_code 57 = some (.iaload, 1) := by decide +kernel
theorem dm_settled_58 : mj_dec prog_14_method_13_code 58 = some (.aload_n 0, 1) := by decide +kernel
theorem dm_settled_59 : mj_dec prog_14_method_13_code 59 = some (.iload_n 1, 1) := by decide +kernel
theorem dm_settled_60 : mj_dec prog_14_method_13_code 60 = some (.invokevirtual 134, 3) := by decide +kernel
theorem dm_settled_63 : mj_dec prog_14_method_13_code 63 = some (.invokevirtual 115, 3) := by decide +kernel
theorem dm_settled_66 : mj_dec prog_14_method_13_code 66 = some (.iload_n 1, 1) := by decide +kernel
theorem dm_settled_67 : mj_dec prog_14_method_13_code 67 = some (.ireturn, 1) := by decide +kernel
def lp_settled : Nat → Nat → (Nat → Int32) → (Nat → Int64) → (Nat → Nat → Int32) → (Nat → Nat → Int64) → (Nat → Int32) → (Nat → Int64) → Int32 × (Nat → Int32) × (Nat → Int64) × (Nat → Nat → Int32) × (Nat → Nat → Int64)
  | 0, _, i, l, I, J, _, _ => (0, i, l, I, J)
  | n + 1, hd, i, l, I, J, v, w => match hd with
    | 4 => (if mj_cnd .ge (v 3) (a_many i l I J (v 1)) = true then (if mj_cnd .eq (v 2) 0 = true then ((v 1), i, l, (sI_view i l I J (v 1) (5 : Int32) (I 1 ((v 1)).toNatClampNeg) (a_many i l I J (v 1))), J) else ((v 1), i, l, (sI_view i l I J (v 1) (4 : Int32) (I 1 ((v 1)).toNatClampNeg) (a_many i l I J (v 1))), J)) else (if mj_cnd .eq (v 2) 0 = true then lp_settled n 4 i l I J (upd (upd v 2 (0 : Int32)) 3 ((v 3) + Int32.ofInt (1))) w else (if mj_cnd .eq (a_fits i l I J (a_number i l I J (v 1) (v 3))) 0 = true then lp_settled n 4 i l I J (upd (upd v 2 (0 : Int32)) 3 ((v 3) + Int32.ofInt (1))) w else lp_settled n 4 i l I J (upd (upd v 2 (1 : Int32)) 3 ((v 3) + Int32.ofInt (1))) w)))
    | _ => (0, i, l, I, J)
def okl_settled : Nat → Nat → (Nat → Int32) → (Nat → Int64) → (Nat → Nat → Int32) → (Nat → Nat → Int64) → (Nat → Int32) → (Nat → Int64) → Prop
  | 0, _, _, _, _, _, _, _ => False
  | n + 1, hd, i, l, I, J, v, w => match hd with
    | 4 => (ok_many i l I J (v 1) ∧ (if mj_cnd .ge (v 3) (a_many i l I J (v 1)) = true then (if mj_cnd .eq (v 2) 0 = true then (¬ ((v 1) < 0 ∨ 310000 ≤ ((v 1)).toNatClampNeg) ∧ (ok_many i l I J (v 1) ∧ (ok_view i l I J (v 1) (5 : Int32) (I 1 ((v 1)).toNatClampNeg) (a_many i l I J (v 1)) ∧ True))) else (¬ ((v 1) < 0 ∨ 310000 ≤ ((v 1)).toNatClampNeg) ∧ (ok_many i l I J (v 1) ∧ (ok_view i l I J (v 1) (4 : Int32) (I 1 ((v 1)).toNatClampNeg) (a_many i l I J (v 1)) ∧ True)))) else (if mj_cnd .eq (v 2) 0 = true then okl_settled n 4 i l I J (upd (upd v 2 (0 : Int32)) 3 ((v 3) + Int32.ofInt (1))) w else (ok_number i l I J (v 1) (v 3) ∧ (ok_fits i l I J (a_number i l I J (v 1) (v 3)) ∧ (if mj_cnd .eq (a_fits i l I J (a_number i l I J (v 1) (v 3))) 0 = true then okl_settled n 4 i l I J (upd (upd v 2 (0 : Int32)) 3 ((v 3) + Int32.ofInt (1))) w else okl_settled n 4 i l I J (upd (upd v 2 (1 : Int32)) 3 ((v 3) + Int32.ofInt (1))) w))))))
    | _ => False
def s_settled (n : Nat) (i : Nat → Int32) (l : Nat → Int64) (I : Nat → Nat → Int32) (J : Nat → Nat → Int64) (p0 : Int32) : Int32 × (Nat → Int32) × (Nat → Int64) × (Nat → Nat → Int32) × (Nat → Nat → Int64) := lp_settled n 4 i l I J (upd (upd (upd (fun _ => 0) 1 p0) 2 (1 : Int32)) 3 (0 : Int32)) (fun _ => 0)
def ok_settled (n : Nat) (i : Nat → Int32) (l : Nat → Int64) (I : Nat → Nat → Int32) (J : Nat → Nat → Int64) (p0 : Int32) : Prop := okl_settled n 4 i l I J (upd (upd (upd (fun _ => 0) 1 p0) 2 (1 : Int32)) 3 (0 : Int32)) (fun _ => 0)
set_option maxRecDepth 20000 in
theorem ql_settled {xt : mj_X} {pre post : mj_H} {m : Nat} {d : Nat} (hm : pre.length = m) (h2 : 2 ≤ m) : ∀ n : Nat, (∀ i l I J v w, okl_settled n 4 i l I J v w → mjR (fun N => mj_call (mj_mmof pg_ms) (mj_TTof pg_TL) xt pg_tl 2 (d + 1) N) (mj_TTof pg_TL 12).1 (mj_TTof pg_TL 12).2 xt pg_tl 2 4 (d + 1) false (Option.some Jvm.ClassFile.FieldType.int) (mj_dec prog_14_method_13_code) 4 [(0, .ref m), (1, .int (v 1)), (2, .int (v 2)), (3, .int (v 3))] [] (rH pre post m i l I J) (some (.int (lp_settled n 4 i l I J v w).1)) (rH pre post m (lp_settled n 4 i l I J v w).2.1 (lp_settled n 4 i l I J v w).2.2.1 (lp_settled n 4 i l I J v w).2.2.2.1 (lp_settled n 4 i l I J v w).2.2.2.2)) := by
  intro n
  induction n with
  | zero => exact fun i l I J v w h => absurd h id
  | succ n ih =>
    · intro i l I J v w hok
      have hok : (ok_many i l I J (v 1) ∧ (if mj_cnd .ge (v 3) (a_many i l I J (v 1)) = true then (if mj_cnd .eq (v 2) 0 = true then (¬ ((v 1) < 0 ∨ 310000 ≤ ((v 1)).toNatClampNeg) ∧ (ok_many i l I J (v 1) ∧ (ok_view i l I J (v 1) (5 : Int32) (I 1 ((v 1)).toNatClampNeg) (a_many i l I J (v 1)) ∧ True))) else (¬ ((v 1) < 0 ∨ 310000 ≤ ((v 1)).toNatClampNeg) ∧ (ok_many i l I J (v 1) ∧ (ok_view i l I J (v 1) (4 : Int32) (I 1 ((v 1)).toNatClampNeg) (a_many i l I J (v 1)) ∧ True)))) else (if mj_cnd .eq (v 2) 0 = true then okl_settled n 4 i l I J (upd (upd v 2 (0 : Int32)) 3 ((v 3) + Int32.ofInt (1))) w else (ok_number i l I J (v 1) (v 3) ∧ (ok_fits i l I J (a_number i l I J (v 1) (v 3)) ∧ (if mj_cnd .eq (a_fits i l I J (a_number i l I J (v 1) (v 3))) 0 = true then okl_settled n 4 i l I J (upd (upd v 2 (0 : Int32)) 3 ((v 3) + Int32.ofInt (1))) w else okl_settled n 4 i l I J (upd (upd v 2 (1 : Int32)) 3 ((v 3) + Int32.ofInt (1))) w)))))) := hok
      refine ms1 dm_settled_4 rfl rfl rfl rfl ?_
      refine ms1 dm_settled_5 rfl rfl rfl rfl ?_
      refine ms1 dm_settled_6 rfl rfl rfl rfl ?_
      obtain ⟨ho, hok⟩ := hok
      refine ms4 dm_settled_7 rfl (r_inv (As := [.int (v 1)]) hm h2 rfl rfl rfl) (q_many hm h2 ho) rfl rfl rfl ?_
      refine ms_2c dm_settled_10 rfl rfl (fun hb1 => ?_) (fun hb1 => ?_)
      · have hb1 : mj_cnd .ge (v 3) (a_many i l I J (v 1)) = true := hb1
        rw [if_pos hb1] at hok
        refine ms1 dm_settled_41 rfl rfl rfl rfl ?_
        refine ms1 dm_settled_42 rfl rfl rfl rfl ?_
        refine ms1 dm_settled_43 rfl rfl rfl rfl ?_
        refine ms_1c dm_settled_44 rfl rfl (fun hb2 => ?_) (fun hb2 => ?_)
        · have hb2 : mj_cnd .eq (v 2) 0 = true := hb2
          rw [if_pos hb2] at hok
          refine ms0 (S' := .int (5 : Int32) :: _) dm_settled_51 rfl rfl rfl rfl ?_
          refine ms1 dm_settled_52 rfl rfl rfl rfl ?_
          refine ms3 dm_settled_53 (r_get hm h2 rfl (rg_1 _ _ _)) rfl rfl rfl ?_
          refine ms1 dm_settled_56 rfl rfl rfl rfl ?_
          obtain ⟨ho, hok⟩ := hok
          refine ms3 dm_settled_57 (r_iald hm h2 (rc_1 _ _ _ _ _) rfl ho) rfl rfl rfl ?_
          refine ms1 dm_settled_58 rfl rfl rfl rfl ?_
          refine ms1 dm_settled_59 rfl rfl rfl rfl ?_
          obtain ⟨ho, hok⟩ := hok
          refine ms4 dm_settled_60 rfl (r_inv (As := [.int (v 1)]) hm h2 rfl rfl rfl) (q_many hm h2 ho) rfl rfl rfl ?_
          obtain ⟨ho, hok⟩ := hok
          refine ms4 dm_settled_63 rfl (r_inv (As := [.int (v 1), .int (5 : Int32), .int (I 1 ((v 1)).toNatClampNeg), .int (a_many i l I J (v 1))]) hm h2 rfl rfl rfl) (q_view hm h2 ho) rfl rfl rfl ?_
          refine ms1 dm_settled_66 rfl rfl rfl rfl ?_
          have he : lp_settled (n + 1) 4 i l I J v w = ((v 1), i, l, (sI_view i l I J (v 1) (5 : Int32) (I 1 ((v 1)).toNatClampNeg) (a_many i l I J (v 1))), J) := by
            show (if mj_cnd .ge (v 3) (a_many i l I J (v 1)) = true then (if mj_cnd .eq (v 2) 0 = true then ((v 1), i, l, (sI_view i l I J (v 1) (5 : Int32) (I 1 ((v 1)).toNatClampNeg) (a_many i l I J (v 1))), J) else ((v 1), i, l, (sI_view i l I J (v 1) (4 : Int32) (I 1 ((v 1)).toNatClampNeg) (a_many i l I J (v 1))), J)) else (if mj_cnd .eq (v 2) 0 = true then lp_settled n 4 i l I J (upd (upd v 2 (0 : Int32)) 3 ((v 3) + Int32.ofInt (1))) w else (if mj_cnd .eq (a_fits i l I J (a_number i l I J (v 1) (v 3))) 0 = true then lp_settled n 4 i l I J (upd (upd v 2 (0 : Int32)) 3 ((v 3) + Int32.ofInt (1))) w else lp_settled n 4 i l I J (upd (upd v 2 (1 : Int32)) 3 ((v 3) + Int32.ofInt (1))) w))) = _
            simp only [hb1, hb2, Bool.false_eq_true, if_true, if_false]
          rw [he]
          exact ms5 dm_settled_67 rfl rfl rfl
        · have hb2 : ¬ (mj_cnd .eq (v 2) 0 = true) := hb2
          rw [if_neg hb2] at hok
          refine ms0 (S' := .int (4 : Int32) :: _) dm_settled_47 rfl rfl rfl rfl ?_
          refine ms2 dm_settled_48 rfl rfl rfl ?_
          refine ms1 dm_settled_52 rfl rfl rfl rfl ?_
          refine ms3 dm_settled_53 (r_get hm h2 rfl (rg_1 _ _ _)) rfl rfl rfl ?_
          refine ms1 dm_settled_56 rfl rfl rfl rfl ?_
          obtain ⟨ho, hok⟩ := hok
          refine ms3 dm_settled_57 (r_iald hm h2 (rc_1 _ _ _ _ _) rfl ho) rfl rfl rfl ?_
          refine ms1 dm_settled_58 rfl rfl rfl rfl ?_
          refine ms1 dm_settled_59 rfl rfl rfl rfl ?_
          obtain ⟨ho, hok⟩ := hok
          refine ms4 dm_settled_60 rfl (r_inv (As := [.int (v 1)]) hm h2 rfl rfl rfl) (q_many hm h2 ho) rfl rfl rfl ?_
          obtain ⟨ho, hok⟩ := hok
          refine ms4 dm_settled_63 rfl (r_inv (As := [.int (v 1), .int (4 : Int32), .int (I 1 ((v 1)).toNatClampNeg), .int (a_many i l I J (v 1))]) hm h2 rfl rfl rfl) (q_view hm h2 ho) rfl rfl rfl ?_
          refine ms1 dm_settled_66 rfl rfl rfl rfl ?_
          have he : lp_settled (n + 1) 4 i l I J v w = ((v 1), i, l, (sI_view i l I J (v 1) (4 : Int32) (I 1 ((v 1)).toNatClampNeg) (a_many i l I J (v 1))), J) := by
            show (if mj_cnd .ge (v 3) (a_many i l I J (v 1)) = true then (if mj_cnd .eq (v 2) 0 = true then ((v 1), i, l, (sI_view i l I J (v 1) (5 : Int32) (I 1 ((v 1)).toNatClampNeg) (a_many i l I J (v 1))), J) else ((v 1), i, l, (sI_view i l I J (v 1) (4 : Int32) (I 1 ((v 1)).toNatClampNeg) (a_many i l I J (v 1))), J)) else (if mj_cnd .eq (v 2) 0 = true then lp_settled n 4 i l I J (upd (upd v 2 (0 : Int32)) 3 ((v 3) + Int32.ofInt (1))) w else (if mj_cnd .eq (a_fits i l I J (a_number i l I J (v 1) (v 3))) 0 = true then lp_settled n 4 i l I J (upd (upd v 2 (0 : Int32)) 3 ((v 3) + Int32.ofInt (1))) w else lp_settled n 4 i l I J (upd (upd v 2 (1 : Int32)) 3 ((v 3) + Int32.ofInt (1))) w))) = _
            simp only [hb1, hb2, Bool.false_eq_true, if_true, if_false]
          rw [he]
          exact ms5 dm_settled_67 rfl rfl rfl
      · have hb1 : ¬ (mj_cnd .ge (v 3) (a_many i l I J (v 1)) = true) := hb1
        rw [if_neg hb1] at hok
        refine ms1 dm_settled_13 rfl rfl rfl rfl ?_
        refine ms_1c dm_settled_14 rfl rfl (fun hb3 => ?_) (fun hb3 => ?_)
        · have hb3 : mj_cnd .eq (v 2) 0 = true := hb3
          rw [if_pos hb3] at hok
          refine ms0 (S' := .int (0 : Int32) :: _) dm_settled_33 rfl rfl rfl rfl ?_
          refine ms1 dm_settled_34 rfl rfl rfl rfl ?_
          refine ms1 dm_settled_35 rfl rfl rfl rfl ?_
          refine ms2 dm_settled_38 rfl rfl rfl ?_
          have he : lp_settled (n + 1) 4 i l I J v w = lp_settled n 4 i l I J (upd (upd v 2 (0 : Int32)) 3 ((v 3) + Int32.ofInt (1))) w := by
            show (if mj_cnd .ge (v 3) (a_many i l I J (v 1)) = true then (if mj_cnd .eq (v 2) 0 = true then ((v 1), i, l, (sI_view i l I J (v 1) (5 : Int32) (I 1 ((v 1)).toNatClampNeg) (a_many i l I J (v 1))), J) else ((v 1), i, l, (sI_view i l I J (v 1) (4 : Int32) (I 1 ((v 1)).toNatClampNeg) (a_many i l I J (v 1))), J)) else (if mj_cnd .eq (v 2) 0 = true then lp_settled n 4 i l I J (upd (upd v 2 (0 : Int32)) 3 ((v 3) + Int32.ofInt (1))) w else (if mj_cnd .eq (a_fits i l I J (a_number i l I J (v 1) (v 3))) 0 = true then lp_settled n 4 i l I J (upd (upd v 2 (0 : Int32)) 3 ((v 3) + Int32.ofInt (1))) w else lp_settled n 4 i l I J (upd (upd v 2 (1 : Int32)) 3 ((v 3) + Int32.ofInt (1))) w))) = _
            simp only [hb1, hb3, Bool.false_eq_true, if_true, if_false]
          rw [he]
          exact mjR_sub rfl rfl rfl (ih _ _ _ _ _ _ hok)
        · have hb3 : ¬ (mj_cnd .eq (v 2) 0 = true) := hb3
          rw [if_neg hb3] at hok
          refine ms1 dm_settled_17 rfl rfl rfl rfl ?_
          refine ms1 dm_settled_18 rfl rfl rfl rfl ?_
          refine ms1 dm_settled_19 rfl rfl rfl rfl ?_
          obtain ⟨ho, hok⟩ := hok
          refine ms4 dm_settled_20 rfl (r_inv (As := [.int (v 1), .int (v 3)]) hm h2 rfl rfl rfl) (q_number hm h2 ho) rfl rfl rfl ?_
          obtain ⟨ho, hok⟩ := hok
          refine ms4 dm_settled_23 rfl (r_invs (As := [.long (a_number i l I J (v 1) (v 3))]) rfl rfl rfl) (q_fits hm h2 ho) rfl rfl rfl ?_
          refine ms_1c dm_settled_26 rfl rfl (fun hb4 => ?_) (fun hb4 => ?_)
          · have hb4 : mj_cnd .eq (a_fits i l I J (a_number i l I J (v 1) (v 3))) 0 = true := hb4
            rw [if_pos hb4] at hok
            refine ms0 (S' := .int (0 : Int32) :: _) dm_settled_33 rfl rfl rfl rfl ?_
            refine ms1 dm_settled_34 rfl rfl rfl rfl ?_
            refine ms1 dm_settled_35 rfl rfl rfl rfl ?_
            refine ms2 dm_settled_38 rfl rfl rfl ?_
            have he : lp_settled (n + 1) 4 i l I J v w = lp_settled n 4 i l I J (upd (upd v 2 (0 : Int32)) 3 ((v 3) + Int32.ofInt (1))) w := by
              show (if mj_cnd .ge (v 3) (a_many i l I J (v 1)) = true then (if mj_cnd .eq (v 2) 0 = true then ((v 1), i, l, (sI_view i l I J (v 1) (5 : Int32) (I 1 ((v 1)).toNatClampNeg) (a_many i l I J (v 1))), J) else ((v 1), i, l, (sI_view i l I J (v 1) (4 : Int32) (I 1 ((v 1)).toNatClampNeg) (a_many i l I J (v 1))), J)) else (if mj_cnd .eq (v 2) 0 = true then lp_settled n 4 i l I J (upd (upd v 2 (0 : Int32)) 3 ((v 3) + Int32.ofInt (1))) w else (if mj_cnd .eq (a_fits i l I J (a_number i l I J (v 1) (v 3))) 0 = true then lp_settled n 4 i l I J (upd (upd v 2 (0 : Int32)) 3 ((v 3) + Int32.ofInt (1))) w else lp_settled n 4 i l I J (upd (upd v 2 (1 : Int32)) 3 ((v 3) + Int32.ofInt (1))) w))) = _
              simp only [hb1, hb3, hb4, Bool.false_eq_true, if_true, if_false]
            rw [he]
            exact mjR_sub rfl rfl rfl (ih _ _ _ _ _ _ hok)
          · have hb4 : ¬ (mj_cnd .eq (a_fits i l I J (a_number i l I J (v 1) (v 3))) 0 = true) := hb4
            rw [if_neg hb4] at hok
            refine ms0 (S' := .int (1 : Int32) :: _) dm_settled_29 rfl rfl rfl rfl ?_
            refine ms2 dm_settled_30 rfl rfl rfl ?_
            refine ms1 dm_settled_34 rfl rfl rfl rfl ?_
            refine ms1 dm_settled_35 rfl rfl rfl rfl ?_
            refine ms2 dm_settled_38 rfl rfl rfl ?_
            have he : lp_settled (n + 1) 4 i l I J v w = lp_settled n 4 i l I J (upd (upd v 2 (1 : Int32)) 3 ((v 3) + Int32.ofInt (1))) w := by
              show (if mj_cnd .ge (v 3) (a_many i l I J (v 1)) = true then (if mj_cnd .eq (v 2) 0 = true then ((v 1), i, l, (sI_view i l I J (v 1) (5 : Int32) (I 1 ((v 1)).toNatClampNeg) (a_many i l I J (v 1))), J) else ((v 1), i, l, (sI_view i l I J (v 1) (4 : Int32) (I 1 ((v 1)).toNatClampNeg) (a_many i l I J (v 1))), J)) else (if mj_cnd .eq (v 2) 0 = true then lp_settled n 4 i l I J (upd (upd v 2 (0 : Int32)) 3 ((v 3) + Int32.ofInt (1))) w else (if mj_cnd .eq (a_fits i l I J (a_number i l I J (v 1) (v 3))) 0 = true then lp_settled n 4 i l I J (upd (upd v 2 (0 : Int32)) 3 ((v 3) + Int32.ofInt (1))) w else lp_settled n 4 i l I J (upd (upd v 2 (1 : Int32)) 3 ((v 3) + Int32.ofInt (1))) w))) = _
              simp only [hb1, hb3, hb4, Bool.false_eq_true, if_true, if_false]
            rw [he]
            exact mjR_sub rfl rfl rfl (ih _ _ _ _ _ _ hok)
set_option maxRecDepth 20000 in
theorem q_settled {xt : mj_X} {pre post : mj_H} {m : Nat} {i : Nat → Int32} {l : Nat → Int64} {I : Nat → Nat → Int32} {J : Nat → Nat → Int64} {d : Nat} (hm : pre.length = m) (h2 : 2 ≤ m) {p0 : Int32} {n : Nat} (hok : ok_settled n i l I J p0) : pgC xt (d + 2) k_settled (.ref m :: [.int p0]) (rH pre post m i l I J) (some (.int (s_settled n i l I J p0).1)) (rH pre post m (s_settled n i l I J p0).2.1 (s_settled n i l I J p0).2.2.1 (s_settled n i l I J p0).2.2.2.1 (s_settled n i l I J p0).2.2.2.2) := by
  unfold ok_settled at hok
  refine ms_call pm_settled (Nat.le_of_ble_eq_true rfl) ?_
  dsimp only
  refine ms0 (S' := .int (1 : Int32) :: _) dm_settled_0 rfl rfl rfl rfl ?_
  refine ms1 dm_settled_1 rfl rfl rfl rfl ?_
  refine ms0 (S' := .int (0 : Int32) :: _) dm_settled_2 rfl rfl rfl rfl ?_
  refine ms1 dm_settled_3 rfl rfl rfl rfl ?_
  have he : s_settled n i l I J p0 = lp_settled n 4 i l I J (upd (upd (upd (fun _ => 0) 1 p0) 2 (1 : Int32)) 3 (0 : Int32)) (fun _ => 0) := by
    unfold s_settled
    rfl
  rw [he]
  exact mjR_sub rfl rfl rfl ((ql_settled hm h2 n) _ _ _ _ _ _ hok)
def k_places : Nat := 282
set_option maxRecDepth 20000 in
theorem pm_places : mj_mmof pg_ms k_places = some ((⟨"ArrayCalculatorModel", "places", "(I)I"⟩, prog_14_method_33_code, 4, (Option.some Jvm.ClassFile.FieldType.int)), 12, false, mj_dec prog_14_method_33_code) := rfl
theorem dm_places_0 : mj_dec prog_14_method_33_code 0 = some (.aload_n 0, 1) := by decide +kernel
theorem dm_places_1 : mj_dec prog_14_method_33_code 1 = some (.iconst 4, 1) := by decide +kernel
theorem dm_places_2 : mj_dec prog_14_method_33_code 2 = some (.iload_n 1, 1) := by decide +kernel
theorem dm_places_3 : mj_dec prog_14_method_33_code 3 = some (.invokevirtual 126, 3) := by decide +kernel
theorem dm_places_6 : mj_dec prog_14_method_33_code 6 = some (.istore_n 2, 1) := by decide +kernel
theorem dm_places_7 : mj_dec prog_14_method_33_code 7 = some (.iconst 0, 1) := by decide +kernel
theorem dm_places_8 : mj_dec prog_14_method_33_code 8 = some (.istore_n 3, 1) := by decide +kernel
theorem dm_places_9 : mj_dec prog_14_method_33_code 9 = some (.iload_n 3, 1) := by decide +kernel
theorem dm_places_10 : mj_dec prog_14_method_33_code 10 = some (.iload_n 1, 1) := by decide +kernel
theorem dm_places_11 : mj_dec prog_14_method_33_code 11 = some (.if_icmp .ge 29, 3) := by decide +kernel
theorem dm_places_14 : mj_dec prog_14_method_33_code 14 = some (.aload_n 0, 1) := by decide +kernel
theorem dm_places_15 : mj_dec prog_14_method_33_code 15 = some (.getfield 8, 3) := by decide +kernel
theorem dm_places_18 : mj_dec prog_14_method_33_code 18 = some (.aload_n 0, 1) := by decide +kernel
theorem dm_places_19 : mj_dec prog_14_method_33_code 19 = some (.getfield 15, 3) := by decide +kernel
theorem dm_places_22 : mj_dec prog_14_method_33_code 22 = some (.iload_n 2, 1) := by decide +kernel
theorem dm_places_23 : mj_dec prog_14_method_33_code 23 = some (.iaload, 1) := by decide +kernel
theorem dm_places_24 : mj_dec prog_14_method_33_code 24 = some (.iload_n 3, 1) := by decide +kernel
theorem dm_places_25 : mj_dec prog_14_method_33_code 25 = some (.iadd, 1) := by decide +kernel
theorem dm_places_26 : mj_dec prog_14_method_33_code 26 = some (.aload_n 0, 1) := by decide +kernel
theorem dm_places_27 : mj_dec prog_14_method_33_code 27 = some (.getfield 33, 3) := by decide +kernel
theorem dm_places_30 : mj_dec prog_14_method_33_code 30 = some (.iload_n 3, 1) := by decide +kernel
theorem dm_places_31 : mj_dec prog_14_method_33_code 31 = some (.iaload, 1) := by decide +kernel
theorem dm_places_32 : mj_dec prog_14_method_33_code 32 = some (.i2l, 1) := by decide +kernel
theorem dm_places_33 : mj_dec prog_14_method_33_code 33 = some (.lastore, 1) := by decide +kernel
theorem dm_places_34 : mj_dec prog_14_method_33_code 34 = some (.iinc 3 1, 3) := by decide +kernel
theorem dm_places_37 : mj_dec prog_14_method_33_code 37 = some (.goto (-28), 3) := by decide +kernel
theorem dm_places_40 : mj_dec prog_14_method_33_code 40 = some (.iload_n 2, 1) := by decide +kernel
theorem dm_places_41 : mj_dec prog_14_method_33_code 41 = some (.ireturn, 1) := by decide +kernel
def lp_places : Nat → Nat → (Nat → Int32) → (Nat → Int64) → (Nat → Nat → Int32) → (Nat → Nat → Int64) → (Nat → Int32) → (Nat → Int64) → Int32 × (Nat → Int32) × (Nat → Int64) × (Nat → Nat → Int32) × (Nat → Nat → Int64)
  | 0, _, i, l, I, J, _, _ => (0, i, l, I, J)
  | n + 1, hd, i, l, I, J, v, w => match hd with
    | 9 => (if mj_cnd .ge (v 3) (v 1) = true then ((v 2), i, l, I, J) else lp_places n 9 i l I (va_up J 0 (vp_updL (J 0) (((I 1 ((v 2)).toNatClampNeg) + (v 3))).toNatClampNeg ((I 14 ((v 3)).toNatClampNeg)).toInt64)) (upd v 3 ((v 3) + Int32.ofInt (1))) w)
    | _ => (0, i, l, I, J)
def okl_places : Nat → Nat → (Nat → Int32) → (Nat → Int64) → (Nat → Nat → Int32) → (Nat → Nat → Int64) → (Nat → Int32) → (Nat → Int64) → Prop
  | 0, _, _, _, _, _, _, _ => False
  | n + 1, hd, i, l, I, J, v, w => match hd with
    | 9 => (if mj_cnd .ge (v 3) (v 1) = true then True else (¬ ((v 2) < 0 ∨ 310000 ≤ ((v 2)).toNatClampNeg) ∧ (¬ ((v 3) < 0 ∨ 260 ≤ ((v 3)).toNatClampNeg) ∧ (¬ (((I 1 ((v 2)).toNatClampNeg) + (v 3)) < 0 ∨ 820000 ≤ (((I 1 ((v 2)).toNatClampNeg) + (v 3))).toNatClampNeg) ∧ okl_places n 9 i l I (va_up J 0 (vp_updL (J 0) (((I 1 ((v 2)).toNatClampNeg) + (v 3))).toNatClampNeg ((I 14 ((v 3)).toNatClampNeg)).toInt64)) (upd v 3 ((v 3) + Int32.ofInt (1))) w))))
    | _ => False
def s_places (n : Nat) (i : Nat → Int32) (l : Nat → Int64) (I : Nat → Nat → Int32) (J : Nat → Nat → Int64) (p0 : Int32) : Int32 × (Nat → Int32) × (Nat → Int64) × (Nat → Nat → Int32) × (Nat → Nat → Int64) := lp_places n 9 (si_row i l I J (4 : Int32) p0) l (sI_row i l I J (4 : Int32) p0) J (upd (upd (upd (fun _ => 0) 1 p0) 2 (a_row i l I J (4 : Int32) p0)) 3 (0 : Int32)) (fun _ => 0)
def ok_places (n : Nat) (i : Nat → Int32) (l : Nat → Int64) (I : Nat → Nat → Int32) (J : Nat → Nat → Int64) (p0 : Int32) : Prop := (ok_row i l I J (4 : Int32) p0 ∧ okl_places n 9 (si_row i l I J (4 : Int32) p0) l (sI_row i l I J (4 : Int32) p0) J (upd (upd (upd (fun _ => 0) 1 p0) 2 (a_row i l I J (4 : Int32) p0)) 3 (0 : Int32)) (fun _ => 0))
set_option maxRecDepth 20000 in
theorem ql_places {xt : mj_X} {pre post : mj_H} {m : Nat} {d : Nat} (hm : pre.length = m) (h2 : 2 ≤ m) : ∀ n : Nat, (∀ i l I J v w, okl_places n 9 i l I J v w → mjR (fun N => mj_call (mj_mmof pg_ms) (mj_TTof pg_TL) xt pg_tl 2 (d + 3) N) (mj_TTof pg_TL 12).1 (mj_TTof pg_TL 12).2 xt pg_tl 2 4 (d + 3) false (Option.some Jvm.ClassFile.FieldType.int) (mj_dec prog_14_method_33_code) 9 [(0, .ref m), (1, .int (v 1)), (2, .int (v 2)), (3, .int (v 3))] [] (rH pre post m i l I J) (some (.int (lp_places n 9 i l I J v w).1)) (rH pre post m (lp_places n 9 i l I J v w).2.1 (lp_places n 9 i l I J v w).2.2.1 (lp_places n 9 i l I J v w).2.2.2.1 (lp_places n 9 i l I J v w).2.2.2.2)) := by
  intro n
  induction n with
  | zero => exact fun i l I J v w h => absurd h id
  | succ n ih =>
    · intro i l I J v w hok
      have hok : (if mj_cnd .ge (v 3) (v 1) = true then True else (¬ ((v 2) < 0 ∨ 310000 ≤ ((v 2)).toNatClampNeg) ∧ (¬ ((v 3) < 0 ∨ 260 ≤ ((v 3)).toNatClampNeg) ∧ (¬ (((I 1 ((v 2)).toNatClampNeg) + (v 3)) < 0 ∨ 820000 ≤ (((I 1 ((v 2)).toNatClampNeg) + (v 3))).toNatClampNeg) ∧ okl_places n 9 i l I (va_up J 0 (vp_updL (J 0) (((I 1 ((v 2)).toNatClampNeg) + (v 3))).toNatClampNeg ((I 14 ((v 3)).toNatClampNeg)).toInt64)) (upd v 3 ((v 3) + Int32.ofInt (1))) w)))) := hok
      refine ms1 dm_places_9 rfl rfl rfl rfl ?_
      refine ms1 dm_places_10 rfl rfl rfl rfl ?_
      refine ms_2c dm_places_11 rfl rfl (fun hb1 => ?_) (fun hb1 => ?_)
      · have hb1 : mj_cnd .ge (v 3) (v 1) = true := hb1
        rw [if_pos hb1] at hok
        refine ms1 dm_places_40 rfl rfl rfl rfl ?_
        have he : lp_places (n + 1) 9 i l I J v w = ((v 2), i, l, I, J) := by
          show (if mj_cnd .ge (v 3) (v 1) = true then ((v 2), i, l, I, J) else lp_places n 9 i l I (va_up J 0 (vp_updL (J 0) (((I 1 ((v 2)).toNatClampNeg) + (v 3))).toNatClampNeg ((I 14 ((v 3)).toNatClampNeg)).toInt64)) (upd v 3 ((v 3) + Int32.ofInt (1))) w) = _
          simp only [hb1, Bool.false_eq_true, if_true, if_false]
        rw [he]
        exact ms5 dm_places_41 rfl rfl rfl
      · have hb1 : ¬ (mj_cnd .ge (v 3) (v 1) = true) := hb1
        rw [if_neg hb1] at hok
        refine ms1 dm_places_14 rfl rfl rfl rfl ?_
        refine ms3 dm_places_15 (r_get hm h2 rfl (rg_0 _ _ _)) rfl rfl rfl ?_
        refine ms1 dm_places_18 rfl rfl rfl rfl ?_
        refine ms3 dm_places_19 (r_get hm h2 rfl (rg_1 _ _ _)) rfl rfl rfl ?_
        refine ms1 dm_places_22 rfl rfl rfl rfl ?_
        obtain ⟨ho, hok⟩ := hok
        refine ms3 dm_places_23 (r_iald hm h2 (rc_1 _ _ _ _ _) rfl ho) rfl rfl rfl ?_
        refine ms1 dm_places_24 rfl rfl rfl rfl ?_
        refine ms0 dm_places_25 rfl rfl rfl rfl ?_
        refine ms1 dm_places_26 rfl rfl rfl rfl ?_
        refine ms3 dm_places_27 (r_get hm h2 rfl (rg_14 _ _ _)) rfl rfl rfl ?_
        refine ms1 dm_places_30 rfl rfl rfl rfl ?_
        obtain ⟨ho, hok⟩ := hok
        refine ms3 dm_places_31 (r_iald hm h2 (rc_14 _ _ _ _ _) rfl ho) rfl rfl rfl ?_
        refine ms0 dm_places_32 rfl rfl rfl rfl ?_
        obtain ⟨ho, hok⟩ := hok
        refine ms3 dm_places_33 (r_lastk (k := 0) hm h2 (rc_0 _ _ _ _ _) rfl ho (rs_0 _ _ _ _ _ _)) rfl rfl rfl ?_
        refine ms1 dm_places_34 rfl rfl rfl rfl ?_
        refine ms2 dm_places_37 rfl rfl rfl ?_
        have he : lp_places (n + 1) 9 i l I J v w = lp_places n 9 i l I (va_up J 0 (vp_updL (J 0) (((I 1 ((v 2)).toNatClampNeg) + (v 3))).toNatClampNeg ((I 14 ((v 3)).toNatClampNeg)).toInt64)) (upd v 3 ((v 3) + Int32.ofInt (1))) w := by
          show (if mj_cnd .ge (v 3) (v 1) = true then ((v 2), i, l, I, J) else lp_places n 9 i l I (va_up J 0 (vp_updL (J 0) (((I 1 ((v 2)).toNatClampNeg) + (v 3))).toNatClampNeg ((I 14 ((v 3)).toNatClampNeg)).toInt64)) (upd v 3 ((v 3) + Int32.ofInt (1))) w) = _
          simp only [hb1, Bool.false_eq_true, if_true, if_false]
        rw [he]
        exact mjR_sub rfl rfl rfl (ih _ _ _ _ _ _ hok)
set_option maxRecDepth 20000 in
theorem q_places {xt : mj_X} {pre post : mj_H} {m : Nat} {i : Nat → Int32} {l : Nat → Int64} {I : Nat → Nat → Int32} {J : Nat → Nat → Int64} {d : Nat} (hm : pre.length = m) (h2 : 2 ≤ m) {p0 : Int32} {n : Nat} (hok : ok_places n i l I J p0) : pgC xt (d + 4) k_places (.ref m :: [.int p0]) (rH pre post m i l I J) (some (.int (s_places n i l I J p0).1)) (rH pre post m (s_places n i l I J p0).2.1 (s_places n i l I J p0).2.2.1 (s_places n i l I J p0).2.2.2.1 (s_places n i l I J p0).2.2.2.2) := by
  unfold ok_places at hok
  refine ms_call pm_places (Nat.le_of_ble_eq_true rfl) ?_
  dsimp only
  refine ms1 dm_places_0 rfl rfl rfl rfl ?_
  refine ms0 (S' := .int (4 : Int32) :: _) dm_places_1 rfl rfl rfl rfl ?_
  refine ms1 dm_places_2 rfl rfl rfl rfl ?_
  obtain ⟨ho, hok⟩ := hok
  refine ms4 dm_places_3 rfl (r_inv (As := [.int (4 : Int32), .int p0]) hm h2 rfl rfl rfl) (q_row hm h2 ho) rfl rfl rfl ?_
  refine ms1 dm_places_6 rfl rfl rfl rfl ?_
  refine ms0 (S' := .int (0 : Int32) :: _) dm_places_7 rfl rfl rfl rfl ?_
  refine ms1 dm_places_8 rfl rfl rfl rfl ?_
  have he : s_places n i l I J p0 = lp_places n 9 (si_row i l I J (4 : Int32) p0) l (sI_row i l I J (4 : Int32) p0) J (upd (upd (upd (fun _ => 0) 1 p0) 2 (a_row i l I J (4 : Int32) p0)) 3 (0 : Int32)) (fun _ => 0) := by
    unfold s_places
    rfl
  rw [he]
  exact mjR_sub rfl rfl rfl ((ql_places hm h2 n) _ _ _ _ _ _ hok)
def k_valueNamed : Nat := 232
set_option maxRecDepth 20000 in
theorem pm_valueNamed : mj_mmof pg_ms k_valueNamed = some ((⟨"ArrayCalculatorModel", "valueNamed", "(J)I"⟩, prog_14_method_64_code, 4, (Option.some Jvm.ClassFile.FieldType.int)), 12, false, mj_dec prog_14_method_64_code) := rfl
theorem dm_valueNamed_0 : mj_dec prog_14_method_64_code 0 = some (.iconst 0, 1) := by decide +kernel
theorem dm_valueNamed_1 : mj_dec prog_14_method_64_code 1 = some (.istore_n 3, 1) := by decide +kernel
theorem dm_valueNamed_2 : mj_dec prog_14_method_64_code 2 = some (.iload_n 3, 1) := by decide +kernel
theorem dm_valueNamed_3 : mj_dec prog_14_method_64_code 3 = some (.aload_n 0, 1) := by decide +kernel
theorem dm_valueNamed_4 : mj_dec prog_14_method_64_code 4 = some (.getfield 357, 3) := by decide +kernel
theorem dm_valueNamed_7 : mj_dec prog_14_method_64_code 7 = some (.if_icmp .ge 22, 3) := by decide +kernel
theorem dm_valueNamed_10 : mj_dec prog_14_method_64_code 10 = some (.aload_n 0, 1) := by decide +kernel
theorem dm_valueNamed_11 : mj_dec prog_14_method_64_code 11 = some (.getfield 43, 3) := by decide +kernel
theorem dm_valueNamed_14 : mj_dec prog_14_method_64_code 14 = some (.iload_n 3, 1) := by decide +kernel
theorem dm_valueNamed_15 : mj_dec prog_14_method_64_code 15 = some (.laload, 1) := by decide +kernel
theorem dm_valueNamed_16 : mj_dec prog_14_method_64_code 16 = some (.lload_n 1, 1) := by decide +kernel
theorem dm_valueNamed_17 : mj_dec prog_14_method_64_code 17 = some (.lcmp, 1) := by decide +kernel
theorem dm_valueNamed_18 : mj_dec prog_14_method_64_code 18 = some (.ifCond .ne 5, 3) := by decide +kernel
theorem dm_valueNamed_21 : mj_dec prog_14_method_64_code 21 = some (.iload_n 3, 1) := by decide +kernel
theorem dm_valueNamed_22 : mj_dec prog_14_method_64_code 22 = some (.ireturn, 1) := by decide +kernel
theorem dm_valueNamed_23 : mj_dec prog_14_method_64_code 23 = some (.iinc 3 1, 3) := by decide +kernel
theorem dm_valueNamed_26 : mj_dec prog_14_method_64_code 26 = some (.goto (-24), 3) := by decide +kernel
theorem dm_valueNamed_29 : mj_dec prog_14_method_64_code 29 = some (.iconst (-1), 1) := by decide +kernel
theorem dm_valueNamed_30 : mj_dec prog_14_method_64_code 30 = some (.ireturn, 1) := by decide +kernel
def lp_valueNamed : Nat → Nat → (Nat → Int32) → (Nat → Int64) → (Nat → Nat → Int32) → (Nat → Nat → Int64) → (Nat → Int32) → (Nat → Int64) → Int32 × (Nat → Int32) × (Nat → Int64) × (Nat → Nat → Int32) × (Nat → Nat → Int64)
  | 0, _, i, l, I, J, _, _ => (0, i, l, I, J)
  | n + 1, hd, i, l, I, J, v, w => match hd with
    | 2 => (if mj_cnd .ge (v 3) (i 23) = true then ((-1 : Int32), i, l, I, J) else (if mj_cnd .ne (lg_cmp (J 19 ((v 3)).toNatClampNeg) (w 1)) 0 = true then lp_valueNamed n 2 i l I J (upd v 3 ((v 3) + Int32.ofInt (1))) w else ((v 3), i, l, I, J)))
    | _ => (0, i, l, I, J)
def okl_valueNamed : Nat → Nat → (Nat → Int32) → (Nat → Int64) → (Nat → Nat → Int32) → (Nat → Nat → Int64) → (Nat → Int32) → (Nat → Int64) → Prop
  | 0, _, _, _, _, _, _, _ => False
  | n + 1, hd, i, l, I, J, v, w => match hd with
    | 2 => (if mj_cnd .ge (v 3) (i 23) = true then True else (¬ ((v 3) < 0 ∨ 40 ≤ ((v 3)).toNatClampNeg) ∧ (if mj_cnd .ne (lg_cmp (J 19 ((v 3)).toNatClampNeg) (w 1)) 0 = true then okl_valueNamed n 2 i l I J (upd v 3 ((v 3) + Int32.ofInt (1))) w else True)))
    | _ => False
def s_valueNamed (n : Nat) (i : Nat → Int32) (l : Nat → Int64) (I : Nat → Nat → Int32) (J : Nat → Nat → Int64) (p0 : Int64) : Int32 × (Nat → Int32) × (Nat → Int64) × (Nat → Nat → Int32) × (Nat → Nat → Int64) := lp_valueNamed n 2 i l I J (upd (fun _ => 0) 3 (0 : Int32)) (vp_updL (fun _ => 0) 1 p0)
def ok_valueNamed (n : Nat) (i : Nat → Int32) (l : Nat → Int64) (I : Nat → Nat → Int32) (J : Nat → Nat → Int64) (p0 : Int64) : Prop := okl_valueNamed n 2 i l I J (upd (fun _ => 0) 3 (0 : Int32)) (vp_updL (fun _ => 0) 1 p0)
set_option maxRecDepth 20000 in
theorem ql_valueNamed {xt : mj_X} {pre post : mj_H} {m : Nat} {d : Nat} (hm : pre.length = m) (h2 : 2 ≤ m) : ∀ n : Nat, (∀ i l I J v w, okl_valueNamed n 2 i l I J v w → mjR (fun N => mj_call (mj_mmof pg_ms) (mj_TTof pg_TL) xt pg_tl 2 (d + 0) N) (mj_TTof pg_TL 12).1 (mj_TTof pg_TL 12).2 xt pg_tl 2 4 (d + 0) false (Option.some Jvm.ClassFile.FieldType.int) (mj_dec prog_14_method_64_code) 2 [(0, .ref m), (1, .long (w 1)), (3, .int (v 3))] [] (rH pre post m i l I J) (some (.int (lp_valueNamed n 2 i l I J v w).1)) (rH pre post m (lp_valueNamed n 2 i l I J v w).2.1 (lp_valueNamed n 2 i l I J v w).2.2.1 (lp_valueNamed n 2 i l I J v w).2.2.2.1 (lp_valueNamed n 2 i l I J v w).2.2.2.2)) := by
  intro n
  induction n with
  | zero => exact fun i l I J v w h => absurd h id
  | succ n ih =>
    · intro i l I J v w hok
      have hok : (if mj_cnd .ge (v 3) (i 23) = true then True else (¬ ((v 3) < 0 ∨ 40 ≤ ((v 3)).toNatClampNeg) ∧ (if mj_cnd .ne (lg_cmp (J 19 ((v 3)).toNatClampNeg) (w 1)) 0 = true then okl_valueNamed n 2 i l I J (upd v 3 ((v 3) + Int32.ofInt (1))) w else True))) := hok
      refine ms1 dm_valueNamed_2 rfl rfl rfl rfl ?_
      refine ms1 dm_valueNamed_3 rfl rfl rfl rfl ?_
      refine ms3 dm_valueNamed_4 (r_get (v := .int (i 23)) hm h2 rfl (rg_23 _ _ _)) rfl rfl rfl ?_
      refine ms_2c dm_valueNamed_7 rfl rfl (fun hb1 => ?_) (fun hb1 => ?_)
      · have hb1 : mj_cnd .ge (v 3) (i 23) = true := hb1
        rw [if_pos hb1] at hok
        refine ms0 (S' := .int (-1 : Int32) :: _) dm_valueNamed_29 rfl rfl rfl rfl ?_
        have he : lp_valueNamed (n + 1) 2 i l I J v w = ((-1 : Int32), i, l, I, J) := by
          show (if mj_cnd .ge (v 3) (i 23) = true then ((-1 : Int32), i, l, I, J) else (if mj_cnd .ne (lg_cmp (J 19 ((v 3)).toNatClampNeg) (w 1)) 0 = true then lp_valueNamed n 2 i l I J (upd v 3 ((v 3) + Int32.ofInt (1))) w else ((v 3), i, l, I, J))) = _
          simp only [hb1, Bool.false_eq_true, if_true, if_false]
        rw [he]
        exact ms5 dm_valueNamed_30 rfl rfl rfl
      · have hb1 : ¬ (mj_cnd .ge (v 3) (i 23) = true) := hb1
        rw [if_neg hb1] at hok
        refine ms1 dm_valueNamed_10 rfl rfl rfl rfl ?_
        refine ms3 dm_valueNamed_11 (r_get hm h2 rfl (rg_19 _ _ _)) rfl rfl rfl ?_
        refine ms1 dm_valueNamed_14 rfl rfl rfl rfl ?_
        obtain ⟨ho, hok⟩ := hok
        refine ms3 dm_valueNamed_15 (r_lald hm h2 (rc_19 _ _ _ _ _) rfl ho) rfl rfl rfl ?_
        refine ms1 dm_valueNamed_16 rfl rfl rfl rfl ?_
        refine ms0 dm_valueNamed_17 rfl rfl rfl rfl ?_
        refine ms_1c dm_valueNamed_18 rfl rfl (fun hb2 => ?_) (fun hb2 => ?_)
        · have hb2 : mj_cnd .ne (lg_cmp (J 19 ((v 3)).toNatClampNeg) (w 1)) 0 = true := hb2
          rw [if_pos hb2] at hok
          refine ms1 dm_valueNamed_23 rfl rfl rfl rfl ?_
          refine ms2 dm_valueNamed_26 rfl rfl rfl ?_
          have he : lp_valueNamed (n + 1) 2 i l I J v w = lp_valueNamed n 2 i l I J (upd v 3 ((v 3) + Int32.ofInt (1))) w := by
            show (if mj_cnd .ge (v 3) (i 23) = true then ((-1 : Int32), i, l, I, J) else (if mj_cnd .ne (lg_cmp (J 19 ((v 3)).toNatClampNeg) (w 1)) 0 = true then lp_valueNamed n 2 i l I J (upd v 3 ((v 3) + Int32.ofInt (1))) w else ((v 3), i, l, I, J))) = _
            simp only [hb1, hb2, Bool.false_eq_true, if_true, if_false]
          rw [he]
          exact mjR_sub rfl rfl rfl (ih _ _ _ _ _ _ hok)
        · have hb2 : ¬ (mj_cnd .ne (lg_cmp (J 19 ((v 3)).toNatClampNeg) (w 1)) 0 = true) := hb2
          rw [if_neg hb2] at hok
          refine ms1 dm_valueNamed_21 rfl rfl rfl rfl ?_
          have he : lp_valueNamed (n + 1) 2 i l I J v w = ((v 3), i, l, I, J) := by
            show (if mj_cnd .ge (v 3) (i 23) = true then ((-1 : Int32), i, l, I, J) else (if mj_cnd .ne (lg_cmp (J 19 ((v 3)).toNatClampNeg) (w 1)) 0 = true then lp_valueNamed n 2 i l I J (upd v 3 ((v 3) + Int32.ofInt (1))) w else ((v 3), i, l, I, J))) = _
            simp only [hb1, hb2, Bool.false_eq_true, if_true, if_false]
          rw [he]
          exact ms5 dm_valueNamed_22 rfl rfl rfl
set_option maxRecDepth 20000 in
theorem q_valueNamed {xt : mj_X} {pre post : mj_H} {m : Nat} {i : Nat → Int32} {l : Nat → Int64} {I : Nat → Nat → Int32} {J : Nat → Nat → Int64} {d : Nat} (hm : pre.length = m) (h2 : 2 ≤ m) {p0 : Int64} {n : Nat} (hok : ok_valueNamed n i l I J p0) : pgC xt (d + 1) k_valueNamed (.ref m :: [.long p0]) (rH pre post m i l I J) (some (.int (s_valueNamed n i l I J p0).1)) (rH pre post m (s_valueNamed n i l I J p0).2.1 (s_valueNamed n i l I J p0).2.2.1 (s_valueNamed n i l I J p0).2.2.2.1 (s_valueNamed n i l I J p0).2.2.2.2) := by
  unfold ok_valueNamed at hok
  refine ms_call pm_valueNamed (Nat.le_of_ble_eq_true rfl) ?_
  dsimp only
  refine ms0 (S' := .int (0 : Int32) :: _) dm_valueNamed_0 rfl rfl rfl rfl ?_
  refine ms1 dm_valueNamed_1 rfl rfl rfl rfl ?_
  have he : s_valueNamed n i l I J p0 = lp_valueNamed n 2 i l I J (upd (fun _ => 0) 3 (0 : Int32)) (vp_updL (fun _ => 0) 1 p0) := by
    unfold s_valueNamed
    rfl
  rw [he]
  exact mjR_sub rfl rfl rfl ((ql_valueNamed hm h2 n) _ _ _ _ _ _ hok)
def k_functionNamed : Nat := 207
set_option maxRecDepth 20000 in
theorem pm_functionNamed : mj_mmof pg_ms k_functionNamed = some ((⟨"ArrayCalculatorModel", "functionNamed", "(J)I"⟩, prog_14_method_65_code, 4, (Option.some Jvm.ClassFile.FieldType.int)), 12, false, mj_dec prog_14_method_65_code) := rfl
theorem dm_functionNamed_0 : mj_dec prog_14_method_65_code 0 = some (.iconst 0, 1) := by decide +kernel
theorem dm_functionNamed_1 : mj_dec prog_14_method_65_code 1 = some (.istore_n 3, 1) := by decide +kernel
theorem dm_functionNamed_2 : mj_dec prog_14_method_65_code 2 = some (.iload_n 3, 1) := by decide +kernel
theorem dm_functionNamed_3 : mj_dec prog_14_method_65_code 3 = some (.aload_n 0, 1) := by decide +kernel
theorem dm_functionNamed_4 : mj_dec prog_14_method_65_code 4 = some (.getfield 360, 3) := by decide +kernel
theorem dm_functionNamed_7 : mj_dec prog_14_method_65_code 7 = some (.if_icmp .ge 22, 3) := by decide +kernel
theorem dm_functionNamed_10 : mj_dec prog_14_method_65_code 10 = some (.aload_n 0, 1) := by decide +kernel
theorem dm_functionNamed_11 : mj_dec prog_14_method_65_code 11 = some (.getfield 46, 3) := by decide +kernel
theorem dm_functionNamed_14 : mj_dec prog_14_method_65_code 14 = some (.iload_n 3, 1) := by decide +kernel
theorem dm_functionNamed_15 : mj_dec prog_14_method_65_code 15 = some (.laload, 1) := by decide +kernel
theorem dm_functionNamed_16 : mj_dec prog_14_method_65_code 16 = some (.lload_n 1, 1) := by decide +kernel
theorem dm_functionNamed_17 : mj_dec prog_14_method_65_code 17 = some (.lcmp, 1) := by decide +kernel
theorem dm_functionNamed_18 : mj_dec prog_14_method_65_code 18 = some (.ifCond .ne 5, 3) := by decide +kernel
theorem dm_functionNamed_21 : mj_dec prog_14_method_65_code 21 = some (.iload_n 3, 1) := by decide +kernel
theorem dm_functionNamed_22 : mj_dec prog_14_method_65_code 22 = some (.ireturn, 1) := by decide +kernel
theorem dm_functionNamed_23 : mj_dec prog_14_method_65_code 23 = some (.iinc 3 1, 3) := by decide +kernel
theorem dm_functionNamed_26 : mj_dec prog_14_method_65_code 26 = some (.goto (-24), 3) := by decide +kernel
theorem dm_functionNamed_29 : mj_dec prog_14_method_65_code 29 = some (.iconst (-1), 1) := by decide +kernel
theorem dm_functionNamed_30 : mj_dec prog_14_method_65_code 30 = some (.ireturn, 1) := by decide +kernel
def lp_functionNamed : Nat → Nat → (Nat → Int32) → (Nat → Int64) → (Nat → Nat → Int32) → (Nat → Nat → Int64) → (Nat → Int32) → (Nat → Int64) → Int32 × (Nat → Int32) × (Nat → Int64) × (Nat → Nat → Int32) × (Nat → Nat → Int64)
  | 0, _, i, l, I, J, _, _ => (0, i, l, I, J)
  | n + 1, hd, i, l, I, J, v, w => match hd with
    | 2 => (if mj_cnd .ge (v 3) (i 24) = true then ((-1 : Int32), i, l, I, J) else (if mj_cnd .ne (lg_cmp (J 20 ((v 3)).toNatClampNeg) (w 1)) 0 = true then lp_functionNamed n 2 i l I J (upd v 3 ((v 3) + Int32.ofInt (1))) w else ((v 3), i, l, I, J)))
    | _ => (0, i, l, I, J)
def okl_functionNamed : Nat → Nat → (Nat → Int32) → (Nat → Int64) → (Nat → Nat → Int32) → (Nat → Nat → Int64) → (Nat → Int32) → (Nat → Int64) → Prop
  | 0, _, _, _, _, _, _, _ => False
  | n + 1, hd, i, l, I, J, v, w => match hd with
    | 2 => (if mj_cnd .ge (v 3) (i 24) = true then True else (¬ ((v 3) < 0 ∨ 40 ≤ ((v 3)).toNatClampNeg) ∧ (if mj_cnd .ne (lg_cmp (J 20 ((v 3)).toNatClampNeg) (w 1)) 0 = true then okl_functionNamed n 2 i l I J (upd v 3 ((v 3) + Int32.ofInt (1))) w else True)))
    | _ => False
def s_functionNamed (n : Nat) (i : Nat → Int32) (l : Nat → Int64) (I : Nat → Nat → Int32) (J : Nat → Nat → Int64) (p0 : Int64) : Int32 × (Nat → Int32) × (Nat → Int64) × (Nat → Nat → Int32) × (Nat → Nat → Int64) := lp_functionNamed n 2 i l I J (upd (fun _ => 0) 3 (0 : Int32)) (vp_updL (fun _ => 0) 1 p0)
def ok_functionNamed (n : Nat) (i : Nat → Int32) (l : Nat → Int64) (I : Nat → Nat → Int32) (J : Nat → Nat → Int64) (p0 : Int64) : Prop := okl_functionNamed n 2 i l I J (upd (fun _ => 0) 3 (0 : Int32)) (vp_updL (fun _ => 0) 1 p0)
set_option maxRecDepth 20000 in
theorem ql_functionNamed {xt : mj_X} {pre post : mj_H} {m : Nat} {d : Nat} (hm : pre.length = m) (h2 : 2 ≤ m) : ∀ n : Nat, (∀ i l I J v w, okl_functionNamed n 2 i l I J v w → mjR (fun N => mj_call (mj_mmof pg_ms) (mj_TTof pg_TL) xt pg_tl 2 (d + 0) N) (mj_TTof pg_TL 12).1 (mj_TTof pg_TL 12).2 xt pg_tl 2 4 (d + 0) false (Option.some Jvm.ClassFile.FieldType.int) (mj_dec prog_14_method_65_code) 2 [(0, .ref m), (1, .long (w 1)), (3, .int (v 3))] [] (rH pre post m i l I J) (some (.int (lp_functionNamed n 2 i l I J v w).1)) (rH pre post m (lp_functionNamed n 2 i l I J v w).2.1 (lp_functionNamed n 2 i l I J v w).2.2.1 (lp_functionNamed n 2 i l I J v w).2.2.2.1 (lp_functionNamed n 2 i l I J v w).2.2.2.2)) := by
  intro n
  induction n with
  | zero => exact fun i l I J v w h => absurd h id
  | succ n ih =>
    · intro i l I J v w hok
      have hok : (if mj_cnd .ge (v 3) (i 24) = true then True else (¬ ((v 3) < 0 ∨ 40 ≤ ((v 3)).toNatClampNeg) ∧ (if mj_cnd .ne (lg_cmp (J 20 ((v 3)).toNatClampNeg) (w 1)) 0 = true then okl_functionNamed n 2 i l I J (upd v 3 ((v 3) + Int32.ofInt (1))) w else True))) := hok
      refine ms1 dm_functionNamed_2 rfl rfl rfl rfl ?_
      refine ms1 dm_functionNamed_3 rfl rfl rfl rfl ?_
      refine ms3 dm_functionNamed_4 (r_get (v := .int (i 24)) hm h2 rfl (rg_24 _ _ _)) rfl rfl rfl ?_
      refine ms_2c dm_functionNamed_7 rfl rfl (fun hb1 => ?_) (fun hb1 => ?_)
      · have hb1 : mj_cnd .ge (v 3) (i 24) = true := hb1
        rw [if_pos hb1] at hok
        refine ms0 (S' := .int (-1 : Int32) :: _) dm_functionNamed_29 rfl rfl rfl rfl ?_
        have he : lp_functionNamed (n + 1) 2 i l I J v w = ((-1 : Int32), i, l, I, J) := by
          show (if mj_cnd .ge (v 3) (i 24) = true then ((-1 : Int32), i, l, I, J) else (if mj_cnd .ne (lg_cmp (J 20 ((v 3)).toNatClampNeg) (w 1)) 0 = true then lp_functionNamed n 2 i l I J (upd v 3 ((v 3) + Int32.ofInt (1))) w else ((v 3), i, l, I, J))) = _
          simp only [hb1, Bool.false_eq_true, if_true, if_false]
        rw [he]
        exact ms5 dm_functionNamed_30 rfl rfl rfl
      · have hb1 : ¬ (mj_cnd .ge (v 3) (i 24) = true) := hb1
        rw [if_neg hb1] at hok
        refine ms1 dm_functionNamed_10 rfl rfl rfl rfl ?_
        refine ms3 dm_functionNamed_11 (r_get hm h2 rfl (rg_20 _ _ _)) rfl rfl rfl ?_
        refine ms1 dm_functionNamed_14 rfl rfl rfl rfl ?_
        obtain ⟨ho, hok⟩ := hok
        refine ms3 dm_functionNamed_15 (r_lald hm h2 (rc_20 _ _ _ _ _) rfl ho) rfl rfl rfl ?_
        refine ms1 dm_functionNamed_16 rfl rfl rfl rfl ?_
        refine ms0 dm_functionNamed_17 rfl rfl rfl rfl ?_
        refine ms_1c dm_functionNamed_18 rfl rfl (fun hb2 => ?_) (fun hb2 => ?_)
        · have hb2 : mj_cnd .ne (lg_cmp (J 20 ((v 3)).toNatClampNeg) (w 1)) 0 = true := hb2
          rw [if_pos hb2] at hok
          refine ms1 dm_functionNamed_23 rfl rfl rfl rfl ?_
          refine ms2 dm_functionNamed_26 rfl rfl rfl ?_
          have he : lp_functionNamed (n + 1) 2 i l I J v w = lp_functionNamed n 2 i l I J (upd v 3 ((v 3) + Int32.ofInt (1))) w := by
            show (if mj_cnd .ge (v 3) (i 24) = true then ((-1 : Int32), i, l, I, J) else (if mj_cnd .ne (lg_cmp (J 20 ((v 3)).toNatClampNeg) (w 1)) 0 = true then lp_functionNamed n 2 i l I J (upd v 3 ((v 3) + Int32.ofInt (1))) w else ((v 3), i, l, I, J))) = _
            simp only [hb1, hb2, Bool.false_eq_true, if_true, if_false]
          rw [he]
          exact mjR_sub rfl rfl rfl (ih _ _ _ _ _ _ hok)
        · have hb2 : ¬ (mj_cnd .ne (lg_cmp (J 20 ((v 3)).toNatClampNeg) (w 1)) 0 = true) := hb2
          rw [if_neg hb2] at hok
          refine ms1 dm_functionNamed_21 rfl rfl rfl rfl ?_
          have he : lp_functionNamed (n + 1) 2 i l I J v w = ((v 3), i, l, I, J) := by
            show (if mj_cnd .ge (v 3) (i 24) = true then ((-1 : Int32), i, l, I, J) else (if mj_cnd .ne (lg_cmp (J 20 ((v 3)).toNatClampNeg) (w 1)) 0 = true then lp_functionNamed n 2 i l I J (upd v 3 ((v 3) + Int32.ofInt (1))) w else ((v 3), i, l, I, J))) = _
            simp only [hb1, hb2, Bool.false_eq_true, if_true, if_false]
          rw [he]
          exact ms5 dm_functionNamed_22 rfl rfl rfl
set_option maxRecDepth 20000 in
theorem q_functionNamed {xt : mj_X} {pre post : mj_H} {m : Nat} {i : Nat → Int32} {l : Nat → Int64} {I : Nat → Nat → Int32} {J : Nat → Nat → Int64} {d : Nat} (hm : pre.length = m) (h2 : 2 ≤ m) {p0 : Int64} {n : Nat} (hok : ok_functionNamed n i l I J p0) : pgC xt (d + 1) k_functionNamed (.ref m :: [.long p0]) (rH pre post m i l I J) (some (.int (s_functionNamed n i l I J p0).1)) (rH pre post m (s_functionNamed n i l I J p0).2.1 (s_functionNamed n i l I J p0).2.2.1 (s_functionNamed n i l I J p0).2.2.2.1 (s_functionNamed n i l I J p0).2.2.2.2) := by
  unfold ok_functionNamed at hok
  refine ms_call pm_functionNamed (Nat.le_of_ble_eq_true rfl) ?_
  dsimp only
  refine ms0 (S' := .int (0 : Int32) :: _) dm_functionNamed_0 rfl rfl rfl rfl ?_
  refine ms1 dm_functionNamed_1 rfl rfl rfl rfl ?_
  have he : s_functionNamed n i l I J p0 = lp_functionNamed n 2 i l I J (upd (fun _ => 0) 3 (0 : Int32)) (vp_updL (fun _ => 0) 1 p0) := by
    unfold s_functionNamed
    rfl
  rw [he]
  exact mjR_sub rfl rfl rfl ((ql_functionNamed hm h2 n) _ _ _ _ _ _ hok)
