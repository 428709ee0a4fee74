set_option maxRecDepth 20000 in
theorem pm_X12_nest : mj_mmof pg_ms 263 = some ((⟨"ArrayCalculatorModel", "nest", "(I)I"⟩, prog_14_method_38_code, 4, (Option.some Jvm.ClassFile.FieldType.int)), 12, false, mj_dec prog_14_method_38_code) := rfl
theorem dm_X12_nest_0 : mj_dec prog_14_method_38_code 0 = some (.aload_n 0, 1) := by decide +kernel
theorem dm_X12_nest_1 : mj_dec prog_14_method_38_code 1 = some (.bipush 7, 2) := by decide +kernel
theorem dm_X12_nest_3 : mj_dec prog_14_method_38_code 3 = some (.aload_n 0, 1) := by decide +kernel
theorem dm_X12_nest_4 : mj_dec prog_14_method_38_code 4 = some (.getfield 202, 3) := by decide +kernel
theorem dm_X12_nest_7 : mj_dec prog_14_method_38_code 7 = some (.iload_n 1, 1) := by decide +kernel
theorem dm_X12_nest_8 : mj_dec prog_14_method_38_code 8 = some (.isub, 1) := by decide +kernel
theorem dm_X12_nest_9 : mj_dec prog_14_method_38_code 9 = some (.invokevirtual 126, 3) := by decide +kernel
theorem dm_X12_nest_12 : mj_dec prog_14_method_38_code 12 = some (.istore_n 2, 1) := by decide +kernel
theorem dm_X12_nest_13 : mj_dec prog_14_method_38_code 13 = some (.iconst 0, 1) := by decide +kernel
theorem dm_X12_nest_14 : mj_dec prog_14_method_38_code 14 = some (.istore_n 3, 1) := by decide +kernel
theorem dm_X12_nest_15 : mj_dec prog_14_method_38_code 15 = some (.iload_n 3, 1) := by decide +kernel
theorem dm_X12_nest_16 : mj_dec prog_14_method_38_code 16 = some (.aload_n 0, 1) := by decide +kernel
theorem dm_X12_nest_17 : mj_dec prog_14_method_38_code 17 = some (.getfield 202, 3) := by decide +kernel
theorem dm_X12_nest_20 : mj_dec prog_14_method_38_code 20 = some (.iload_n 1, 1) := by decide +kernel
theorem dm_X12_nest_21 : mj_dec prog_14_method_38_code 21 = some (.isub, 1) := by decide +kernel
theorem dm_X12_nest_22 : mj_dec prog_14_method_38_code 22 = some (.if_icmp .ge 31, 3) := by decide +kernel
theorem dm_X12_nest_25 : mj_dec prog_14_method_38_code 25 = some (.aload_n 0, 1) := by decide +kernel
theorem dm_X12_nest_26 : mj_dec prog_14_method_38_code 26 = some (.getfield 8, 3) := by decide +kernel
theorem dm_X12_nest_29 : mj_dec prog_14_method_38_code 29 = some (.aload_n 0, 1) := by decide +kernel
theorem dm_X12_nest_30 : mj_dec prog_14_method_38_code 30 = some (.getfield 15, 3) := by decide +kernel
theorem dm_X12_nest_33 : mj_dec prog_14_method_38_code 33 = some (.iload_n 2, 1) := by decide +kernel
theorem dm_X12_nest_34 : mj_dec prog_14_method_38_code 34 = some (.iaload, 1) := by decide +kernel
theorem dm_X12_nest_35 : mj_dec prog_14_method_38_code 35 = some (.iload_n 3, 1) := by decide +kernel
theorem dm_X12_nest_36 : mj_dec prog_14_method_38_code 36 = some (.iadd, 1) := by decide +kernel
theorem dm_X12_nest_37 : mj_dec prog_14_method_38_code 37 = some (.aload_n 0, 1) := by decide +kernel
theorem dm_X12_nest_38 : mj_dec prog_14_method_38_code 38 = some (.getfield 30, 3) := by decide +kernel
theorem dm_X12_nest_41 : mj_dec prog_14_method_38_code 41 = some (.iload_n 1, 1) := by decide +kernel
theorem dm_X12_nest_42 : mj_dec prog_14_method_38_code 42 = some (.iload_n 3, 1) := by decide +kernel
theorem dm_X12_nest_43 : mj_dec prog_14_method_38_code 43 = some (.iadd, 1) := by decide +kernel
theorem dm_X12_nest_44 : mj_dec prog_14_method_38_code 44 = some (.iaload, 1) := by decide +kernel
theorem dm_X12_nest_45 : mj_dec prog_14_method_38_code 45 = some (.i2l, 1) := by decide +kernel
theorem dm_X12_nest_46 : mj_dec prog_14_method_38_code 46 = some (.lastore, 1) := by decide +kernel
theorem dm_X12_nest_47 : mj_dec prog_14_method_38_code 47 = some (.iinc 3 1, 3) := by decide +kernel
theorem dm_X12_nest_50 : mj_dec prog_14_method_38_code 50 = some (.goto (-35), 3) := by decide +kernel
theorem dm_X12_nest_53 : mj_dec prog_14_method_38_code 53 = some (.aload_n 0, 1) := by decide +kernel
theorem dm_X12_nest_54 : mj_dec prog_14_method_38_code 54 = some (.iload_n 1, 1) := by decide +kernel
theorem dm_X12_nest_55 : mj_dec prog_14_method_38_code 55 = some (.putfield 202, 3) := by decide +kernel
theorem dm_X12_nest_58 : mj_dec prog_14_method_38_code 58 = some (.iload_n 2, 1) := by decide +kernel
theorem dm_X12_nest_59 : mj_dec prog_14_method_38_code 59 = some (.ireturn, 1) := by decide +kernel
theorem r_nest_ {xt : mj_X} {d q b n base : Nat} {pre post : mj_H} {s : RS} (hm : pre.length = 102) (hd1 : 4 ≤ d) (hq : s.1 4 = (q : Int)) (hb : s.1 3 = (b : Int)) (hq3 : 3 ≤ q) (hV2 : q < 310000) (he0 : s.1 5 = 0) (hn : n ≤ 24) (hbs : base + n ≤ 8192) (hw13 : s.1 13 = ((base + n : Nat) : Int)) (hC : b + 24 ≤ 820000) (hO : ∀ k, k < n → 0 ≤ s.2.2.1 12 (base + k) ∧ s.2.2.1 12 (base + k) ≤ 310000) : pgV xt d 263 [.ref 102, ii ((base : Nat) : Int)] (rS pre post s) (fun x h' => x = ii (q : Int) ∧ h' = rS pre post (nestS s q b n base)) := by
  refine x_enter pm_X12_nest (L0 := [(0, .ref 102), (1, ii ((base : Nat) : Int))]) rfl (Nat.le_of_ble_eq_true rfl) (by omega) ?_
  refine me1 (pc' := 1) (L' := [(0, .ref 102), (1, ii ((base : Nat) : Int))]) (S' := [.ref 102]) dm_X12_nest_0 rfl rfl rfl rfl ?_
  refine me0 (pc' := 3) (S' := [ii 7, .ref 102]) dm_X12_nest_1 rfl rfl rfl rfl ?_
  refine me1 (pc' := 4) (L' := [(0, .ref 102), (1, ii ((base : Nat) : Int))]) (S' := [.ref 102, ii 7, .ref 102]) dm_X12_nest_3 rfl rfl rfl rfl ?_
  refine me3 (pc' := 7) (S' := [ii (s.1 13), ii 7, .ref 102]) dm_X12_nest_4 (q_geti (v := s.1 13) hm rfl (fun m i l => rg_13 m i l) rfl) rfl rfl rfl ?_
  refine me1 (pc' := 8) (L' := [(0, .ref 102), (1, ii ((base : Nat) : Int))]) (S' := [ii ((base : Nat) : Int), ii (s.1 13), ii 7, .ref 102]) dm_X12_nest_7 rfl rfl rfl rfl ?_
  refine y_isub (a := s.1 13) (b := ((base : Nat) : Int)) dm_X12_nest_8 (pc' := 9) rfl ?_
  refine pg_st (S' := [ii ((n : Nat) : Int), ii 7, .ref 102]) (congrArg (fun z => ii z :: [ii 7, .ref 102]) (by rw [hw13]; omega)) ?_
  refine x_cv (pc' := 12) (rest := []) dm_X12_nest_9 rfl (q_inv (As := [ii 7, ii ((n : Nat) : Int)]) (S := []) hm rfl rfl rfl) rfl rfl rfl (r_row_ (q := q) (b := b) (s := s) hm (by omega) hq hb (by omega) (by omega) (by omega)) ?_
  rintro _ _ ⟨rfl, rfl⟩
  refine me1 (pc' := 13) (L' := [(2, ii (q : Int)), (0, .ref 102), (1, ii ((base : Nat) : Int))]) (S' := []) dm_X12_nest_12 rfl rfl rfl rfl ?_
  refine me0 (pc' := 14) (S' := [ii 0]) dm_X12_nest_13 rfl rfl rfl rfl ?_
  refine me1 (pc' := 15) (L' := [(3, ii 0), (2, ii (q : Int)), (0, .ref 102), (1, ii ((base : Nat) : Int))]) (S' := []) dm_X12_nest_14 rfl rfl rfl rfl ?_
  have lp15 : ∀ (n15 : Nat) (k : Nat), n - k = n15 → (k ≤ n) → pgE xt (d - 1) 12 4 false (Option.some Jvm.ClassFile.FieldType.int) (mj_dec prog_14_method_38_code) 15 [(0, .ref 102), (1, ii ((base : Nat) : Int)), (2, ii (q : Int)), (3, ii (k : Int))] [] (rI pre post ((fillS (rowS s q b 7 ((n : Nat) : Int)) b k (fun k => Int64.ofInt (s.2.2.1 12 (base + k)))).1) ((fillS (rowS s q b 7 ((n : Nat) : Int)) b k (fun k => Int64.ofInt (s.2.2.1 12 (base + k)))).2.1) ((fillS (rowS s q b 7 ((n : Nat) : Int)) b k (fun k => Int64.ofInt (s.2.2.1 12 (base + k)))).2.2.1) ((fillS (rowS s q b 7 ((n : Nat) : Int)) b k (fun k => Int64.ofInt (s.2.2.1 12 (base + k)))).2.2.2)) (fun r h' => ∃ x, r = some x ∧ x = ii (q : Int) ∧ h' = rS pre post (nestS s q b n base)) := by
    intro n15
    induction n15 using Nat.strongRecOn with
    | ind n15 ih15 =>
      intro k hm15 hk
      refine me1 (pc' := 16) (L' := [(0, .ref 102), (1, ii ((base : Nat) : Int)), (2, ii (q : Int)), (3, ii (k : Int))]) (S' := [ii (k : Int)]) dm_X12_nest_15 rfl rfl rfl rfl ?_
      refine me1 (pc' := 17) (L' := [(0, .ref 102), (1, ii ((base : Nat) : Int)), (2, ii (q : Int)), (3, ii (k : Int))]) (S' := [.ref 102, ii (k : Int)]) dm_X12_nest_16 rfl rfl rfl rfl ?_
      refine me3 (pc' := 20) (S' := [ii (((fillS (rowS s q b 7 ((n : Nat) : Int)) b k (fun k => Int64.ofInt (s.2.2.1 12 (base + k)))).1) 13), ii (k : Int)]) dm_X12_nest_17 (q_geti (v := ((fillS (rowS s q b 7 ((n : Nat) : Int)) b k (fun k => Int64.ofInt (s.2.2.1 12 (base + k)))).1) 13) hm rfl (fun m i l => rg_13 m i l) rfl) rfl rfl rfl ?_
      refine me1 (pc' := 21) (L' := [(0, .ref 102), (1, ii ((base : Nat) : Int)), (2, ii (q : Int)), (3, ii (k : Int))]) (S' := [ii ((base : Nat) : Int), ii (((fillS (rowS s q b 7 ((n : Nat) : Int)) b k (fun k => Int64.ofInt (s.2.2.1 12 (base + k)))).1) 13), ii (k : Int)]) dm_X12_nest_20 rfl rfl rfl rfl ?_
      refine y_isub (a := ((fillS (rowS s q b 7 ((n : Nat) : Int)) b k (fun k => Int64.ofInt (s.2.2.1 12 (base + k)))).1) 13) (b := ((base : Nat) : Int)) dm_X12_nest_21 (pc' := 22) rfl ?_
      refine pg_st (S' := [ii ((n : Nat) : Int), ii (k : Int)]) (congrArg (fun z => ii z :: [ii (k : Int)]) (show s.1 13 - _ = _ by rw [hw13]; omega)) ?_
      refine y_2ge (a := (k : Int)) (b := ((n : Nat) : Int)) (t := 53) (pc' := 25) dm_X12_nest_22 rfl rfl (by omega) (fun hb1 => ?_) (fun hb1 => ?_)
      · refine me1 (pc' := 54) (L' := [(0, .ref 102), (1, ii ((base : Nat) : Int)), (2, ii (q : Int)), (3, ii (k : Int))]) (S' := [.ref 102]) dm_X12_nest_53 rfl rfl rfl rfl ?_
        refine me1 (pc' := 55) (L' := [(0, .ref 102), (1, ii ((base : Nat) : Int)), (2, ii (q : Int)), (3, ii (k : Int))]) (S' := [ii ((base : Nat) : Int), .ref 102]) dm_X12_nest_54 rfl rfl rfl rfl ?_
        refine me3 (pc' := 58) (S' := []) (h1 := rI pre post (va_up ((fillS (rowS s q b 7 ((n : Nat) : Int)) b k (fun k => Int64.ofInt (s.2.2.1 12 (base + k)))).1) 13 ((base : Nat) : Int)) ((fillS (rowS s q b 7 ((n : Nat) : Int)) b k (fun k => Int64.ofInt (s.2.2.1 12 (base + k)))).2.1) ((fillS (rowS s q b 7 ((n : Nat) : Int)) b k (fun k => Int64.ofInt (s.2.2.1 12 (base + k)))).2.2.1) ((fillS (rowS s q b 7 ((n : Nat) : Int)) b k (fun k => Int64.ofInt (s.2.2.1 12 (base + k)))).2.2.2)) dm_X12_nest_55 (q_puti hm rfl rfl (fun m i l v => rf_13 m i l v)) rfl rfl rfl ?_
        refine me1 (pc' := 59) (L' := [(0, .ref 102), (1, ii ((base : Nat) : Int)), (2, ii (q : Int)), (3, ii (k : Int))]) (S' := [ii (q : Int)]) dm_X12_nest_58 rfl rfl rfl rfl ?_
        refine y_ret (r := some (ii (q : Int))) dm_X12_nest_59 rfl rfl rfl ?_
        have hkn : k = n := by omega
        subst hkn
        exact ⟨_, rfl, rfl, rfl⟩
      · refine me1 (pc' := 26) (L' := [(0, .ref 102), (1, ii ((base : Nat) : Int)), (2, ii (q : Int)), (3, ii (k : Int))]) (S' := [.ref 102]) dm_X12_nest_25 rfl rfl rfl rfl ?_
        refine me3 (pc' := 29) (S' := [.ref (102 + 1)]) dm_X12_nest_26 (q_getr hm rfl (fun m i l => rg_0 m i l)) rfl rfl rfl ?_
        refine me1 (pc' := 30) (L' := [(0, .ref 102), (1, ii ((base : Nat) : Int)), (2, ii (q : Int)), (3, ii (k : Int))]) (S' := [.ref 102, .ref (102 + 1)]) dm_X12_nest_29 rfl rfl rfl rfl ?_
        refine me3 (pc' := 33) (S' := [.ref (102 + 2), .ref (102 + 1)]) dm_X12_nest_30 (q_getr hm rfl (fun m i l => rg_1 m i l)) rfl rfl rfl ?_
        refine me1 (pc' := 34) (L' := [(0, .ref 102), (1, ii ((base : Nat) : Int)), (2, ii (q : Int)), (3, ii (k : Int))]) (S' := [ii (q : Int), .ref (102 + 2), .ref (102 + 1)]) dm_X12_nest_33 rfl rfl rfl rfl ?_
        refine me3 (pc' := 35) (S' := [ii ((((fillS (rowS s q b 7 ((n : Nat) : Int)) b k (fun k => Int64.ofInt (s.2.2.1 12 (base + k)))).2.2.1) 1) q), .ref (102 + 1)]) dm_X12_nest_34 (q_iald (v := (((fillS (rowS s q b 7 ((n : Nat) : Int)) b k (fun k => Int64.ofInt (s.2.2.1 12 (base + k)))).2.2.1) 1) q) (k := 1) (n := 310000) hm (fun m i l I J => rc_1 m i l I J) (by omega) (by omega) (by decide) rfl) rfl rfl rfl ?_
        refine pg_st (S' := [ii (b : Int), .ref (102 + 1)]) (congrArg (fun z => ii z :: [.ref (102 + 1)]) (up_eq _ _ _)) ?_
        refine me1 (pc' := 36) (L' := [(0, .ref 102), (1, ii ((base : Nat) : Int)), (2, ii (q : Int)), (3, ii (k : Int))]) (S' := [ii (k : Int), ii (b : Int), .ref (102 + 1)]) dm_X12_nest_35 rfl rfl rfl rfl ?_
        refine y_iadd (a := (b : Int)) (b := (k : Int)) dm_X12_nest_36 (pc' := 37) rfl ?_
        refine me1 (pc' := 38) (L' := [(0, .ref 102), (1, ii ((base : Nat) : Int)), (2, ii (q : Int)), (3, ii (k : Int))]) (S' := [.ref 102, ii ((b : Int) + (k : Int)), .ref (102 + 1)]) dm_X12_nest_37 rfl rfl rfl rfl ?_
        refine me3 (pc' := 41) (S' := [.ref (102 + 4), ii ((b : Int) + (k : Int)), .ref (102 + 1)]) dm_X12_nest_38 (q_getr hm rfl (fun m i l => rg_12 m i l)) rfl rfl rfl ?_
        refine me1 (pc' := 42) (L' := [(0, .ref 102), (1, ii ((base : Nat) : Int)), (2, ii (q : Int)), (3, ii (k : Int))]) (S' := [ii ((base : Nat) : Int), .ref (102 + 4), ii ((b : Int) + (k : Int)), .ref (102 + 1)]) dm_X12_nest_41 rfl rfl rfl rfl ?_
        refine me1 (pc' := 43) (L' := [(0, .ref 102), (1, ii ((base : Nat) : Int)), (2, ii (q : Int)), (3, ii (k : Int))]) (S' := [ii (k : Int), ii ((base : Nat) : Int), .ref (102 + 4), ii ((b : Int) + (k : Int)), .ref (102 + 1)]) dm_X12_nest_42 rfl rfl rfl rfl ?_
        refine y_iadd (a := ((base : Nat) : Int)) (b := (k : Int)) dm_X12_nest_43 (pc' := 44) rfl ?_
        refine pg_st (S' := [ii ((base + k : Nat) : Int), .ref (102 + 4), ii ((b : Int) + (k : Int)), .ref (102 + 1)]) (congrArg (fun z => ii z :: [.ref (102 + 4), ii ((b : Int) + (k : Int)), .ref (102 + 1)]) (by omega)) ?_
        refine me3 (pc' := 45) (S' := [ii ((((fillS (rowS s q b 7 ((n : Nat) : Int)) b k (fun k => Int64.ofInt (s.2.2.1 12 (base + k)))).2.2.1) 12) (base + k)), ii ((b : Int) + (k : Int)), .ref (102 + 1)]) dm_X12_nest_44 (q_iald (v := (((fillS (rowS s q b 7 ((n : Nat) : Int)) b k (fun k => Int64.ofInt (s.2.2.1 12 (base + k)))).2.2.1) 12) (base + k)) (k := 12) (n := 8192) hm (fun m i l I J => rc_12 m i l I J) (by omega) (by omega) (by decide) rfl) rfl rfl rfl ?_
        have hOk := hO k (by omega)
        refine pg_st (S' := [ii (s.2.2.1 12 (base + k)), ii ((b : Int) + (k : Int)), .ref (102 + 1)]) (congrArg (fun z => ii z :: [ii ((b : Int) + (k : Int)), .ref (102 + 1)]) (rfl)) ?_
        refine y_i2l (a := s.2.2.1 12 (base + k)) dm_X12_nest_45 (pc' := 46) rfl (by omega) (by omega) ?_
        refine me3 (pc' := 47) (S' := []) (h1 := rI pre post ((fillS (rowS s q b 7 ((n : Nat) : Int)) b k (fun k => Int64.ofInt (s.2.2.1 12 (base + k)))).1) ((fillS (rowS s q b 7 ((n : Nat) : Int)) b k (fun k => Int64.ofInt (s.2.2.1 12 (base + k)))).2.1) ((fillS (rowS s q b 7 ((n : Nat) : Int)) b k (fun k => Int64.ofInt (s.2.2.1 12 (base + k)))).2.2.1) (va_up ((fillS (rowS s q b 7 ((n : Nat) : Int)) b k (fun k => Int64.ofInt (s.2.2.1 12 (base + k)))).2.2.2) 0 (va_up (((fillS (rowS s q b 7 ((n : Nat) : Int)) b k (fun k => Int64.ofInt (s.2.2.1 12 (base + k)))).2.2.2) 0) (b + k) (Int64.ofInt (s.2.2.1 12 (base + k)))))) dm_X12_nest_46 (q_last (j := (b : Int) + (k : Int)) (k := 0) (n := 820000) hm (fun m i l I J => rc_0 m i l I J) (fun m i l I J f => rs_0 m i l I J f) (by omega) (by omega) (by decide)) rfl rfl rfl ?_
        refine y_iinc (pc' := 50) (L' := [(3, ii ((k : Int) + 1)), (0, .ref 102), (1, ii ((base : Nat) : Int)), (2, ii (q : Int))]) dm_X12_nest_47 (y_incp (a := (k : Int)) (c := 1) rfl rfl (by decide)) rfl ?_
        refine me2 (pc' := 15) (S' := []) dm_X12_nest_50 rfl rfl rfl ?_
        refine pg_cast (h2 := rI pre post ((fillS (rowS s q b 7 ((n : Nat) : Int)) b (k + 1) (fun k => Int64.ofInt (s.2.2.1 12 (base + k)))).1) ((fillS (rowS s q b 7 ((n : Nat) : Int)) b (k + 1) (fun k => Int64.ofInt (s.2.2.1 12 (base + k)))).2.1) ((fillS (rowS s q b 7 ((n : Nat) : Int)) b (k + 1) (fun k => Int64.ofInt (s.2.2.1 12 (base + k)))).2.2.1) ((fillS (rowS s q b 7 ((n : Nat) : Int)) b (k + 1) (fun k => Int64.ofInt (s.2.2.1 12 (base + k)))).2.2.2)) (fill_s (rowS s q b 7 ((n : Nat) : Int)) b k (fun k => Int64.ofInt (s.2.2.1 12 (base + k)))) ?_
        exact pg_sub (L := [(0, .ref 102), (1, ii ((base : Nat) : Int)), (2, ii (q : Int)), (3, ii ((k + 1) : Int))]) rfl rfl rfl (ih15 (n - (k + 1)) (by omega) (k + 1) rfl (by omega))
  refine pg_cast (h2 := rI pre post ((fillS (rowS s q b 7 ((n : Nat) : Int)) b 0 (fun k => Int64.ofInt (s.2.2.1 12 (base + k)))).1) ((fillS (rowS s q b 7 ((n : Nat) : Int)) b 0 (fun k => Int64.ofInt (s.2.2.1 12 (base + k)))).2.1) ((fillS (rowS s q b 7 ((n : Nat) : Int)) b 0 (fun k => Int64.ofInt (s.2.2.1 12 (base + k)))).2.2.1) ((fillS (rowS s q b 7 ((n : Nat) : Int)) b 0 (fun k => Int64.ofInt (s.2.2.1 12 (base + k)))).2.2.2)) (fill_0 (rowS s q b 7 ((n : Nat) : Int)) b (fun k => Int64.ofInt (s.2.2.1 12 (base + k)))) ?_
  exact pg_sub (L := [(0, .ref 102), (1, ii ((base : Nat) : Int)), (2, ii (q : Int)), (3, ii (0 : Int))]) rfl rfl rfl (lp15 _ 0 rfl (Nat.zero_le _))
