set_option maxRecDepth 20000 in
theorem pm_X12_text : mj_mmof pg_ms 293 = some ((⟨"ArrayCalculatorModel", "text", "(II)I"⟩, prog_14_method_47_code, 5, (Option.some Jvm.ClassFile.FieldType.int)), 12, false, mj_dec prog_14_method_47_code) := rfl
theorem dm_X12_text_0 : mj_dec prog_14_method_47_code 0 = some (.aload_n 0, 1) := by decide +kernel
theorem dm_X12_text_1 : mj_dec prog_14_method_47_code 1 = some (.iconst 0, 1) := by decide +kernel
theorem dm_X12_text_2 : mj_dec prog_14_method_47_code 2 = some (.putfield 281, 3) := by decide +kernel
theorem dm_X12_text_5 : mj_dec prog_14_method_47_code 5 = some (.aload_n 0, 1) := by decide +kernel
theorem dm_X12_text_6 : mj_dec prog_14_method_47_code 6 = some (.iload_n 1, 1) := by decide +kernel
theorem dm_X12_text_7 : mj_dec prog_14_method_47_code 7 = some (.invokevirtual 301, 3) := by decide +kernel
theorem dm_X12_text_10 : mj_dec prog_14_method_47_code 10 = some (.aload_n 0, 1) := by decide +kernel
theorem dm_X12_text_11 : mj_dec prog_14_method_47_code 11 = some (.getfield 281, 3) := by decide +kernel
theorem dm_X12_text_14 : mj_dec prog_14_method_47_code 14 = some (.bipush 120, 2) := by decide +kernel
theorem dm_X12_text_16 : mj_dec prog_14_method_47_code 16 = some (.if_icmp .le 11, 3) := by decide +kernel
theorem dm_X12_text_19 : mj_dec prog_14_method_47_code 19 = some (.aload_n 0, 1) := by decide +kernel
theorem dm_X12_text_20 : mj_dec prog_14_method_47_code 20 = some (.bipush 8, 2) := by decide +kernel
theorem dm_X12_text_22 : mj_dec prog_14_method_47_code 22 = some (.iload_n 2, 1) := by decide +kernel
theorem dm_X12_text_23 : mj_dec prog_14_method_47_code 23 = some (.invokevirtual 190, 3) := by decide +kernel
theorem dm_X12_text_26 : mj_dec prog_14_method_47_code 26 = some (.ireturn, 1) := by decide +kernel
theorem dm_X12_text_27 : mj_dec prog_14_method_47_code 27 = some (.aload_n 0, 1) := by decide +kernel
theorem dm_X12_text_28 : mj_dec prog_14_method_47_code 28 = some (.iconst 3, 1) := by decide +kernel
theorem dm_X12_text_29 : mj_dec prog_14_method_47_code 29 = some (.aload_n 0, 1) := by decide +kernel
theorem dm_X12_text_30 : mj_dec prog_14_method_47_code 30 = some (.getfield 281, 3) := by decide +kernel
theorem dm_X12_text_33 : mj_dec prog_14_method_47_code 33 = some (.invokevirtual 126, 3) := by decide +kernel
theorem dm_X12_text_36 : mj_dec prog_14_method_47_code 36 = some (.istore_n 3, 1) := by decide +kernel
theorem dm_X12_text_37 : mj_dec prog_14_method_47_code 37 = some (.iconst 0, 1) := by decide +kernel
theorem dm_X12_text_38 : mj_dec prog_14_method_47_code 38 = some (.istore 4, 2) := by decide +kernel
theorem dm_X12_text_40 : mj_dec prog_14_method_47_code 40 = some (.iload 4, 2) := by decide +kernel
theorem dm_X12_text_42 : mj_dec prog_14_method_47_code 42 = some (.aload_n 0, 1) := by decide +kernel
theorem dm_X12_text_43 : mj_dec prog_14_method_47_code 43 = some (.getfield 281, 3) := by decide +kernel
theorem dm_X12_text_46 : mj_dec prog_14_method_47_code 46 = some (.if_icmp .ge 31, 3) := by decide +kernel
theorem dm_X12_text_49 : mj_dec prog_14_method_47_code 49 = some (.aload_n 0, 1) := by decide +kernel
theorem dm_X12_text_50 : mj_dec prog_14_method_47_code 50 = some (.getfield 8, 3) := by decide +kernel
theorem dm_X12_text_53 : mj_dec prog_14_method_47_code 53 = some (.aload_n 0, 1) := by decide +kernel
theorem dm_X12_text_54 : mj_dec prog_14_method_47_code 54 = some (.getfield 15, 3) := by decide +kernel
theorem dm_X12_text_57 : mj_dec prog_14_method_47_code 57 = some (.iload_n 3, 1) := by decide +kernel
theorem dm_X12_text_58 : mj_dec prog_14_method_47_code 58 = some (.iaload, 1) := by decide +kernel
theorem dm_X12_text_59 : mj_dec prog_14_method_47_code 59 = some (.iload 4, 2) := by decide +kernel
theorem dm_X12_text_61 : mj_dec prog_14_method_47_code 61 = some (.iadd, 1) := by decide +kernel
theorem dm_X12_text_62 : mj_dec prog_14_method_47_code 62 = some (.aload_n 0, 1) := by decide +kernel
theorem dm_X12_text_63 : mj_dec prog_14_method_47_code 63 = some (.getfield 36, 3) := by decide +kernel
theorem dm_X12_text_66 : mj_dec prog_14_method_47_code 66 = some (.iload 4, 2) := by decide +kernel
theorem dm_X12_text_68 : mj_dec prog_14_method_47_code 68 = some (.baload, 1) := by decide +kernel
theorem dm_X12_text_69 : mj_dec prog_14_method_47_code 69 = some (.i2l, 1) := by decide +kernel
theorem dm_X12_text_70 : mj_dec prog_14_method_47_code 70 = some (.lastore, 1) := by decide +kernel
theorem dm_X12_text_71 : mj_dec prog_14_method_47_code 71 = some (.iinc 4 1, 3) := by decide +kernel
theorem dm_X12_text_74 : mj_dec prog_14_method_47_code 74 = some (.goto (-34), 3) := by decide +kernel
theorem dm_X12_text_77 : mj_dec prog_14_method_47_code 77 = some (.iload_n 3, 1) := by decide +kernel
theorem dm_X12_text_78 : mj_dec prog_14_method_47_code 78 = some (.ireturn, 1) := by decide +kernel
theorem r_text_ {xt : mj_X} {d e hd q b : Nat} {pre post : mj_H} {s : RS} {v : VV} {place : Int} (hm : pre.length = 102) (hd1 : 2 * e + 9 ≤ d) (hB : rB s) (hv : rv s (e + 1) hd v) (hh3 : 3 ≤ hd) (hq : s.1 4 = (q : Int)) (hb : s.1 3 = (b : Int)) (hq3 : 3 ≤ q) (hV2 : q < 310000) (he0 : s.1 5 = 0) (hca : 0 ≤ s.1 10 ∧ s.1 10 ≤ 100) (hC : b + 300 ≤ 820000) : pgV xt d 293 [.ref 102, ii (hd : Int), ii place] (rS pre post s) (rres pre post s (e + 1) (m_text (e + 1) v) place 120 1) := by
  have hB0 := hB
  obtain ⟨hB1, hB2, hB3, hB4⟩ := hB
  obtain ⟨fr, hfr, hsh, hlt, hcl, hvk, hvm, hvc, hvq, hvcl⟩ := rv_val hv
  refine x_enter pm_X12_text (L0 := [(0, .ref 102), (1, ii (hd : Int)), (2, ii place)]) rfl (Nat.le_of_ble_eq_true rfl) (by omega) ?_
  refine me1 (pc' := 1) (L' := [(0, .ref 102), (1, ii (hd : Int)), (2, ii place)]) (S' := [.ref 102]) dm_X12_text_0 rfl rfl rfl rfl ?_
  refine me0 (pc' := 2) (S' := [ii 0, .ref 102]) dm_X12_text_1 rfl rfl rfl rfl ?_
  refine me3 (pc' := 5) (S' := []) (h1 := rI pre post (va_up s.1 17 0) s.2.1 s.2.2.1 s.2.2.2) dm_X12_text_2 (q_puti hm rfl rfl (fun m i l v => rf_17 m i l v)) rfl rfl rfl ?_
  refine pg_cast (h2 := rI pre post ((outS s).1) ((outS s).2.1) ((outS s).2.2.1) ((outS s).2.2.2)) rfl ?_
  refine me1 (pc' := 6) (L' := [(0, .ref 102), (1, ii (hd : Int)), (2, ii place)]) (S' := [.ref 102]) dm_X12_text_5 rfl rfl rfl rfl ?_
  refine me1 (pc' := 7) (L' := [(0, .ref 102), (1, ii (hd : Int)), (2, ii place)]) (S' := [ii (hd : Int), .ref 102]) dm_X12_text_6 rfl rfl rfl rfl ?_
  refine x_cn (pc' := 10) (rest := []) dm_X12_text_7 rfl (q_inv (As := [ii (hd : Int)]) (S := []) hm rfl rfl rfl) rfl rfl rfl (r_putValue_ hm (e + 1) (by omega) (outS_0 s) (rB_pr (outS_pr s) hB0) (rv_pr (outS_pr s) hv)) ?_
  rintro _ ⟨t, rfl, hR, hP⟩
  replace hR := prR_tr (outS_pr s) hR
  obtain ⟨m, hm17, hm400, hmi, hml⟩ := rpr_m hP
  have hqt : t.1 4 = (q : Int) := (hR.1 4 (by decide)).trans hq
  have hbt : t.1 3 = (b : Int) := (hR.1 3 (by decide)).trans hb
  have he0t : t.1 5 = 0 := (hR.1 5 (by decide)).trans he0
  have hcat : 0 ≤ t.1 10 ∧ t.1 10 ≤ 100 := by rw [hR.1 10 (by decide)]; exact hca
  refine me1 (pc' := 11) (L' := [(0, .ref 102), (1, ii (hd : Int)), (2, ii place)]) (S' := [.ref 102]) dm_X12_text_10 rfl rfl rfl rfl ?_
  refine me3 (pc' := 14) (S' := [ii (t.1 17)]) dm_X12_text_11 (q_geti (v := t.1 17) hm rfl (fun m i l => rg_17 m i l) rfl) rfl rfl rfl ?_
  refine pg_st (S' := [ii ((m : Nat) : Int)]) (congrArg (fun z => ii z :: []) (hm17)) ?_
  refine me0 (pc' := 16) (S' := [ii 120, ii ((m : Nat) : Int)]) dm_X12_text_14 rfl rfl rfl rfl ?_
  refine y_2le (a := ((m : Nat) : Int)) (b := 120) (t := 27) (pc' := 19) dm_X12_text_16 rfl rfl (by omega) (fun hb1 => ?_) (fun hb1 => ?_)
  · refine me1 (pc' := 28) (L' := [(0, .ref 102), (1, ii (hd : Int)), (2, ii place)]) (S' := [.ref 102]) dm_X12_text_27 rfl rfl rfl rfl ?_
    refine me0 (pc' := 29) (S' := [ii 3, .ref 102]) dm_X12_text_28 rfl rfl rfl rfl ?_
    refine me1 (pc' := 30) (L' := [(0, .ref 102), (1, ii (hd : Int)), (2, ii place)]) (S' := [.ref 102, ii 3, .ref 102]) dm_X12_text_29 rfl rfl rfl rfl ?_
    refine me3 (pc' := 33) (S' := [ii (t.1 17), ii 3, .ref 102]) dm_X12_text_30 (q_geti (v := t.1 17) hm rfl (fun m i l => rg_17 m i l) rfl) rfl rfl rfl ?_
    refine pg_st (S' := [ii ((m : Nat) : Int), ii 3, .ref 102]) (congrArg (fun z => ii z :: [ii 3, .ref 102]) (hm17)) ?_
    refine x_cv (pc' := 36) (rest := []) dm_X12_text_33 rfl (q_inv (As := [ii 3, ii ((m : Nat) : Int)]) (S := []) hm rfl rfl rfl) rfl rfl rfl (r_row_ (q := q) (b := b) (s := t) hm (by omega) hqt hbt (by omega) (by omega) (by omega)) ?_
    rintro _ _ ⟨rfl, rfl⟩
    refine me1 (pc' := 37) (L' := [(3, ii (q : Int)), (0, .ref 102), (1, ii (hd : Int)), (2, ii place)]) (S' := []) dm_X12_text_36 rfl rfl rfl rfl ?_
    refine me0 (pc' := 38) (S' := [ii 0]) dm_X12_text_37 rfl rfl rfl rfl ?_
    refine me1 (pc' := 40) (L' := [(4, ii 0), (3, ii (q : Int)), (0, .ref 102), (1, ii (hd : Int)), (2, ii place)]) (S' := []) dm_X12_text_38 rfl rfl rfl rfl ?_
    have lp40 : ∀ (n40 : Nat) (k : Nat), m - k = n40 → (k ≤ m) → pgE xt (d - 1) 12 5 false (Option.some Jvm.ClassFile.FieldType.int) (mj_dec prog_14_method_47_code) 40 [(0, .ref 102), (1, ii (hd : Int)), (2, ii place), (3, ii (q : Int)), (4, ii (k : Int))] [] (rI pre post ((fillS (rowS t q b 3 ((m : Nat) : Int)) b k (fun k => Int64.ofInt (t.2.2.1 15 k))).1) ((fillS (rowS t q b 3 ((m : Nat) : Int)) b k (fun k => Int64.ofInt (t.2.2.1 15 k))).2.1) ((fillS (rowS t q b 3 ((m : Nat) : Int)) b k (fun k => Int64.ofInt (t.2.2.1 15 k))).2.2.1) ((fillS (rowS t q b 3 ((m : Nat) : Int)) b k (fun k => Int64.ofInt (t.2.2.1 15 k))).2.2.2)) (fun r h' => ∃ x, r = some x ∧ rres pre post s (e + 1) (m_text (e + 1) v) place 120 1 x h') := by
      intro n40
      induction n40 using Nat.strongRecOn with
      | ind n40 ih40 =>
        intro k hm40 hk
        refine me1 (pc' := 42) (L' := [(0, .ref 102), (1, ii (hd : Int)), (2, ii place), (3, ii (q : Int)), (4, ii (k : Int))]) (S' := [ii (k : Int)]) dm_X12_text_40 rfl rfl rfl rfl ?_
        refine me1 (pc' := 43) (L' := [(0, .ref 102), (1, ii (hd : Int)), (2, ii place), (3, ii (q : Int)), (4, ii (k : Int))]) (S' := [.ref 102, ii (k : Int)]) dm_X12_text_42 rfl rfl rfl rfl ?_
        refine me3 (pc' := 46) (S' := [ii (((fillS (rowS t q b 3 ((m : Nat) : Int)) b k (fun k => Int64.ofInt (t.2.2.1 15 k))).1) 17), ii (k : Int)]) dm_X12_text_43 (q_geti (v := ((fillS (rowS t q b 3 ((m : Nat) : Int)) b k (fun k => Int64.ofInt (t.2.2.1 15 k))).1) 17) hm rfl (fun m i l => rg_17 m i l) rfl) rfl rfl rfl ?_
        refine pg_st (S' := [ii ((m : Nat) : Int), ii (k : Int)]) (congrArg (fun z => ii z :: [ii (k : Int)]) ((show t.1 17 = _ from hm17))) ?_
        refine y_2ge (a := (k : Int)) (b := ((m : Nat) : Int)) (t := 77) (pc' := 49) dm_X12_text_46 rfl rfl (by omega) (fun hb2 => ?_) (fun hb2 => ?_)
        · refine me1 (pc' := 78) (L' := [(0, .ref 102), (1, ii (hd : Int)), (2, ii place), (3, ii (q : Int)), (4, ii (k : Int))]) (S' := [ii (q : Int)]) dm_X12_text_77 rfl rfl rfl rfl ?_
          refine y_ret (r := some (ii (q : Int))) dm_X12_text_78 rfl rfl rfl ?_
          have hkn : k = m := by omega
          subst hkn
          obtain ⟨hml1, hml2⟩ := hml (by omega)
          rw [show m_text (e + 1) v = .inr (vrow 3 k (fun j => Int64.ofInt ((vaL (e + 1) v).getD j 0))) by unfold m_text; rw [if_neg (by omega), hml1]]
          exact ⟨_, rfl, rres_bk (rpre_pr hR) (rres_row (kind := 3) hqt hq3 hbt he0t (vw1_row (by omega) (by omega) (by omega)) (by show ¬ 3 = 7; omega) (by show ¬ 3 = 6; omega) rfl rfl rfl (fun j hj => by show Int64.ofInt _ = Int64.ofInt _; rw [(hml2 j hj).1]) (by omega) (Nat.le_refl _))⟩
        · refine me1 (pc' := 50) (L' := [(0, .ref 102), (1, ii (hd : Int)), (2, ii place), (3, ii (q : Int)), (4, ii (k : Int))]) (S' := [.ref 102]) dm_X12_text_49 rfl rfl rfl rfl ?_
          refine me3 (pc' := 53) (S' := [.ref (102 + 1)]) dm_X12_text_50 (q_getr hm rfl (fun m i l => rg_0 m i l)) rfl rfl rfl ?_
          refine me1 (pc' := 54) (L' := [(0, .ref 102), (1, ii (hd : Int)), (2, ii place), (3, ii (q : Int)), (4, ii (k : Int))]) (S' := [.ref 102, .ref (102 + 1)]) dm_X12_text_53 rfl rfl rfl rfl ?_
          refine me3 (pc' := 57) (S' := [.ref (102 + 2), .ref (102 + 1)]) dm_X12_text_54 (q_getr hm rfl (fun m i l => rg_1 m i l)) rfl rfl rfl ?_
          refine me1 (pc' := 58) (L' := [(0, .ref 102), (1, ii (hd : Int)), (2, ii place), (3, ii (q : Int)), (4, ii (k : Int))]) (S' := [ii (q : Int), .ref (102 + 2), .ref (102 + 1)]) dm_X12_text_57 rfl rfl rfl rfl ?_
          refine me3 (pc' := 59) (S' := [ii ((((fillS (rowS t q b 3 ((m : Nat) : Int)) b k (fun k => Int64.ofInt (t.2.2.1 15 k))).2.2.1) 1) q), .ref (102 + 1)]) dm_X12_text_58 (q_iald (v := (((fillS (rowS t q b 3 ((m : Nat) : Int)) b k (fun k => Int64.ofInt (t.2.2.1 15 k))).2.2.1) 1) q) (k := 1) (n := 310000) hm (fun m i l I J => rc_1 m i l I J) (by omega) (by omega) (by decide) rfl) rfl rfl rfl ?_
          refine pg_st (S' := [ii (b : Int), .ref (102 + 1)]) (congrArg (fun z => ii z :: [.ref (102 + 1)]) (up_eq _ _ _)) ?_
          refine me1 (pc' := 61) (L' := [(0, .ref 102), (1, ii (hd : Int)), (2, ii place), (3, ii (q : Int)), (4, ii (k : Int))]) (S' := [ii (k : Int), ii (b : Int), .ref (102 + 1)]) dm_X12_text_59 rfl rfl rfl rfl ?_
          refine y_iadd (a := (b : Int)) (b := (k : Int)) dm_X12_text_61 (pc' := 62) rfl ?_
          refine me1 (pc' := 63) (L' := [(0, .ref 102), (1, ii (hd : Int)), (2, ii place), (3, ii (q : Int)), (4, ii (k : Int))]) (S' := [.ref 102, ii ((b : Int) + (k : Int)), .ref (102 + 1)]) dm_X12_text_62 rfl rfl rfl rfl ?_
          refine me3 (pc' := 66) (S' := [.ref (102 + 6), ii ((b : Int) + (k : Int)), .ref (102 + 1)]) dm_X12_text_63 (q_getr hm rfl (fun m i l => rg_15 m i l)) rfl rfl rfl ?_
          refine me1 (pc' := 68) (L' := [(0, .ref 102), (1, ii (hd : Int)), (2, ii place), (3, ii (q : Int)), (4, ii (k : Int))]) (S' := [ii (k : Int), .ref (102 + 6), ii ((b : Int) + (k : Int)), .ref (102 + 1)]) dm_X12_text_66 rfl rfl rfl rfl ?_
          refine me3 (pc' := 69) (S' := [ii ((((fillS (rowS t q b 3 ((m : Nat) : Int)) b k (fun k => Int64.ofInt (t.2.2.1 15 k))).2.2.1) 15) k), ii ((b : Int) + (k : Int)), .ref (102 + 1)]) dm_X12_text_68 (q_bald (v := (((fillS (rowS t q b 3 ((m : Nat) : Int)) b k (fun k => Int64.ofInt (t.2.2.1 15 k))).2.2.1) 15) k) (k := 15) (n := 400) hm (fun m i l I J => rc_15 m i l I J) (by omega) (by omega) (by decide) rfl) rfl rfl rfl ?_
          have hby : 32 ≤ t.2.2.1 15 k ∧ t.2.2.1 15 k ≤ 126 := okL_va _ ((hml (by omega)).2 k (by omega)).2
          refine pg_st (S' := [ii (t.2.2.1 15 k), ii ((b : Int) + (k : Int)), .ref (102 + 1)]) (congrArg (fun z => ii z :: [ii ((b : Int) + (k : Int)), .ref (102 + 1)]) (rfl)) ?_
          refine y_i2l (a := t.2.2.1 15 k) dm_X12_text_69 (pc' := 70) rfl (by omega) (by omega) ?_
          refine me3 (pc' := 71) (S' := []) (h1 := rI pre post ((fillS (rowS t q b 3 ((m : Nat) : Int)) b k (fun k => Int64.ofInt (t.2.2.1 15 k))).1) ((fillS (rowS t q b 3 ((m : Nat) : Int)) b k (fun k => Int64.ofInt (t.2.2.1 15 k))).2.1) ((fillS (rowS t q b 3 ((m : Nat) : Int)) b k (fun k => Int64.ofInt (t.2.2.1 15 k))).2.2.1) (va_up ((fillS (rowS t q b 3 ((m : Nat) : Int)) b k (fun k => Int64.ofInt (t.2.2.1 15 k))).2.2.2) 0 (va_up (((fillS (rowS t q b 3 ((m : Nat) : Int)) b k (fun k => Int64.ofInt (t.2.2.1 15 k))).2.2.2) 0) (b + k) (Int64.ofInt (t.2.2.1 15 k))))) dm_X12_text_70 (q_last (j := (b : Int) + (k : Int)) (k := 0) (n := 820000) hm (fun m i l I J => rc_0 m i l I J) (fun m i l I J f => rs_0 m i l I J f) (by omega) (by omega) (by decide)) rfl rfl rfl ?_
          refine y_iinc (pc' := 74) (L' := [(4, ii ((k : Int) + 1)), (0, .ref 102), (1, ii (hd : Int)), (2, ii place), (3, ii (q : Int))]) dm_X12_text_71 (y_incp (a := (k : Int)) (c := 1) rfl rfl (by decide)) rfl ?_
          refine me2 (pc' := 40) (S' := []) dm_X12_text_74 rfl rfl rfl ?_
          refine pg_cast (h2 := rI pre post ((fillS (rowS t q b 3 ((m : Nat) : Int)) b (k + 1) (fun k => Int64.ofInt (t.2.2.1 15 k))).1) ((fillS (rowS t q b 3 ((m : Nat) : Int)) b (k + 1) (fun k => Int64.ofInt (t.2.2.1 15 k))).2.1) ((fillS (rowS t q b 3 ((m : Nat) : Int)) b (k + 1) (fun k => Int64.ofInt (t.2.2.1 15 k))).2.2.1) ((fillS (rowS t q b 3 ((m : Nat) : Int)) b (k + 1) (fun k => Int64.ofInt (t.2.2.1 15 k))).2.2.2)) (fill_s (rowS t q b 3 ((m : Nat) : Int)) b k (fun k => Int64.ofInt (t.2.2.1 15 k))) ?_
          exact pg_sub (L := [(0, .ref 102), (1, ii (hd : Int)), (2, ii place), (3, ii (q : Int)), (4, ii ((k + 1) : Int))]) rfl rfl rfl (ih40 (m - (k + 1)) (by omega) (k + 1) rfl (by omega))
    refine pg_cast (h2 := rI pre post ((fillS (rowS t q b 3 ((m : Nat) : Int)) b 0 (fun k => Int64.ofInt (t.2.2.1 15 k))).1) ((fillS (rowS t q b 3 ((m : Nat) : Int)) b 0 (fun k => Int64.ofInt (t.2.2.1 15 k))).2.1) ((fillS (rowS t q b 3 ((m : Nat) : Int)) b 0 (fun k => Int64.ofInt (t.2.2.1 15 k))).2.2.1) ((fillS (rowS t q b 3 ((m : Nat) : Int)) b 0 (fun k => Int64.ofInt (t.2.2.1 15 k))).2.2.2)) (fill_0 (rowS t q b 3 ((m : Nat) : Int)) b (fun k => Int64.ofInt (t.2.2.1 15 k))) ?_
    exact pg_sub (L := [(0, .ref 102), (1, ii (hd : Int)), (2, ii place), (3, ii (q : Int)), (4, ii (0 : Int))]) rfl rfl rfl (lp40 _ 0 rfl (Nat.zero_le _))
  · refine me1 (pc' := 20) (L' := [(0, .ref 102), (1, ii (hd : Int)), (2, ii place)]) (S' := [.ref 102]) dm_X12_text_19 rfl rfl rfl rfl ?_
    refine me0 (pc' := 22) (S' := [ii 8, .ref 102]) dm_X12_text_20 rfl rfl rfl rfl ?_
    refine me1 (pc' := 23) (L' := [(0, .ref 102), (1, ii (hd : Int)), (2, ii place)]) (S' := [ii place, ii 8, .ref 102]) dm_X12_text_22 rfl rfl rfl rfl ?_
    refine x_cv (pc' := 26) (rest := []) dm_X12_text_23 rfl (q_inv (As := [ii 8, ii place]) (S := []) hm rfl rfl rfl) rfl rfl rfl (r_fail_ (s := t) hm (by omega) he0t hcat.1 hcat.2) ?_
    rintro _ _ ⟨rfl, rfl⟩
    refine y_ret (r := some (ii (-1))) dm_X12_text_26 rfl rfl rfl ?_
    rw [show m_text (e + 1) v = .inl 8 by unfold m_text; rw [if_pos (by omega)]]
    exact ⟨_, rfl, rres_fail (rpre_pr hR) he0⟩
