set_option maxRecDepth 20000 in
theorem pm_X12_text : mj_mmof pg_ms 293 = some ((⟨"ArrayCalculatorModel", "text", "(II)I"⟩, prog_14_method_47_code, 5, (Option.some Jvm.ClassFile.FieldType.int)), 12, false, mj_dec prog_14_method_47_code) := rfl
theorem dm_X12_text_0 : mj_dec prog_14_method_47_code 0 = some (.aload_n 0, 1) := by decide +kernel
theorem dm_X12_text_1 : mj_dec prog_14_method_47_code 1 = some (.iconst 0, 1) := by decide +kernel
theorem dm_X12_text_2 : mj_dec prog_14_method_47_code 2 = some (.putfield 281, 3) := by decide +kernel
theorem dm_X12_text_5 : mj_dec prog_14_method_47_code 5 = some (.aload_n 0, 1) := by decide +kernel
theorem dm_X12_text_6 : mj_dec prog_14_method_47_code 6 = some (.iload_n 1, 1) := by decide +kernel
theorem dm_X12_text_7 : mj_dec prog_14_method_47_code 7 = some (.invokevirtual 301, 3) := by decide +kernel
theorem dm_X12_text_10 : mj_dec prog_14_method_47_code 10 = some (.aload_n 0, 1) := by decide +kernel
theorem dm_X12_text_11 : mj_dec prog_14_method_47_code 11 = some (.getfield 281, 3) := by decide +kernel
theorem dm_X12_text_14 : mj_dec prog_14_method_47_code 14 = some (.bipush 120, 2) := by decide +kernel
theorem dm_X12_text_16 : mj_dec prog_14_method_47_code 16 = some (.if_icmp .le 11, 3) := by decide +kernel
theorem dm_X12_text_19 : mj_dec prog_14_method_47_code 19 = some (.aload_n 0, 1) := by decide +kernel
theorem dm_X12_text_20 : mj_dec prog_14_method_47_code 20 = some (.bipush 8, 2) := by decide +kernel
theorem dm_X12_text_22 : mj_dec prog_14_method_47_code 22 = some (.iload_n 2, 1) := by decide +kernel
theorem dm_X12_text_23 : mj_dec prog_14_method_47_code 23 = some (.invokevirtual 190, 3) := by decide +kernel
theorem dm_X12_text_26 : mj_dec prog_14_method_47_code 26 = some (.ireturn, 1) := by decide +kernel
theorem dm_X12_text_27 : mj_dec prog_14_method_47_code 27 = some (.aload_n 0, 1) := by decide +kernel
theorem dm_X12_text_28 : mj_dec prog_14_method_47_code 28 = some (.iconst 3, 1) := by decide +kernel
theorem dm_X12_text_29 : mj_dec prog_14_method_47_code 29 = some (.aload_n 0, 1) := by decide +kernel
theorem dm_X12_text_30 : mj_dec prog_14_method_47_code 30 = some (.getfield 281, 3) := by decide +kernel
theorem dm_X12_text_33 : mj_dec prog_14_method_47_code 33 = some (.invokevirtual 126, 3) := by decide +kernel
theorem dm_X12_text_36 : mj_dec prog_14_method_47_code 36 = some (.istore_n 3, 1) := by decide +kernel
theorem dm_X12_text_37 : mj_dec prog_14_method_47_code 37 = some (.iconst 0, 1) := by decide +kernel
theorem dm_X12_text_38 : mj_dec prog_14_method_47_code 38 = some (.istore 4, 2) := by decide +kernel
theorem dm_X12_text_40 : mj_dec prog_14_method_47_code 40 = some (.iload 4, 2) := by decide +kernel
theorem dm_X12_text_42 : mj_dec prog_14_method_47_code 42 = some (.aload_n 0, 1) := by decide +kernel
theorem dm_X12_text_43 : mj_dec prog_14_method_47_code 43 = some (.getfield 281, 3) := by decide +kernel
theorem dm_X12_text_46 : mj_dec prog_14_method_47_code 46 = some (.if_icmp .ge 31, 3) := by decide +kernel
theorem dm_X12_text_49 : mj_dec prog_14_method_47_code 49 = some (.aload_n 0, 1) := by decide +kernel
theorem dm_X12_text_50 : mj_dec prog_14_method_47_code 50 = some (.getfield 8, 3) := by decide +kernel
theorem dm_X12_text_53 : mj_dec prog_14_method_47_code 53 = some (.aload_n 0, 1) := by decide +kernel
theorem dm_X12_text_54 : mj_dec prog_14_method_47_code 54 = some (.getfield 15, 3) := by decide +kernel
theorem dm_X12_text_57 : mj_dec prog_14_method_47_code 57 = some (.iload_n 3, 1) := by decide +kernel
theorem dm_X12_text_58 : mj_dec prog_14_method_47_code 58 = some (.iaload, 1) := by decide +kernel
theorem dm_X12_text_59 : mj_dec prog_14_method_47_code 59 = some (.iload 4, 2) := by decide +kernel
theorem dm_X12_text_61 : mj_dec prog_14_method_47_code 61 = some (.iadd, 1) := by decide +kernel
theorem dm_X12_text_62 : mj_dec prog_14_method_47_code 62 = some (.aload_n 0, 1) := by decide +kernel
theorem dm_X12_text_63 : mj_dec prog_14_method_47_code 63 = some (.getfield 36, 3) := by decide +kernel
theorem dm_X12_text_66 : mj_dec prog_14_method_47_code 66 = some (.iload 4, 2) := by decide +kernel
theorem dm_X12_text_68 : mj_dec prog_14_method_47_code 68 = some (.baload, 1) := by decide +kernel
theorem dm_X12_text_69 : mj_dec prog_14_method_47_code 69 = some (.i2l, 1) := by decide +kernel
theorem dm_X12_text_70 : mj_dec prog_14_method_47_code 70 = some (.lastore, 1) := by decide +kernel
theorem dm_X12_text_71 : mj_dec prog_14_method_47_code 71 = some (.iinc 4 1, 3) := by decide +kernel
theorem dm_X12_text_74 : mj_dec prog_14_method_47_code 74 = some (.goto (-34), 3) := by decide +kernel
theorem dm_X12_text_77 : mj_dec prog_14_method_47_code 77 = some (.iload_n 3, 1) := by decide +kernel
theorem dm_X12_text_78 : mj_dec prog_14_method_47_code 78 = some (.ireturn, 1) := by decide +kernel
theorem r_text_ {xt : mj_X} {d e hd q b : Nat} {pre post : mj_H} {s : RS} {v : VV} {place : Int} (hm : pre.length = 102) (hd1 : 2 * e + 9 ≤ d) (hB : rB s) (hv : rv s (e + 1) hd v) (hh3 : 3 ≤ hd) (hq : s.1 4 = (q : Int)) (hb : s.1 3 = (b : Int)) (hq3 : 3 ≤ q) (hV2 : q < 310000) (he0 : s.1 5 = 0) (hca : 0 ≤ s.1 10 ∧ s.1 10 ≤ 100) (hC : b + 300 ≤ 820000) : pgV xt d 293 [.ref 102, ii (hd : Int), ii place] (rS pre post s) (rres pre post s (e + 1) (m_text (e + 1) v) place 120 1) := by
  have hB0 := hB
  obtain ⟨hB1, hB2, hB3, hB4⟩ := hB
  obtain ⟨fr, hfr, hsh, hlt, hcl, hvk, hvm, hvc, hvq, hvcl⟩ := rv_val hv
  refine x_enter pm_X12_text (L0 := [(0, .ref 102), (1, ii (hd : Int)), (2, ii place)]) rfl (Nat.le_of_ble_eq_true rfl) (by omega) ?_
  refine me1 (pc' := 1) (L' := [(0, .ref 102), (1, ii (hd : Int)), (2, ii place)]) (S' := [.ref 102]) dm_X12_text_0 rfl rfl rfl rfl ?_
  refine me0 (pc' := 2) (S' := [ii 0, .ref 102]) dm_X12_text_1 rfl rfl rfl rfl ?_
  refine me3 (pc' := 5) (S' := []) (h1 := rI pre post (va_up s.1 17 0) s.2.1 s.2.2.1 s.2.2.2) dm_X12_text_2 (q_puti hm rfl rfl (fun m i l v => rf_17 m i l v)) rfl rfl rfl ?_
  refine pg_cast (h2 := rI pre post ((outS s).1) ((outS s).2.1) ((outS s).2.2.1) ((outS s).2.2.2)) rfl ?_
  refine me1 (pc' := 6) (L' := [(0, .ref 102), (1, ii (hd : Int)), (2, ii place)]) (S' := [.ref 102]) dm_X12_text_5 rfl rfl rfl rfl ?_
  refine me1 (pc' := 7) (L' := [(0, .ref 102), (1, ii (hd : Int)), (2, ii place)]) (S' := [ii (hd : Int), .ref 102]) dm_X12_text_6 rfl rfl rfl rfl ?_
  refine x_cn (pc' := 10) (rest := []) dm_X12_text_7 rfl (q_inv (As := [ii (hd : Int)]) (S := []) hm rfl rfl rfl) rfl rfl rfl (r_putValue_ hm (e + 1) (by omega) (outS_0 s) (rB_pr (outS_pr s) hB0) (rv_pr (outS_pr s) hv)) ?_
  rintro _ ⟨t, rfl, hR, hP⟩
  replace hR := prR_tr (outS_pr s) hR
  obtain ⟨m, hm17, hm400, hmi, hml⟩ := rpr_m hP
  have hqt : t.1 4 = (q : Int) := (hR.1 4 (by decide)).trans hq
  have hbt : t.1 3 = (b : Int) := (hR.1 3 (by decide)).trans hb
  have he0t : t.1 5 = 0 := (hR.1 5 (by decide)).trans he0
  have hcat : 0 ≤ t.1 10 ∧ t.1 10 ≤ 100 := by rw [hR.1 10 (by decide)]; exact hca
  refine me1 (pc' := 11) (L' := [(0, .ref 102), (1, ii (hd : Int)), (2, ii place)]) (S' := [.ref 102]) dm_X12_text_10 rfl rfl rfl rfl ?_
  refine me3 (pc' := 14) (S' := [ii (t.1 17)]) dm_X12_text_11 (q_geti (v := t.1 17) hm rfl (fun m i l => rg_17 m i l) rfl) rfl rfl rfl ?_
  refine pg_st (S' := [ii ((m : Nat) : Int)]) (congrArg (fun z => ii z :: []) (hm17)) ?_
  refine me0 (pc' := 16) (S' := [ii 120, ii ((m : Nat) : Int)]) dm_X12_text_14 rfl rfl rfl rfl ?_
  refine y_2le (a := ((m : Nat) : Int)) (b := 120) (t := 27) (pc' := 19) dm_X12_text_16 rfl rfl (by omega) (fun hb1 => ?_) (fun hb1 => ?_)
  · refine me1 (pc' := 28) (L' := [(0, .ref 102), (1, ii (hd : Int)), (2, ii place)]) (S' := [.ref 102]) dm_X12_text_27 rfl rfl rfl rfl ?_
    refine me0 (pc' := 29) (S' := [ii 3, .ref 102]) dm_X12_text_28 rfl rfl rfl rfl ?_
    refine me1 (pc' := 30) (L' := [(0, .ref 102), (1, ii (hd : Int)), (2, ii place)]) (S' := [.ref 102, ii 3, .ref 102]) dm_X12_text_29 rfl rfl rfl rfl ?_
    refine me3 (pc' := 33) (S' := [ii (t.1 17), ii 3, .ref 102]) dm_X12_text_30 (q_geti (v := t.1 17) hm rfl (fun m i l => rg_17 m i l) rfl) rfl rfl rfl ?_
    refine pg_st (S' := [ii ((m : Nat) : Int), ii 3, .ref 102]) (congrArg (fun z => ii z :: [ii 3, .ref 102]) (hm17)) ?_
    refine x_cv (pc' := 36) (rest := []) dm_X12_text_33 rfl (q_inv (As := [ii 3, ii ((m : Nat) : Int)]) (S := []) hm rfl rfl rfl) rfl rfl rfl (r_row_ (q := q) (b := b) (s := t) hm (by omega) hqt hbt (by omega) (by omega) (by omega)) ?_
    rintro _ _ ⟨rfl, rfl⟩
    refine me1 (pc' := 37) (L' := [(3, ii (q : Int)), (0, .ref 102), (1, ii (hd : Int)), (2, ii place)]) (S' := []) dm_X12_text_36 rfl rfl rfl rfl ?_
    refine me0 (pc' := 38) (S' := [ii 0]) dm_X12_text_37 rfl rfl rfl rfl ?_
    refine me1 (pc' := 40) (L' := [(4, ii 0), (3, ii (q : Int)), (0, .ref 102), (1, ii (hd : Int)), (2, ii place)]) (S' := []) dm_X12_text_38 rfl rfl rfl rfl ?_
    have lp40 : ∀ (n40 : Nat) (k : Nat), m - k = n40 → (k ≤ m) → pgE xt (d - 1) 12 5 false (Option.some Jvm.ClassFile.FieldType.int) (mj_dec prog_14_method_47_code) 40 [(0, .ref 102), (1, ii (hd : Int)), (2, ii place), (3, ii (q : Int)), (4, ii (k : Int))] [] (rI pre post ((fillS (rowS t q b 3 ((m : Nat) : Int)) b k (fun k => Int64.ofInt (t.2.2.1 15 k))).1) ((fillS (rowS t q b 3 ((m : Nat) : Int)) b k (fun k => Int64.ofInt (t.2.2.1 15 k))).2.1) ((fillS (rowS t q b 3 ((m : Nat) : Int)) b k (fun k => Int64.ofInt (t.2.2.1 15 k))).2.2.1) ((fillS (rowS t q b 3 ((m : Nat) : Int)) b k (fun k => Int64.ofInt (t.2.2.1 15 k))).2.2.2)) (fun r h' => ∃ x, r = some x ∧ rres pre post s (e + 1) (m_text (e + 1) v) place 120 1 x h') := by
      intro n40
      induction n40 using Nat.strongRecOn with
      | ind n40 ih40 =>
        intro k hm40 hk
        refine me1 (pc' := 42) (L' := [(0, .ref 102), (1, ii (hd : Int)), (2, ii place), (3, ii (q : Int)), (4, ii (k : Int))]) (S' := [ii (k : Int)]) dm_X12_text_40 rfl rfl rfl rfl ?_
        refine me1 (pc' := 43) (L' := [(0, .ref 102), (1, ii (hd : Int)), (2, ii place), (3, ii (q : Int)), (4, ii (k : Int))]) (S' := [.ref 102, ii (k : Int)]) dm_X12_text_42 rfl rfl rfl rfl ?_
        refine me3 (pc' := 46) (S' := [ii (((fillS (rowS t q b 3 ((m : Nat) : Int)) b k (fun k => Int64.ofInt (t.2.2.1 15 k))).1) 17), ii (k : Int)]) dm_X12_text_43 (q_geti (v := ((fillS (rowS t q b 3 ((m : Nat) : Int)) b k (fun k => Int64.ofInt (t.2.2.1 15 k))).1) 17) hm rfl (fun m i l => rg_17 m i l) rfl) rfl rfl rfl ?_
        refine pg_st (S' := [ii ((m : Nat) : Int), ii (k : Int)]) (congrArg (fun z => ii z :: [ii (k : Int)]) ((show t.1 17 = _ from hm17))) ?_
        refine y_2ge (a := (k : Int)) (b := ((m : Nat) : Int)) (t := 77) (pc' := 49) dm_X12_text_46 rfl rfl (by omega) (fun hb2 => ?_) (fun hb2 => ?_)
        · refine me1 (pc' := 78) (L' := [(0, .ref 102), (1, ii (hd : Int)), (2, ii place), (3, ii (q : Int)), (4, ii (k : Int))]) (S' := [ii (q : Int)]) dm_X12_text_77 rfl rfl rfl rfl ?_
          refine y_ret (r := some (ii (q : Int))) dm_X12_text_78 rfl rfl rfl ?_
          have hkn : k = m := by omega
          subst hkn
          obtain ⟨hml1, hml2⟩ := hml (by omega)
          rw [show m_text (e + 1) v = .inr (vrow 3 k (fun j => Int64.ofInt ((vaL (e + 1) v).getD j 0))) by unfold m_text; rw [if_neg (by omega), hml1]]
          exact ⟨_, rfl, rres_bk (rpre_pr hR) (rres_row (kind := 3) hqt hq3 hbt he0t (vw1_row (by omega) (by omega) (by omega)) (by show ¬ 3 = 7; omega) (by show ¬ 3 = 6; omega) rfl rfl rfl (fun j hj => by show Int64.ofInt _ = Int64.ofInt _; rw [(hml2 j hj).1]) (by omega) (Nat.le_refl _))⟩
        · refine me1 (pc' := 50) (L' := [(0, .ref 102), (1, ii (hd : Int)), (2, ii place), (3, ii (q : Int)), (4, ii (k : Int))]) (S' := [.ref 102]) dm_X12_text_49 rfl rfl rfl rfl ?_
          refine me3 (pc' := 53) (S' := [.ref (102 + 1)]) dm_X12_text_50 (q_getr hm rfl (fun m i l => rg_0 m i l)) rfl rfl rfl ?_
          refine me1 (pc' := 54) (L' := [(0, .ref 102), (1, ii (hd : Int)), (2, ii place), (3, ii (q : Int)), (4, ii (k : Int))]) (S' := [.ref 102, .ref (102 + 1)]) dm_X12_text_53 rfl rfl rfl rfl ?_
          refine me3 (pc' := 57) (S' := [.ref (102 + 2), .ref (102 + 1)]) dm_X12_text_54 (q_getr hm rfl (fun m i l => rg_1 m i l)) rfl rfl rfl ?_
          refine me1 (pc' := 58) (L' := [(0, .ref 102), (1, ii (hd : Int)), (2, ii place), (3, ii (q : Int)), (4, ii (k : Int))]) (S' := [ii (q : Int), .ref (102 + 2), .ref (102 + 1)]) dm_X12_text_57 rfl rfl rfl rfl ?_
          refine me3 (pc' := 59) (S' := [ii ((((fillS (rowS t q b 3 ((m : Nat) : Int)) b k (fun k => Int64.ofInt (t.2.2.1 15 k))).2.2.1) 1) q), .ref (102 + 1)]) dm_X12_text_58 (q_iald (v := (((fillS (rowS t q b 3 ((m : Nat) : Int)) b k (fun k => Int64.ofInt (t.2.2.1 15 k))).2.2.1) 1) q) (k := 1) (n := 310000) hm (fun m i l I J => rc_1 m i l I J) (by omega) (by omega) (by decide) rfl) rfl rfl rfl ?_
          refine pg_st (S' := [ii (b : Int), .ref (102 + 1)]) (congrArg (fun z => ii z :: [.ref (102 + 1)]) (up_eq _ _ _)) ?_
          refine me1 (pc' := 61) (L' := [(0, .ref 102), (1, ii (hd : Int)), (2, ii place), (3, ii (q : Int)), (4, ii (k : Int))]) (S' := [ii (k : Int), ii (b : Int), .ref (102 + 1)]) dm_X12_text_59 rfl rfl rfl rfl ?_
          refine y_iadd (a := (b : Int)) (b := (k : Int)) dm_X12_text_61 (pc' := 62) rfl ?_
          refine me1 (pc' := 63) (L' := [(0, .ref 102), (1, ii (hd : Int)), (2, ii place), (3, ii (q : Int)), (4, ii (k : Int))]) (S' := [.ref 102, ii ((b : Int) + (k : Int)), .ref (102 + 1)]) dm_X12_text_62 rfl rfl rfl rfl ?_
          refine me3 (pc' := 66) (S' := [.ref (102 + 6), ii ((b : Int) + (k : Int)), .ref (102 + 1)]) dm_X12_text_63 (q_getr hm rfl (fun m i l => rg_15 m i l)) rfl rfl rfl ?_
          refine me1 (pc' := 68) (L' := [(0, .ref 102), (1, ii (hd : Int)), (2, ii place), (3, ii (q : Int)), (4, ii (k : Int))]) (S' := [ii (k : Int), .ref (102 + 6), ii ((b : Int) + (k : Int)), .ref (102 + 1)]) dm_X12_text_66 rfl rfl rfl rfl ?_
          refine me3 (pc' := 69) (S' := [ii ((((fillS (rowS t q b 3 ((m : Nat) : Int)) b k (fun k => Int64.ofInt (t.2.2.1 15 k))).2.2.1) 15) k), ii ((b : Int) + (k : Int)), .ref (102 + 1)]) dm_X12_text_68 (q_bald (v := (((fillS (rowS t q b 3 ((m : Nat) : Int)) b k (fun k => Int64.ofInt (t.2.2.1 15 k))).2.2.1) 15) k) (k := 15) (n := 400) hm (fun m i l I J => rc_15 m i l I J) (by omega) (by omega) (by decide) rfl) rfl rfl rfl ?_
          have hby : 32 ≤ t.2.2.1 15 k ∧ t.2.2.1 15 k ≤ 126 := okL_va _ ((hml (by omega)).2 k (by omega)).2
          refine pg_st (S' := [ii (t.2.2.1 15 k), ii ((b : Int) + (k : Int)), .ref (102 + 1)]) (congrArg (fun z => ii z :: [ii ((b : Int) + (k : Int)), .ref (102 + 1)]) (rfl)) ?_
          refine y_i2l (a := t.2.2.1 15 k) dm_X12_text_69 (pc' := 70) rfl (by omega) (by omega) ?_
          refine me3 (pc' := 71) (S' := []) (h1 := rI pre post ((fillS (rowS t q b 3 ((m : Nat) : Int)) b k (fun k => Int64.ofInt (t.2.2.1 15 k))).1) ((fillS (rowS t q b 3 ((m : Nat) : Int)) b k (fun k => Int64.ofInt (t.2.2.1 15 k))).2.1) ((fillS (rowS t q b 3 ((m : Nat) : Int)) b k (fun k => Int64.ofInt (t.2.2.1 15 k))).2.2.1) (va_up ((fillS (rowS t q b 3 ((m : Nat) : Int)) b k (fun k => Int64.ofInt (t.2.2.1 15 k))).2.2.2) 0 (va_up (((fillS (rowS t q b 3 ((m : Nat) : Int)) b k (fun k => Int64.ofInt (t.2.2.1 15 k))).2.2.2) 0) (b + k) (Int64.ofInt (t.2.2.1 15 k))))) dm_X12_text_70 (q_last (j := (b : Int) + (k : Int)) (k := 0) (n := 820000) hm (fun m i l I J => rc_0 m i l I J) (fun m i l I J f => rs_0 m i l I J f) (by omega) (by omega) (by decide)) rfl rfl rfl ?_
          refine y_iinc (pc' := 74) (L' := [(4, ii ((k : Int) + 1)), (0, .ref 102), (1, ii (hd : Int)), (2, ii place), (3, ii (q : Int))]) dm_X12_text_71 (y_incp (a := (k : Int)) (c := 1) rfl rfl (by decide)) rfl ?_
          refine me2 (pc' := 40) (S' := []) dm_X12_text_74 rfl rfl rfl ?_
          refine pg_cast (h2 := rI pre post ((fillS (rowS t q b 3 ((m : Nat) : Int)) b (k + 1) (fun k => Int64.ofInt (t.2.2.1 15 k))).1) ((fillS (rowS t q b 3 ((m : Nat) : Int)) b (k + 1) (fun k => Int64.ofInt (t.2.2.1 15 k))).2.1) ((fillS (rowS t q b 3 ((m : Nat) : Int)) b (k + 1) (fun k => Int64.ofInt (t.2.2.1 15 k))).2.2.1) ((fillS (rowS t q b 3 ((m : Nat) : Int)) b (k + 1) (fun k => Int64.ofInt (t.2.2.1 15 k))).2.2.2)) (fill_s (rowS t q b 3 ((m : Nat) : Int)) b k (fun k => Int64.ofInt (t.2.2.1 15 k))) ?_
          exact pg_sub (L := [(0, .ref 102), (1, ii (hd : Int)), (2, ii place), (3, ii (q : Int)), (4, ii ((k + 1) : Int))]) rfl rfl rfl (ih40 (m - (k + 1)) (by omega) (k + 1) rfl (by omega))
    refine pg_cast (h2 := rI pre post ((fillS (rowS t q b 3 ((m : Nat) : Int)) b 0 (fun k => Int64.ofInt (t.2.2.1 15 k))).1) ((fillS (rowS t q b 3 ((m : Nat) : Int)) b 0 (fun k => Int64.ofInt (t.2.2.1 15 k))).2.1) ((fillS (rowS t q b 3 ((m : Nat) : Int)) b 0 (fun k => Int64.ofInt (t.2.2.1 15 k))).2.2.1) ((fillS (rowS t q b 3 ((m : Nat) : Int)) b 0 (fun k => Int64.ofInt (t.2.2.1 15 k))).2.2.2)) (fill_0 (rowS t q b 3 ((m : Nat) : Int)) b (fun k => Int64.ofInt (t.2.2.1 15 k))) ?_
    exact pg_sub (L := [(0, .ref 102), (1, ii (hd : Int)), (2, ii place), (3, ii (q : Int)), (4, ii (0 : Int))]) rfl rfl rfl (lp40 _ 0 rfl (Nat.zero_le _))
  · refine me1 (pc' := 20) (L' := [(0, .ref 102), (1, ii (hd : Int)), (2, ii place)]) (S' := [.ref 102]) dm_X12_text_19 rfl rfl rfl rfl ?_
    refine me0 (pc' := 22) (S' := [ii 8, .ref 102]) dm_X12_text_20 rfl rfl rfl rfl ?_
    refine me1 (pc' := 23) (L' := [(0, .ref 102), (1, ii (hd : Int)), (2, ii place)]) (S' := [ii place, ii 8, .ref 102]) dm_X12_text_22 rfl rfl rfl rfl ?_
    refine x_cv (pc' := 26) (rest := []) dm_X12_text_23 rfl (q_inv (As := [ii 8, ii place]) (S := []) hm rfl rfl rfl) rfl rfl rfl (r_fail_ (s := t) hm (by omega) he0t hcat.1 hcat.2) ?_
    rintro _ _ ⟨rfl, rfl⟩
    refine y_ret (r := some (ii (-1))) dm_X12_text_26 rfl rfl rfl ?_
    rw [show m_text (e + 1) v = .inl 8 by unfold m_text; rw [if_pos (by omega)]]
    exact ⟨_, rfl, rres_fail (rpre_pr hR) he0⟩
theorem fb_id (b N : Nat) (z : Nat → Int64) : fb b N (fun k => z (b + k)) z = z := by
  funext j
  unfold fb
  by_cases h : b ≤ j ∧ j < b + N
  · rw [if_pos h]
    show z (b + (j - b)) = z j
    congr 1
    omega
  · rw [if_neg h]
theorem fb_g {b N j : Nat} (g z : Nat → Int64) (x : Int64) (h : j < N) : va_up (fb b N g z) (b + j) x = fb b N (va_up g j x) z := by
  funext i
  show (if i = b + j then x else if b ≤ i ∧ i < b + N then g (i - b) else z i) = if b ≤ i ∧ i < b + N then (if i - b = j then x else g (i - b)) else z i
  by_cases h1 : i = b + j
  · rw [if_pos h1, if_pos (by omega), if_pos (by omega)]
  · by_cases h2 : b ≤ i ∧ i < b + N
    · rw [if_neg h1, if_pos h2, if_pos h2, if_neg (by omega)]
    · rw [if_neg h1, if_neg h2, if_neg h2]
/-- cells that are filled in any order -/
theorem fill_id {pre post : mj_H} (T : RS) (b N : Nat) : rS pre post T = rS pre post (fillS T b N (fun k => T.2.2.2 0 (b + k))) := by
  unfold fillS
  rw [fb_id]
  show rI _ _ _ _ _ _ = rI _ _ _ _ _ _
  congr 1
  funext j
  show T.2.2.2 j = if j = 0 then T.2.2.2 0 else T.2.2.2 j
  by_cases h : j = 0
  · rw [if_pos h, h]
  · rw [if_neg h]
theorem fill_g {pre post : mj_H} (T : RS) (b N j : Nat) (g : Nat → Int64) (x : Int64) (h : j < N) : rI pre post (fillS T b N g).1 (fillS T b N g).2.1 (fillS T b N g).2.2.1 (va_up (fillS T b N g).2.2.2 0 (va_up ((fillS T b N g).2.2.2 0) (b + j) x)) = rS pre post (fillS T b N (va_up g j x)) := by
  show rI pre post T.1 T.2.1 T.2.2.1 (va_up (va_up T.2.2.2 0 (fb b N g (T.2.2.2 0))) 0 (va_up (va_up T.2.2.2 0 (fb b N g (T.2.2.2 0)) 0) (b + j) x)) = rI pre post T.1 T.2.1 T.2.2.1 (va_up T.2.2.2 0 (fb b N (va_up g j x) (T.2.2.2 0)))
  rw [up_up, up_eq, fb_g _ _ _ h]
set_option maxRecDepth 20000 in
theorem pm_X12_flipped : mj_mmof pg_ms 282 = some ((⟨"ArrayCalculatorModel", "flipped", "(I)I"⟩, prog_14_method_32_code, 5, (Option.some Jvm.ClassFile.FieldType.int)), 12, false, mj_dec prog_14_method_32_code) := rfl
theorem dm_X12_flipped_0 : mj_dec prog_14_method_32_code 0 = some (.aload_n 0, 1) := by decide +kernel
theorem dm_X12_flipped_1 : mj_dec prog_14_method_32_code 1 = some (.aload_n 0, 1) := by decide +kernel
theorem dm_X12_flipped_2 : mj_dec prog_14_method_32_code 2 = some (.iload_n 1, 1) := by decide +kernel
theorem dm_X12_flipped_3 : mj_dec prog_14_method_32_code 3 = some (.invokevirtual 156, 3) := by decide +kernel
theorem dm_X12_flipped_6 : mj_dec prog_14_method_32_code 6 = some (.aload_n 0, 1) := by decide +kernel
theorem dm_X12_flipped_7 : mj_dec prog_14_method_32_code 7 = some (.iload_n 1, 1) := by decide +kernel
theorem dm_X12_flipped_8 : mj_dec prog_14_method_32_code 8 = some (.invokevirtual 134, 3) := by decide +kernel
theorem dm_X12_flipped_11 : mj_dec prog_14_method_32_code 11 = some (.invokevirtual 255, 3) := by decide +kernel
theorem dm_X12_flipped_14 : mj_dec prog_14_method_32_code 14 = some (.istore_n 2, 1) := by decide +kernel
theorem dm_X12_flipped_15 : mj_dec prog_14_method_32_code 15 = some (.iconst 0, 1) := by decide +kernel
theorem dm_X12_flipped_16 : mj_dec prog_14_method_32_code 16 = some (.istore_n 3, 1) := by decide +kernel
theorem dm_X12_flipped_17 : mj_dec prog_14_method_32_code 17 = some (.iload_n 3, 1) := by decide +kernel
theorem dm_X12_flipped_18 : mj_dec prog_14_method_32_code 18 = some (.aload_n 0, 1) := by decide +kernel
theorem dm_X12_flipped_19 : mj_dec prog_14_method_32_code 19 = some (.iload_n 1, 1) := by decide +kernel
theorem dm_X12_flipped_20 : mj_dec prog_14_method_32_code 20 = some (.invokevirtual 134, 3) := by decide +kernel
theorem dm_X12_flipped_23 : mj_dec prog_14_method_32_code 23 = some (.if_icmp .ge 65, 3) := by decide +kernel
theorem dm_X12_flipped_26 : mj_dec prog_14_method_32_code 26 = some (.iconst 0, 1) := by decide +kernel
theorem dm_X12_flipped_27 : mj_dec prog_14_method_32_code 27 = some (.istore 4, 2) := by decide +kernel
theorem dm_X12_flipped_29 : mj_dec prog_14_method_32_code 29 = some (.iload 4, 2) := by decide +kernel
theorem dm_X12_flipped_31 : mj_dec prog_14_method_32_code 31 = some (.aload_n 0, 1) := by decide +kernel
theorem dm_X12_flipped_32 : mj_dec prog_14_method_32_code 32 = some (.iload_n 1, 1) := by decide +kernel
theorem dm_X12_flipped_33 : mj_dec prog_14_method_32_code 33 = some (.invokevirtual 156, 3) := by decide +kernel
theorem dm_X12_flipped_36 : mj_dec prog_14_method_32_code 36 = some (.if_icmp .ge 46, 3) := by decide +kernel
theorem dm_X12_flipped_39 : mj_dec prog_14_method_32_code 39 = some (.aload_n 0, 1) := by decide +kernel
theorem dm_X12_flipped_40 : mj_dec prog_14_method_32_code 40 = some (.getfield 8, 3) := by decide +kernel
theorem dm_X12_flipped_43 : mj_dec prog_14_method_32_code 43 = some (.aload_n 0, 1) := by decide +kernel
theorem dm_X12_flipped_44 : mj_dec prog_14_method_32_code 44 = some (.getfield 15, 3) := by decide +kernel
theorem dm_X12_flipped_47 : mj_dec prog_14_method_32_code 47 = some (.iload_n 2, 1) := by decide +kernel
theorem dm_X12_flipped_48 : mj_dec prog_14_method_32_code 48 = some (.iaload, 1) := by decide +kernel
theorem dm_X12_flipped_49 : mj_dec prog_14_method_32_code 49 = some (.iload 4, 2) := by decide +kernel
theorem dm_X12_flipped_51 : mj_dec prog_14_method_32_code 51 = some (.aload_n 0, 1) := by decide +kernel
theorem dm_X12_flipped_52 : mj_dec prog_14_method_32_code 52 = some (.iload_n 1, 1) := by decide +kernel
theorem dm_X12_flipped_53 : mj_dec prog_14_method_32_code 53 = some (.invokevirtual 134, 3) := by decide +kernel
theorem dm_X12_flipped_56 : mj_dec prog_14_method_32_code 56 = some (.imul, 1) := by decide +kernel
theorem dm_X12_flipped_57 : mj_dec prog_14_method_32_code 57 = some (.iadd, 1) := by decide +kernel
theorem dm_X12_flipped_58 : mj_dec prog_14_method_32_code 58 = some (.iload_n 3, 1) := by decide +kernel
theorem dm_X12_flipped_59 : mj_dec prog_14_method_32_code 59 = some (.iadd, 1) := by decide +kernel
theorem dm_X12_flipped_60 : mj_dec prog_14_method_32_code 60 = some (.aload_n 0, 1) := by decide +kernel
theorem dm_X12_flipped_61 : mj_dec prog_14_method_32_code 61 = some (.iload_n 1, 1) := by decide +kernel
theorem dm_X12_flipped_62 : mj_dec prog_14_method_32_code 62 = some (.iload_n 3, 1) := by decide +kernel
theorem dm_X12_flipped_63 : mj_dec prog_14_method_32_code 63 = some (.aload_n 0, 1) := by decide +kernel
theorem dm_X12_flipped_64 : mj_dec prog_14_method_32_code 64 = some (.iload_n 1, 1) := by decide +kernel
theorem dm_X12_flipped_65 : mj_dec prog_14_method_32_code 65 = some (.invokevirtual 156, 3) := by decide +kernel
theorem dm_X12_flipped_68 : mj_dec prog_14_method_32_code 68 = some (.imul, 1) := by decide +kernel
theorem dm_X12_flipped_69 : mj_dec prog_14_method_32_code 69 = some (.iload 4, 2) := by decide +kernel
theorem dm_X12_flipped_71 : mj_dec prog_14_method_32_code 71 = some (.iadd, 1) := by decide +kernel
theorem dm_X12_flipped_72 : mj_dec prog_14_method_32_code 72 = some (.invokevirtual 138, 3) := by decide +kernel
theorem dm_X12_flipped_75 : mj_dec prog_14_method_32_code 75 = some (.lastore, 1) := by decide +kernel
theorem dm_X12_flipped_76 : mj_dec prog_14_method_32_code 76 = some (.iinc 4 1, 3) := by decide +kernel
theorem dm_X12_flipped_79 : mj_dec prog_14_method_32_code 79 = some (.goto (-50), 3) := by decide +kernel
theorem dm_X12_flipped_82 : mj_dec prog_14_method_32_code 82 = some (.iinc 3 1, 3) := by decide +kernel
theorem dm_X12_flipped_85 : mj_dec prog_14_method_32_code 85 = some (.goto (-68), 3) := by decide +kernel
theorem dm_X12_flipped_88 : mj_dec prog_14_method_32_code 88 = some (.iload_n 2, 1) := by decide +kernel
theorem dm_X12_flipped_89 : mj_dec prog_14_method_32_code 89 = some (.ireturn, 1) := by decide +kernel
theorem r_flipped_ {xt : mj_X} {d e hd q b : Nat} {pre post : mj_H} {s : RS} {v : VV} {place : Int} (hm : pre.length = 102) (hd1 : 5 ≤ d) (hB : rB s) (hv : rv s (e + 1) hd v) (hh3 : 3 ≤ hd) (hq : s.1 4 = (q : Int)) (hb : s.1 3 = (b : Int)) (hq3 : 3 ≤ q) (hV2 : q < 310000) (he0 : s.1 5 = 0) (hca : 0 ≤ s.1 10 ∧ s.1 10 ≤ 100) (hC : b + 300 ≤ 820000) (hk6 : vk v = 6) : pgV xt d 282 [.ref 102, ii (hd : Int)] (rS pre post s) (rres pre post s (e + 1) (m_flip v) place 144 1) := by
  have hB0 := hB
  obtain ⟨hB1, hB2, hB3, hB4⟩ := hB
  obtain ⟨fr, hfr, hsh, hlt, hcl, hvk, hvm, hvc, hvq, hvcl⟩ := rv_val hv
  have hw6 := hv.1.2.2.2.1 hk6
  have hq6 : vq v = vm v * vc v := by unfold vq; rw [if_pos hk6]
  have hfit := hw6.2.2.2.2
  have hmm : vm v * vc v ≤ 144 := by rw [← hq6]; exact vq_le hv.1
  have hcm : vc v * vm v = vm v * vc v := Nat.mul_comm _ _
  have hcI : (vc v : Int) * (vm v : Int) = ((vm v * vc v : Nat) : Int) := by rw [← hcm]; push_cast; rfl
  refine x_enter pm_X12_flipped (L0 := [(0, .ref 102), (1, ii (hd : Int))]) rfl (Nat.le_of_ble_eq_true rfl) (by omega) ?_
  refine me1 (pc' := 1) (L' := [(0, .ref 102), (1, ii (hd : Int))]) (S' := [.ref 102]) dm_X12_flipped_0 rfl rfl rfl rfl ?_
  refine me1 (pc' := 2) (L' := [(0, .ref 102), (1, ii (hd : Int))]) (S' := [.ref 102, .ref 102]) dm_X12_flipped_1 rfl rfl rfl rfl ?_
  refine me1 (pc' := 3) (L' := [(0, .ref 102), (1, ii (hd : Int))]) (S' := [ii (hd : Int), .ref 102, .ref 102]) dm_X12_flipped_2 rfl rfl rfl rfl ?_
  refine x_cp (pc' := 6) (v := ii (vc v : Int)) (rest := [.ref 102]) dm_X12_flipped_3 rfl (q_inv (As := [ii (hd : Int)]) (S := [.ref 102]) hm rfl rfl rfl) rfl rfl rfl (r_columns_ hm (by omega) hB0 hv) ?_
  refine me1 (pc' := 7) (L' := [(0, .ref 102), (1, ii (hd : Int))]) (S' := [.ref 102, ii (vc v : Int), .ref 102]) dm_X12_flipped_6 rfl rfl rfl rfl ?_
  refine me1 (pc' := 8) (L' := [(0, .ref 102), (1, ii (hd : Int))]) (S' := [ii (hd : Int), .ref 102, ii (vc v : Int), .ref 102]) dm_X12_flipped_7 rfl rfl rfl rfl ?_
  refine x_cp (pc' := 11) (v := ii (vm v : Int)) (rest := [ii (vc v : Int), .ref 102]) dm_X12_flipped_8 rfl (q_inv (As := [ii (hd : Int)]) (S := [ii (vc v : Int), .ref 102]) hm rfl rfl rfl) rfl rfl rfl (r_many_ hm (by omega) hB0 hv) ?_
  refine x_cv (pc' := 14) (rest := []) dm_X12_flipped_11 rfl (q_inv (As := [ii (vc v : Int), ii (vm v : Int)]) (S := []) hm rfl rfl rfl) rfl rfl rfl (r_table_ (q := q) (b := b) (s := s) hm (by omega) hq hb (by omega) (by omega) (by omega)) ?_
  rintro _ _ ⟨rfl, rfl⟩
  have hxT : rext s (tabS s q b (vc v : Int) (vm v : Int)) := rext_tab hq hb (by omega)
  have hBT : rB (tabS s q b (vc v : Int) (vm v : Int)) := ⟨by show 3 ≤ (q : Int) + 1; omega, by show (q : Int) + 1 ≤ 310000; omega, by show 0 ≤ (b : Int) + (vc v : Int) * (vm v : Int); omega, by show (b : Int) + (vc v : Int) * (vm v : Int) ≤ 820000; omega⟩
  have hvT : ∀ (k : Nat) (F : Nat → Int64), rv (fillS (tabS s q b (vc v : Int) (vm v : Int)) b k F) (e + 1) hd v := fun k F => rv_ext (rext_fill hxT (by omega) F) hh3 hv
  refine me1 (pc' := 15) (L' := [(2, ii (q : Int)), (0, .ref 102), (1, ii (hd : Int))]) (S' := []) dm_X12_flipped_14 rfl rfl rfl rfl ?_
  refine me0 (pc' := 16) (S' := [ii 0]) dm_X12_flipped_15 rfl rfl rfl rfl ?_
  refine me1 (pc' := 17) (L' := [(3, ii 0), (2, ii (q : Int)), (0, .ref 102), (1, ii (hd : Int))]) (S' := []) dm_X12_flipped_16 rfl rfl rfl rfl ?_
  have lp17 : ∀ (n17 : Nat) (r : Nat) (G : Nat → Int64), vm v - r = n17 → (r ≤ vm v) → (∀ x y, x < r → y < vc v → G (y * vm v + x) = vn v (x * vc v + y)) → pgE xt (d - 1) 12 5 false (Option.some Jvm.ClassFile.FieldType.int) (mj_dec prog_14_method_32_code) 17 [(0, .ref 102), (1, ii (hd : Int)), (2, ii (q : Int)), (3, ii (r : Int))] [] (rI pre post ((fillS (tabS s q b (vc v : Int) (vm v : Int)) b (vc v * vm v) G).1) ((fillS (tabS s q b (vc v : Int) (vm v : Int)) b (vc v * vm v) G).2.1) ((fillS (tabS s q b (vc v : Int) (vm v : Int)) b (vc v * vm v) G).2.2.1) ((fillS (tabS s q b (vc v : Int) (vm v : Int)) b (vc v * vm v) G).2.2.2)) (fun r h' => ∃ x, r = some x ∧ rres pre post s (e + 1) (m_flip v) place 144 1 x h') := by
    intro n17
    induction n17 using Nat.strongRecOn with
    | ind n17 ih17 =>
      intro r G hm17 hr hG
      refine me1 (pc' := 18) (L' := [(0, .ref 102), (1, ii (hd : Int)), (2, ii (q : Int)), (3, ii (r : Int))]) (S' := [ii (r : Int)]) dm_X12_flipped_17 rfl rfl rfl rfl ?_
      refine me1 (pc' := 19) (L' := [(0, .ref 102), (1, ii (hd : Int)), (2, ii (q : Int)), (3, ii (r : Int))]) (S' := [.ref 102, ii (r : Int)]) dm_X12_flipped_18 rfl rfl rfl rfl ?_
      refine me1 (pc' := 20) (L' := [(0, .ref 102), (1, ii (hd : Int)), (2, ii (q : Int)), (3, ii (r : Int))]) (S' := [ii (hd : Int), .ref 102, ii (r : Int)]) dm_X12_flipped_19 rfl rfl rfl rfl ?_
      refine x_cp (pc' := 23) (v := ii (vm v : Int)) (rest := [ii (r : Int)]) dm_X12_flipped_20 rfl (q_inv (As := [ii (hd : Int)]) (S := [ii (r : Int)]) hm rfl rfl rfl) rfl rfl rfl (r_many_ hm (by omega) hBT (hvT _ _)) ?_
      refine y_2ge (a := (r : Int)) (b := (vm v : Int)) (t := 88) (pc' := 26) dm_X12_flipped_23 rfl rfl (by omega) (fun hb1 => ?_) (fun hb1 => ?_)
      · refine me1 (pc' := 89) (L' := [(0, .ref 102), (1, ii (hd : Int)), (2, ii (q : Int)), (3, ii (r : Int))]) (S' := [ii (q : Int)]) dm_X12_flipped_88 rfl rfl rfl rfl ?_
        refine y_ret (r := some (ii (q : Int))) dm_X12_flipped_89 rfl rfl rfl ?_
        have hrm : r = vm v := by omega
        rw [show m_flip v = .inr (vtab (vc v) (vm v) (fun j => vn v (j % vm v * vc v + j / vm v))) by unfold m_flip; rw [if_pos hk6]]
        refine ⟨_, rfl, rres_tab (r := vc v) (c := vm v) hq hq3 hb he0 (vw1_tab (by omega) (by omega) (by omega) (by omega) (fun k hk => hfit _ ?_)) rfl rfl rfl (fun k hk => ?_) (by omega) (Nat.le_refl _)⟩
        · have h1 : k / vm v < vc v := (Nat.div_lt_iff_lt_mul (by omega)).mpr hk
          exact mul_lt (Nat.mod_lt _ (by omega)) h1
        · have h1 : k / vm v < vc v := (Nat.div_lt_iff_lt_mul (by omega)).mpr (by omega)
          have h2 := hG (k % vm v) (k / vm v) (by have := Nat.mod_lt k (show 0 < vm v by omega); omega) h1
          rw [show k / vm v * vm v + k % vm v = k by rw [Nat.mul_comm]; exact Nat.div_add_mod k (vm v)] at h2
          exact h2
      · refine me0 (pc' := 27) (S' := [ii 0]) dm_X12_flipped_26 rfl rfl rfl rfl ?_
        refine me1 (pc' := 29) (L' := [(4, ii 0), (0, .ref 102), (1, ii (hd : Int)), (2, ii (q : Int)), (3, ii (r : Int))]) (S' := []) dm_X12_flipped_27 rfl rfl rfl rfl ?_
        have lp29 : ∀ (n29 : Nat) (c : Nat) (F : Nat → Int64), vc v - c = n29 → (c ≤ vc v) → (∀ x y, x < r → y < vc v → F (y * vm v + x) = vn v (x * vc v + y)) → (∀ b, b < c → F (b * vm v + r) = vn v (r * vc v + b)) → pgE xt (d - 1) 12 5 false (Option.some Jvm.ClassFile.FieldType.int) (mj_dec prog_14_method_32_code) 29 [(0, .ref 102), (1, ii (hd : Int)), (2, ii (q : Int)), (3, ii (r : Int)), (4, ii (c : Int))] [] (rI pre post ((fillS (tabS s q b (vc v : Int) (vm v : Int)) b (vc v * vm v) F).1) ((fillS (tabS s q b (vc v : Int) (vm v : Int)) b (vc v * vm v) F).2.1) ((fillS (tabS s q b (vc v : Int) (vm v : Int)) b (vc v * vm v) F).2.2.1) ((fillS (tabS s q b (vc v : Int) (vm v : Int)) b (vc v * vm v) F).2.2.2)) (fun r h' => ∃ x, r = some x ∧ rres pre post s (e + 1) (m_flip v) place 144 1 x h') := by
          intro n29
          induction n29 using Nat.strongRecOn with
          | ind n29 ih29 =>
            intro c F hm29 hc hF hF2
            refine me1 (pc' := 31) (L' := [(0, .ref 102), (1, ii (hd : Int)), (2, ii (q : Int)), (3, ii (r : Int)), (4, ii (c : Int))]) (S' := [ii (c : Int)]) dm_X12_flipped_29 rfl rfl rfl rfl ?_
            refine me1 (pc' := 32) (L' := [(0, .ref 102), (1, ii (hd : Int)), (2, ii (q : Int)), (3, ii (r : Int)), (4, ii (c : Int))]) (S' := [.ref 102, ii (c : Int)]) dm_X12_flipped_31 rfl rfl rfl rfl ?_
            refine me1 (pc' := 33) (L' := [(0, .ref 102), (1, ii (hd : Int)), (2, ii (q : Int)), (3, ii (r : Int)), (4, ii (c : Int))]) (S' := [ii (hd : Int), .ref 102, ii (c : Int)]) dm_X12_flipped_32 rfl rfl rfl rfl ?_
            refine x_cp (pc' := 36) (v := ii (vc v : Int)) (rest := [ii (c : Int)]) dm_X12_flipped_33 rfl (q_inv (As := [ii (hd : Int)]) (S := [ii (c : Int)]) hm rfl rfl rfl) rfl rfl rfl (r_columns_ hm (by omega) hBT (hvT _ _)) ?_
            refine y_2ge (a := (c : Int)) (b := (vc v : Int)) (t := 82) (pc' := 39) dm_X12_flipped_36 rfl rfl (by omega) (fun hb2 => ?_) (fun hb2 => ?_)
            · refine y_iinc (pc' := 85) (L' := [(3, ii ((r : Int) + 1)), (0, .ref 102), (1, ii (hd : Int)), (2, ii (q : Int)), (4, ii (c : Int))]) dm_X12_flipped_82 (y_incp (a := (r : Int)) (c := 1) rfl rfl (by decide)) rfl ?_
              refine me2 (pc' := 17) (S' := []) dm_X12_flipped_85 rfl rfl rfl ?_
              exact pg_sub (L := [(0, .ref 102), (1, ii (hd : Int)), (2, ii (q : Int)), (3, ii ((r + 1) : Int))]) rfl rfl rfl (ih17 (vm v - (r + 1)) (by omega) (r + 1) F rfl (by omega) (fun a b h1 h2 => by by_cases z : a = r; (subst z; exact hF2 b (by omega)); exact hF a b (by omega) h2))
            · have hi1 := mul_lt (a := c) (b := r) (m := vm v) (n := vc v) (by omega) (by omega)
              have hi2 := mul_lt (a := r) (b := c) (m := vc v) (n := vm v) (by omega) (by omega)
              have hmb1 := mulb 12 12 (a := c) (b := vm v) (by omega) (by omega)
              have hmb2 := mulb 12 12 (a := r) (b := vc v) (by omega) (by omega)
              refine me1 (pc' := 40) (L' := [(0, .ref 102), (1, ii (hd : Int)), (2, ii (q : Int)), (3, ii (r : Int)), (4, ii (c : Int))]) (S' := [.ref 102]) dm_X12_flipped_39 rfl rfl rfl rfl ?_
              refine me3 (pc' := 43) (S' := [.ref (102 + 1)]) dm_X12_flipped_40 (q_getr hm rfl (fun m i l => rg_0 m i l)) rfl rfl rfl ?_
              refine me1 (pc' := 44) (L' := [(0, .ref 102), (1, ii (hd : Int)), (2, ii (q : Int)), (3, ii (r : Int)), (4, ii (c : Int))]) (S' := [.ref 102, .ref (102 + 1)]) dm_X12_flipped_43 rfl rfl rfl rfl ?_
              refine me3 (pc' := 47) (S' := [.ref (102 + 2), .ref (102 + 1)]) dm_X12_flipped_44 (q_getr hm rfl (fun m i l => rg_1 m i l)) rfl rfl rfl ?_
              refine me1 (pc' := 48) (L' := [(0, .ref 102), (1, ii (hd : Int)), (2, ii (q : Int)), (3, ii (r : Int)), (4, ii (c : Int))]) (S' := [ii (q : Int), .ref (102 + 2), .ref (102 + 1)]) dm_X12_flipped_47 rfl rfl rfl rfl ?_
              refine me3 (pc' := 49) (S' := [ii ((((fillS (tabS s q b (vc v : Int) (vm v : Int)) b (vc v * vm v) F).2.2.1) 1) q), .ref (102 + 1)]) dm_X12_flipped_48 (q_iald (v := (((fillS (tabS s q b (vc v : Int) (vm v : Int)) b (vc v * vm v) F).2.2.1) 1) q) (k := 1) (n := 310000) hm (fun m i l I J => rc_1 m i l I J) (by omega) (by omega) (by decide) rfl) rfl rfl rfl ?_
              refine pg_st (S' := [ii (b : Int), .ref (102 + 1)]) (congrArg (fun z => ii z :: [.ref (102 + 1)]) (up_eq _ _ _)) ?_
              refine me1 (pc' := 51) (L' := [(0, .ref 102), (1, ii (hd : Int)), (2, ii (q : Int)), (3, ii (r : Int)), (4, ii (c : Int))]) (S' := [ii (c : Int), ii (b : Int), .ref (102 + 1)]) dm_X12_flipped_49 rfl rfl rfl rfl ?_
              refine me1 (pc' := 52) (L' := [(0, .ref 102), (1, ii (hd : Int)), (2, ii (q : Int)), (3, ii (r : Int)), (4, ii (c : Int))]) (S' := [.ref 102, ii (c : Int), ii (b : Int), .ref (102 + 1)]) dm_X12_flipped_51 rfl rfl rfl rfl ?_
              refine me1 (pc' := 53) (L' := [(0, .ref 102), (1, ii (hd : Int)), (2, ii (q : Int)), (3, ii (r : Int)), (4, ii (c : Int))]) (S' := [ii (hd : Int), .ref 102, ii (c : Int), ii (b : Int), .ref (102 + 1)]) dm_X12_flipped_52 rfl rfl rfl rfl ?_
              refine x_cp (pc' := 56) (v := ii (vm v : Int)) (rest := [ii (c : Int), ii (b : Int), .ref (102 + 1)]) dm_X12_flipped_53 rfl (q_inv (As := [ii (hd : Int)]) (S := [ii (c : Int), ii (b : Int), .ref (102 + 1)]) hm rfl rfl rfl) rfl rfl rfl (r_many_ hm (by omega) hBT (hvT _ _)) ?_
              refine y_imul (a := (c : Int)) (b := (vm v : Int)) dm_X12_flipped_56 (pc' := 57) rfl ?_
              refine y_iadd (a := (b : Int)) (b := (c : Int) * (vm v : Int)) dm_X12_flipped_57 (pc' := 58) rfl ?_
              refine me1 (pc' := 59) (L' := [(0, .ref 102), (1, ii (hd : Int)), (2, ii (q : Int)), (3, ii (r : Int)), (4, ii (c : Int))]) (S' := [ii (r : Int), ii ((b : Int) + ((c : Int) * (vm v : Int))), .ref (102 + 1)]) dm_X12_flipped_58 rfl rfl rfl rfl ?_
              refine y_iadd (a := (b : Int) + ((c : Int) * (vm v : Int))) (b := (r : Int)) dm_X12_flipped_59 (pc' := 60) rfl ?_
              refine pg_st (S' := [ii ((b + (c * vm v + r) : Nat) : Int), .ref (102 + 1)]) (congrArg (fun z => ii z :: [.ref (102 + 1)]) (by push_cast; rw [Int.add_assoc])) ?_
              refine me1 (pc' := 61) (L' := [(0, .ref 102), (1, ii (hd : Int)), (2, ii (q : Int)), (3, ii (r : Int)), (4, ii (c : Int))]) (S' := [.ref 102, ii ((b + (c * vm v + r) : Nat) : Int), .ref (102 + 1)]) dm_X12_flipped_60 rfl rfl rfl rfl ?_
              refine me1 (pc' := 62) (L' := [(0, .ref 102), (1, ii (hd : Int)), (2, ii (q : Int)), (3, ii (r : Int)), (4, ii (c : Int))]) (S' := [ii (hd : Int), .ref 102, ii ((b + (c * vm v + r) : Nat) : Int), .ref (102 + 1)]) dm_X12_flipped_61 rfl rfl rfl rfl ?_
              refine me1 (pc' := 63) (L' := [(0, .ref 102), (1, ii (hd : Int)), (2, ii (q : Int)), (3, ii (r : Int)), (4, ii (c : Int))]) (S' := [ii (r : Int), ii (hd : Int), .ref 102, ii ((b + (c * vm v + r) : Nat) : Int), .ref (102 + 1)]) dm_X12_flipped_62 rfl rfl rfl rfl ?_
              refine me1 (pc' := 64) (L' := [(0, .ref 102), (1, ii (hd : Int)), (2, ii (q : Int)), (3, ii (r : Int)), (4, ii (c : Int))]) (S' := [.ref 102, ii (r : Int), ii (hd : Int), .ref 102, ii ((b + (c * vm v + r) : Nat) : Int), .ref (102 + 1)]) dm_X12_flipped_63 rfl rfl rfl rfl ?_
              refine me1 (pc' := 65) (L' := [(0, .ref 102), (1, ii (hd : Int)), (2, ii (q : Int)), (3, ii (r : Int)), (4, ii (c : Int))]) (S' := [ii (hd : Int), .ref 102, ii (r : Int), ii (hd : Int), .ref 102, ii ((b + (c * vm v + r) : Nat) : Int), .ref (102 + 1)]) dm_X12_flipped_64 rfl rfl rfl rfl ?_
              refine x_cp (pc' := 68) (v := ii (vc v : Int)) (rest := [ii (r : Int), ii (hd : Int), .ref 102, ii ((b + (c * vm v + r) : Nat) : Int), .ref (102 + 1)]) dm_X12_flipped_65 rfl (q_inv (As := [ii (hd : Int)]) (S := [ii (r : Int), ii (hd : Int), .ref 102, ii ((b + (c * vm v + r) : Nat) : Int), .ref (102 + 1)]) hm rfl rfl rfl) rfl rfl rfl (r_columns_ hm (by omega) hBT (hvT _ _)) ?_
              refine y_imul (a := (r : Int)) (b := (vc v : Int)) dm_X12_flipped_68 (pc' := 69) rfl ?_
              refine me1 (pc' := 71) (L' := [(0, .ref 102), (1, ii (hd : Int)), (2, ii (q : Int)), (3, ii (r : Int)), (4, ii (c : Int))]) (S' := [ii (c : Int), ii ((r : Int) * (vc v : Int)), ii (hd : Int), .ref 102, ii ((b + (c * vm v + r) : Nat) : Int), .ref (102 + 1)]) dm_X12_flipped_69 rfl rfl rfl rfl ?_
              refine y_iadd (a := (r : Int) * (vc v : Int)) (b := (c : Int)) dm_X12_flipped_71 (pc' := 72) rfl ?_
              refine pg_st (S' := [ii ((r * vc v + c : Nat) : Int), ii (hd : Int), .ref 102, ii ((b + (c * vm v + r) : Nat) : Int), .ref (102 + 1)]) (congrArg (fun z => ii z :: [ii (hd : Int), .ref 102, ii ((b + (c * vm v + r) : Nat) : Int), .ref (102 + 1)]) (by push_cast; rfl)) ?_
              refine x_cp (pc' := 75) (v := .long (vn v (r * vc v + c))) (rest := [ii ((b + (c * vm v + r) : Nat) : Int), .ref (102 + 1)]) dm_X12_flipped_72 rfl (q_inv (As := [ii (hd : Int), ii ((r * vc v + c : Nat) : Int)]) (S := [ii ((b + (c * vm v + r) : Nat) : Int), .ref (102 + 1)]) hm rfl rfl rfl) rfl rfl rfl (r_number_ (k := r * vc v + c) hm (by omega) hBT (hvT _ _) (by omega) (by omega)) ?_
              refine me3 (pc' := 76) (S' := []) (h1 := rI pre post ((fillS (tabS s q b (vc v : Int) (vm v : Int)) b (vc v * vm v) F).1) ((fillS (tabS s q b (vc v : Int) (vm v : Int)) b (vc v * vm v) F).2.1) ((fillS (tabS s q b (vc v : Int) (vm v : Int)) b (vc v * vm v) F).2.2.1) (va_up ((fillS (tabS s q b (vc v : Int) (vm v : Int)) b (vc v * vm v) F).2.2.2) 0 (va_up (((fillS (tabS s q b (vc v : Int) (vm v : Int)) b (vc v * vm v) F).2.2.2) 0) (b + (c * vm v + r)) (vn v (r * vc v + c))))) dm_X12_flipped_75 (q_last (j := ((b + (c * vm v + r) : Nat) : Int)) (k := 0) (n := 820000) hm (fun m i l I J => rc_0 m i l I J) (fun m i l I J f => rs_0 m i l I J f) (by omega) (by omega) (by decide)) rfl rfl rfl ?_
              refine y_iinc (pc' := 79) (L' := [(4, ii ((c : Int) + 1)), (0, .ref 102), (1, ii (hd : Int)), (2, ii (q : Int)), (3, ii (r : Int))]) dm_X12_flipped_76 (y_incp (a := (c : Int)) (c := 1) rfl rfl (by decide)) rfl ?_
              refine me2 (pc' := 29) (S' := []) dm_X12_flipped_79 rfl rfl rfl ?_
              refine pg_cast (h2 := rI pre post ((fillS (tabS s q b (vc v : Int) (vm v : Int)) b (vc v * vm v) (va_up F (c * vm v + r) (vn v (r * vc v + c)))).1) ((fillS (tabS s q b (vc v : Int) (vm v : Int)) b (vc v * vm v) (va_up F (c * vm v + r) (vn v (r * vc v + c)))).2.1) ((fillS (tabS s q b (vc v : Int) (vm v : Int)) b (vc v * vm v) (va_up F (c * vm v + r) (vn v (r * vc v + c)))).2.2.1) ((fillS (tabS s q b (vc v : Int) (vm v : Int)) b (vc v * vm v) (va_up F (c * vm v + r) (vn v (r * vc v + c)))).2.2.2)) (fill_g (tabS s q b (vc v : Int) (vm v : Int)) b (vc v * vm v) (c * vm v + r) F _ hi1) ?_
              exact pg_sub (L := [(0, .ref 102), (1, ii (hd : Int)), (2, ii (q : Int)), (3, ii (r : Int)), (4, ii ((c + 1) : Int))]) rfl rfl rfl (ih29 (vc v - (c + 1)) (by omega) (c + 1) (va_up F (c * vm v + r) (vn v (r * vc v + c))) rfl (by omega) (fun a b h1 h2 => by rw [up_ne _ _ (fun z => by have := mul_inj (show a < vm v by omega) (show r < vm v by omega) z; omega)]; exact hF a b h1 h2) (fun b h1 => by by_cases z : b = c; (subst z; exact up_eq _ _ _); (rw [up_ne _ _ (fun y => z (mul_inj (show r < vm v by omega) (show r < vm v by omega) y).1)]; exact hF2 b (by omega))))
        exact pg_sub (L := [(0, .ref 102), (1, ii (hd : Int)), (2, ii (q : Int)), (3, ii (r : Int)), (4, ii (0 : Int))]) rfl rfl rfl (lp29 _ 0 G rfl (Nat.zero_le _) hG (fun b h1 => absurd h1 (Nat.not_lt_zero b)))
  refine pg_cast (h2 := rI pre post ((fillS (tabS s q b (vc v : Int) (vm v : Int)) b (vc v * vm v) (fun k => (tabS s q b (vc v : Int) (vm v : Int)).2.2.2 0 (b + k))).1) ((fillS (tabS s q b (vc v : Int) (vm v : Int)) b (vc v * vm v) (fun k => (tabS s q b (vc v : Int) (vm v : Int)).2.2.2 0 (b + k))).2.1) ((fillS (tabS s q b (vc v : Int) (vm v : Int)) b (vc v * vm v) (fun k => (tabS s q b (vc v : Int) (vm v : Int)).2.2.2 0 (b + k))).2.2.1) ((fillS (tabS s q b (vc v : Int) (vm v : Int)) b (vc v * vm v) (fun k => (tabS s q b (vc v : Int) (vm v : Int)).2.2.2 0 (b + k))).2.2.2)) (fill_id (tabS s q b (vc v : Int) (vm v : Int)) b (vc v * vm v)) ?_
  exact pg_sub (L := [(0, .ref 102), (1, ii (hd : Int)), (2, ii (q : Int)), (3, ii (0 : Int))]) rfl rfl rfl (lp17 _ 0 (fun k => (tabS s q b (vc v : Int) (vm v : Int)).2.2.2 0 (b + k)) rfl (Nat.zero_le _) (fun r c h1 _ => absurd h1 (Nat.not_lt_zero r)))
