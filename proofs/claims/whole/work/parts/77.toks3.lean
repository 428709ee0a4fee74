set_option maxRecDepth 20000 in
theorem pm_X8_isMark : mj_mmof pg_ms 31 = some ((⟨"ArrayCalculator$Tokens", "isMark", "(II)Z"⟩, prog_10_method_7_code, 3, (Option.some Jvm.ClassFile.FieldType.boolean)), 8, false, mj_dec prog_10_method_7_code) := rfl
theorem dm_X8_isMark_0 : mj_dec prog_10_method_7_code 0 = some (.iload_n 1, 1) := by decide +kernel
theorem dm_X8_isMark_1 : mj_dec prog_10_method_7_code 1 = some (.ifCond .lt 38, 3) := by decide +kernel
theorem dm_X8_isMark_4 : mj_dec prog_10_method_7_code 4 = some (.iload_n 1, 1) := by decide +kernel
theorem dm_X8_isMark_5 : mj_dec prog_10_method_7_code 5 = some (.aload_n 0, 1) := by decide +kernel
theorem dm_X8_isMark_6 : mj_dec prog_10_method_7_code 6 = some (.getfield 39, 3) := by decide +kernel
theorem dm_X8_isMark_9 : mj_dec prog_10_method_7_code 9 = some (.if_icmp .ge 30, 3) := by decide +kernel
theorem dm_X8_isMark_12 : mj_dec prog_10_method_7_code 12 = some (.aload_n 0, 1) := by decide +kernel
theorem dm_X8_isMark_13 : mj_dec prog_10_method_7_code 13 = some (.getfield 9, 3) := by decide +kernel
theorem dm_X8_isMark_16 : mj_dec prog_10_method_7_code 16 = some (.iload_n 1, 1) := by decide +kernel
theorem dm_X8_isMark_17 : mj_dec prog_10_method_7_code 17 = some (.iaload, 1) := by decide +kernel
theorem dm_X8_isMark_18 : mj_dec prog_10_method_7_code 18 = some (.bipush 7, 2) := by decide +kernel
theorem dm_X8_isMark_20 : mj_dec prog_10_method_7_code 20 = some (.if_icmp .ne 19, 3) := by decide +kernel
theorem dm_X8_isMark_23 : mj_dec prog_10_method_7_code 23 = some (.aload_n 0, 1) := by decide +kernel
theorem dm_X8_isMark_24 : mj_dec prog_10_method_7_code 24 = some (.getfield 18, 3) := by decide +kernel
theorem dm_X8_isMark_27 : mj_dec prog_10_method_7_code 27 = some (.iload_n 1, 1) := by decide +kernel
theorem dm_X8_isMark_28 : mj_dec prog_10_method_7_code 28 = some (.laload, 1) := by decide +kernel
theorem dm_X8_isMark_29 : mj_dec prog_10_method_7_code 29 = some (.iload_n 2, 1) := by decide +kernel
theorem dm_X8_isMark_30 : mj_dec prog_10_method_7_code 30 = some (.i2l, 1) := by decide +kernel
theorem dm_X8_isMark_31 : mj_dec prog_10_method_7_code 31 = some (.lcmp, 1) := by decide +kernel
theorem dm_X8_isMark_32 : mj_dec prog_10_method_7_code 32 = some (.ifCond .ne 7, 3) := by decide +kernel
theorem dm_X8_isMark_35 : mj_dec prog_10_method_7_code 35 = some (.iconst 1, 1) := by decide +kernel
theorem dm_X8_isMark_36 : mj_dec prog_10_method_7_code 36 = some (.goto 4, 3) := by decide +kernel
theorem dm_X8_isMark_39 : mj_dec prog_10_method_7_code 39 = some (.iconst 0, 1) := by decide +kernel
theorem dm_X8_isMark_40 : mj_dec prog_10_method_7_code 40 = some (.ireturn, 1) := by decide +kernel
theorem x_isMarkT {xt : mj_X} {d mk ln : Nat} {le_ : Int} {gd : Bool} {sf pf bf : Nat → Int} {df : Nat → Int64} {h : mj_H} (hd : 1 ≤ d) (hT : TK h mk le_ ln gd sf pf bf df) {i c : Int} (hi : -2147483648 ≤ i ∧ i ≤ 2147483647) (hc : -2147483648 ≤ c ∧ c ≤ 2147483647) (hs : ∀ j : Nat, -2147483648 ≤ sf j ∧ sf j ≤ 2147483647) : pgP xt d 31 [.ref 9, ii i, ii c] h (zz (decide (0 ≤ i ∧ i < (mk : Int) ∧ sf i.toNat = 7 ∧ (df i.toNat).toInt = c))) := by
  obtain ⟨h9, h10, h11, h12, h3, hmk, hln⟩ := id hT
  have hcl : (Int64.ofInt c).toInt = c := n_toL (by omega) (by omega)
  have hsi := hs i.toNat
  clear hs
  refine x_enter pm_X8_isMark (L0 := [(0, .ref 9), (1, ii i), (2, ii c)]) rfl (Nat.le_of_ble_eq_true rfl) (by omega) ?_
  refine me1 (pc' := 1) (L' := [(0, .ref 9), (1, ii i), (2, ii c)]) (S' := [ii i]) dm_X8_isMark_0 rfl rfl rfl rfl ?_
  refine y_1lt (a := i) (t := 39) (pc' := 4) dm_X8_isMark_1 rfl rfl (by omega) (fun hb1 => ?_) (fun hb1 => ?_)
  · refine me0 (pc' := 40) (S' := [ii 0]) dm_X8_isMark_39 rfl rfl rfl rfl ?_
    refine y_ret (r := some (ii 0)) dm_X8_isMark_40 rfl rfl rfl ?_
    exact ⟨congrArg some (zf (by omega)), rfl⟩
  · refine me1 (pc' := 5) (L' := [(0, .ref 9), (1, ii i), (2, ii c)]) (S' := [ii i]) dm_X8_isMark_4 rfl rfl rfl rfl ?_
    refine me1 (pc' := 6) (L' := [(0, .ref 9), (1, ii i), (2, ii c)]) (S' := [.ref 9, ii i]) dm_X8_isMark_5 rfl rfl rfl rfl ?_
    refine me3 (pc' := 9) (S' := [ii (mk : Int), ii i]) dm_X8_isMark_6 (g_get (v := ii (mk : Int)) h9 rfl rfl (by decide)) rfl rfl rfl ?_
    refine y_2ge (a := i) (b := (mk : Int)) (t := 39) (pc' := 12) dm_X8_isMark_9 rfl rfl (by omega) (fun hb2 => ?_) (fun hb2 => ?_)
    · refine me0 (pc' := 40) (S' := [ii 0]) dm_X8_isMark_39 rfl rfl rfl rfl ?_
      refine y_ret (r := some (ii 0)) dm_X8_isMark_40 rfl rfl rfl ?_
      exact ⟨congrArg some (zf (by omega)), rfl⟩
    · refine me1 (pc' := 13) (L' := [(0, .ref 9), (1, ii i), (2, ii c)]) (S' := [.ref 9]) dm_X8_isMark_12 rfl rfl rfl rfl ?_
      refine me3 (pc' := 16) (S' := [.ref 10]) dm_X8_isMark_13 (g_get (v := .ref 10) h9 rfl rfl (by decide)) rfl rfl rfl ?_
      refine me1 (pc' := 17) (L' := [(0, .ref 9), (1, ii i), (2, ii c)]) (S' := [ii i, .ref 10]) dm_X8_isMark_16 rfl rfl rfl rfl ?_
      refine me3 (pc' := 18) (S' := [ii (sf i.toNat)]) dm_X8_isMark_17 (yh_iald (v := sf i.toNat) h10 (by omega) (by omega) (by omega) (by decide) rfl) rfl rfl rfl ?_
      refine me0 (pc' := 20) (S' := [ii 7, ii (sf i.toNat)]) dm_X8_isMark_18 rfl rfl rfl rfl ?_
      refine y_2ne (a := sf i.toNat) (b := 7) (t := 39) (pc' := 23) dm_X8_isMark_20 rfl rfl (by omega) (fun hb3 => ?_) (fun hb3 => ?_)
      · refine me0 (pc' := 40) (S' := [ii 0]) dm_X8_isMark_39 rfl rfl rfl rfl ?_
        refine y_ret (r := some (ii 0)) dm_X8_isMark_40 rfl rfl rfl ?_
        exact ⟨congrArg some (zf (by omega)), rfl⟩
      · refine me1 (pc' := 24) (L' := [(0, .ref 9), (1, ii i), (2, ii c)]) (S' := [.ref 9]) dm_X8_isMark_23 rfl rfl rfl rfl ?_
        refine me3 (pc' := 27) (S' := [.ref 12]) dm_X8_isMark_24 (g_get (v := .ref 12) h9 rfl rfl (by decide)) rfl rfl rfl ?_
        refine me1 (pc' := 28) (L' := [(0, .ref 9), (1, ii i), (2, ii c)]) (S' := [ii i, .ref 12]) dm_X8_isMark_27 rfl rfl rfl rfl ?_
        refine me3 (pc' := 29) (S' := [.long (df i.toNat)]) dm_X8_isMark_28 (yh_lald (w := df i.toNat) h12 (by omega) (by omega) (by omega) (by decide) rfl) rfl rfl rfl ?_
        refine me1 (pc' := 30) (L' := [(0, .ref 9), (1, ii i), (2, ii c)]) (S' := [ii c, .long (df i.toNat)]) dm_X8_isMark_29 rfl rfl rfl rfl ?_
        refine y_i2l (a := c) dm_X8_isMark_30 (pc' := 31) rfl (by omega) (by omega) ?_
        refine y_lne (x := df i.toNat) (y := Int64.ofInt c) (t := 39) (pc1 := 32) (pc' := 35) dm_X8_isMark_31 rfl dm_X8_isMark_32 rfl rfl (fun hb4 => ?_) (fun hb4 => ?_)
        · have hb4i : ¬ (df i.toNat).toInt = (Int64.ofInt c).toInt := fun z => hb4 (Int64.toInt_inj.mp z)
          refine me0 (pc' := 40) (S' := [ii 0]) dm_X8_isMark_39 rfl rfl rfl rfl ?_
          refine y_ret (r := some (ii 0)) dm_X8_isMark_40 rfl rfl rfl ?_
          exact ⟨congrArg some (zf (by omega)), rfl⟩
        · have hb4i := congrArg Int64.toInt hb4
          refine me0 (pc' := 36) (S' := [ii 1]) dm_X8_isMark_35 rfl rfl rfl rfl ?_
          refine me2 (pc' := 40) (S' := [ii 1]) dm_X8_isMark_36 rfl rfl rfl ?_
          refine y_ret (r := some (ii 1)) dm_X8_isMark_40 rfl rfl rfl ?_
          exact ⟨congrArg some (zt (by omega)), rfl⟩
