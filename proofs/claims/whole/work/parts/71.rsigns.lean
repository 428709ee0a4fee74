set_option maxRecDepth 20000 in
theorem pm_X11_isDigit : mj_mmof pg_ms 21 = some ((⟨"ArrayCalculator", "isDigit", "(J)Z"⟩, prog_1_method_19_code, 2, (Option.some Jvm.ClassFile.FieldType.boolean)), 11, false, mj_dec prog_1_method_19_code) := rfl
theorem dm_X11_isDigit_0 : mj_dec prog_1_method_19_code 0 = some (.lload_n 0, 1) := by decide +kernel
theorem dm_X11_isDigit_1 : mj_dec prog_1_method_19_code 1 = some (.ldc2_w 206, 3) := by decide +kernel
theorem dm_X11_isDigit_4 : mj_dec prog_1_method_19_code 4 = some (.lcmp, 1) := by decide +kernel
theorem dm_X11_isDigit_5 : mj_dec prog_1_method_19_code 5 = some (.ifCond .lt 15, 3) := by decide +kernel
theorem dm_X11_isDigit_8 : mj_dec prog_1_method_19_code 8 = some (.lload_n 0, 1) := by decide +kernel
theorem dm_X11_isDigit_9 : mj_dec prog_1_method_19_code 9 = some (.ldc2_w 208, 3) := by decide +kernel
theorem dm_X11_isDigit_12 : mj_dec prog_1_method_19_code 12 = some (.lcmp, 1) := by decide +kernel
theorem dm_X11_isDigit_13 : mj_dec prog_1_method_19_code 13 = some (.ifCond .gt 7, 3) := by decide +kernel
theorem dm_X11_isDigit_16 : mj_dec prog_1_method_19_code 16 = some (.iconst 1, 1) := by decide +kernel
theorem dm_X11_isDigit_17 : mj_dec prog_1_method_19_code 17 = some (.goto 4, 3) := by decide +kernel
theorem dm_X11_isDigit_20 : mj_dec prog_1_method_19_code 20 = some (.iconst 0, 1) := by decide +kernel
theorem dm_X11_isDigit_21 : mj_dec prog_1_method_19_code 21 = some (.ireturn, 1) := by decide +kernel
theorem a_isDigit {xt : mj_X} {d : Nat} {h : mj_H} {a : Int64} (hd : 1 ≤ d) : pgP xt d 21 [.long a] h (zz (decide (48 ≤ a.toInt ∧ a.toInt ≤ 57))) := by
  have e48 : (Int64.ofInt 48).toInt = 48 := by decide
  have e57 : (Int64.ofInt 57).toInt = 57 := by decide
  refine x_enter pm_X11_isDigit (L0 := [(0, .long a)]) rfl (Nat.le_of_ble_eq_true rfl) (by omega) ?_
  refine me1 (pc' := 1) (L' := [(0, .long a)]) (S' := [.long a]) dm_X11_isDigit_0 rfl rfl rfl rfl ?_
  refine me3 (pc' := 4) (S' := [.long (Int64.ofInt 48), .long a]) dm_X11_isDigit_1 rfl rfl rfl rfl ?_
  refine y_llt (x := a) (y := Int64.ofInt 48) (t := 20) (pc1 := 5) (pc' := 8) dm_X11_isDigit_4 rfl dm_X11_isDigit_5 rfl rfl (fun hb1 => ?_) (fun hb1 => ?_)
  · refine me0 (pc' := 21) (S' := [ii 0]) dm_X11_isDigit_20 rfl rfl rfl rfl ?_
    refine y_ret (r := some (ii 0)) dm_X11_isDigit_21 rfl rfl rfl ?_
    exact ⟨congrArg some (zf (by omega)), rfl⟩
  · refine me1 (pc' := 9) (L' := [(0, .long a)]) (S' := [.long a]) dm_X11_isDigit_8 rfl rfl rfl rfl ?_
    refine me3 (pc' := 12) (S' := [.long (Int64.ofInt 57), .long a]) dm_X11_isDigit_9 rfl rfl rfl rfl ?_
    refine y_lgt (x := a) (y := Int64.ofInt 57) (t := 20) (pc1 := 13) (pc' := 16) dm_X11_isDigit_12 rfl dm_X11_isDigit_13 rfl rfl (fun hb2 => ?_) (fun hb2 => ?_)
    · refine me0 (pc' := 21) (S' := [ii 0]) dm_X11_isDigit_20 rfl rfl rfl rfl ?_
      refine y_ret (r := some (ii 0)) dm_X11_isDigit_21 rfl rfl rfl ?_
      exact ⟨congrArg some (zf (by omega)), rfl⟩
    · refine me0 (pc' := 17) (S' := [ii 1]) dm_X11_isDigit_16 rfl rfl rfl rfl ?_
      refine me2 (pc' := 21) (S' := [ii 1]) dm_X11_isDigit_17 rfl rfl rfl ?_
      refine y_ret (r := some (ii 1)) dm_X11_isDigit_21 rfl rfl rfl ?_
      exact ⟨congrArg some (zt (by omega)), rfl⟩
set_option maxRecDepth 20000 in
theorem pm_X11_isLetter : mj_mmof pg_ms 22 = some ((⟨"ArrayCalculator", "isLetter", "(I)Z"⟩, prog_1_method_20_code, 1, (Option.some Jvm.ClassFile.FieldType.boolean)), 11, false, mj_dec prog_1_method_20_code) := rfl
theorem dm_X11_isLetter_0 : mj_dec prog_1_method_20_code 0 = some (.iload_n 0, 1) := by decide +kernel
theorem dm_X11_isLetter_1 : mj_dec prog_1_method_20_code 1 = some (.bipush 97, 2) := by decide +kernel
theorem dm_X11_isLetter_3 : mj_dec prog_1_method_20_code 3 = some (.if_icmp .lt 13, 3) := by decide +kernel
theorem dm_X11_isLetter_6 : mj_dec prog_1_method_20_code 6 = some (.iload_n 0, 1) := by decide +kernel
theorem dm_X11_isLetter_7 : mj_dec prog_1_method_20_code 7 = some (.bipush 122, 2) := by decide +kernel
theorem dm_X11_isLetter_9 : mj_dec prog_1_method_20_code 9 = some (.if_icmp .gt 7, 3) := by decide +kernel
theorem dm_X11_isLetter_12 : mj_dec prog_1_method_20_code 12 = some (.iconst 1, 1) := by decide +kernel
theorem dm_X11_isLetter_13 : mj_dec prog_1_method_20_code 13 = some (.goto 4, 3) := by decide +kernel
theorem dm_X11_isLetter_16 : mj_dec prog_1_method_20_code 16 = some (.iconst 0, 1) := by decide +kernel
theorem dm_X11_isLetter_17 : mj_dec prog_1_method_20_code 17 = some (.ireturn, 1) := by decide +kernel
theorem a_isLetter {xt : mj_X} {d : Nat} {h : mj_H} {c : Int} (hd : 1 ≤ d) (hc : -2147483648 ≤ c ∧ c ≤ 2147483647) : pgP xt d 22 [ii c] h (zz (decide (97 ≤ c ∧ c ≤ 122))) := by
  refine x_enter pm_X11_isLetter (L0 := [(0, ii c)]) rfl (Nat.le_of_ble_eq_true rfl) (by omega) ?_
  refine me1 (pc' := 1) (L' := [(0, ii c)]) (S' := [ii c]) dm_X11_isLetter_0 rfl rfl rfl rfl ?_
  refine me0 (pc' := 3) (S' := [ii 97, ii c]) dm_X11_isLetter_1 rfl rfl rfl rfl ?_
  refine y_2lt (a := c) (b := 97) (t := 16) (pc' := 6) dm_X11_isLetter_3 rfl rfl (by omega) (fun hb1 => ?_) (fun hb1 => ?_)
  · refine me0 (pc' := 17) (S' := [ii 0]) dm_X11_isLetter_16 rfl rfl rfl rfl ?_
    refine y_ret (r := some (ii 0)) dm_X11_isLetter_17 rfl rfl rfl ?_
    exact ⟨congrArg some (zf (by omega)), rfl⟩
  · refine me1 (pc' := 7) (L' := [(0, ii c)]) (S' := [ii c]) dm_X11_isLetter_6 rfl rfl rfl rfl ?_
    refine me0 (pc' := 9) (S' := [ii 122, ii c]) dm_X11_isLetter_7 rfl rfl rfl rfl ?_
    refine y_2gt (a := c) (b := 122) (t := 16) (pc' := 12) dm_X11_isLetter_9 rfl rfl (by omega) (fun hb2 => ?_) (fun hb2 => ?_)
    · refine me0 (pc' := 17) (S' := [ii 0]) dm_X11_isLetter_16 rfl rfl rfl rfl ?_
      refine y_ret (r := some (ii 0)) dm_X11_isLetter_17 rfl rfl rfl ?_
      exact ⟨congrArg some (zf (by omega)), rfl⟩
    · refine me0 (pc' := 13) (S' := [ii 1]) dm_X11_isLetter_12 rfl rfl rfl rfl ?_
      refine me2 (pc' := 17) (S' := [ii 1]) dm_X11_isLetter_13 rfl rfl rfl ?_
      refine y_ret (r := some (ii 1)) dm_X11_isLetter_17 rfl rfl rfl ?_
      exact ⟨congrArg some (zt (by omega)), rfl⟩
set_option maxRecDepth 20000 in
theorem pm_X12_compares : mj_mmof pg_ms 277 = some ((⟨"ArrayCalculatorModel", "compares", "(I)Z"⟩, prog_14_method_49_code, 1, (Option.some Jvm.ClassFile.FieldType.boolean)), 12, false, mj_dec prog_14_method_49_code) := rfl
theorem dm_X12_compares_0 : mj_dec prog_14_method_49_code 0 = some (.iload_n 0, 1) := by decide +kernel
theorem dm_X12_compares_1 : mj_dec prog_14_method_49_code 1 = some (.bipush 60, 2) := by decide +kernel
theorem dm_X12_compares_3 : mj_dec prog_14_method_49_code 3 = some (.if_icmp .eq 15, 3) := by decide +kernel
theorem dm_X12_compares_6 : mj_dec prog_14_method_49_code 6 = some (.iload_n 0, 1) := by decide +kernel
theorem dm_X12_compares_7 : mj_dec prog_14_method_49_code 7 = some (.bipush 62, 2) := by decide +kernel
theorem dm_X12_compares_9 : mj_dec prog_14_method_49_code 9 = some (.if_icmp .eq 9, 3) := by decide +kernel
theorem dm_X12_compares_12 : mj_dec prog_14_method_49_code 12 = some (.iload_n 0, 1) := by decide +kernel
theorem dm_X12_compares_13 : mj_dec prog_14_method_49_code 13 = some (.bipush 61, 2) := by decide +kernel
theorem dm_X12_compares_15 : mj_dec prog_14_method_49_code 15 = some (.if_icmp .ne 7, 3) := by decide +kernel
theorem dm_X12_compares_18 : mj_dec prog_14_method_49_code 18 = some (.iconst 1, 1) := by decide +kernel
theorem dm_X12_compares_19 : mj_dec prog_14_method_49_code 19 = some (.goto 4, 3) := by decide +kernel
theorem dm_X12_compares_22 : mj_dec prog_14_method_49_code 22 = some (.iconst 0, 1) := by decide +kernel
theorem dm_X12_compares_23 : mj_dec prog_14_method_49_code 23 = some (.ireturn, 1) := by decide +kernel
theorem r_compares_ {xt : mj_X} {d : Nat} {h : mj_H} {c : Int} (hd : 1 ≤ d) (hc : -2147483648 ≤ c ∧ c ≤ 2147483647) : pgP xt d 277 [ii c] h (zz (decide (c = 60 ∨ c = 62 ∨ c = 61))) := by
  refine x_enter pm_X12_compares (L0 := [(0, ii c)]) rfl (Nat.le_of_ble_eq_true rfl) (by omega) ?_
  refine me1 (pc' := 1) (L' := [(0, ii c)]) (S' := [ii c]) dm_X12_compares_0 rfl rfl rfl rfl ?_
  refine me0 (pc' := 3) (S' := [ii 60, ii c]) dm_X12_compares_1 rfl rfl rfl rfl ?_
  refine y_2eq (a := c) (b := 60) (t := 18) (pc' := 6) dm_X12_compares_3 rfl rfl (by omega) (fun hb1 => ?_) (fun hb1 => ?_)
  · refine me0 (pc' := 19) (S' := [ii 1]) dm_X12_compares_18 rfl rfl rfl rfl ?_
    refine me2 (pc' := 23) (S' := [ii 1]) dm_X12_compares_19 rfl rfl rfl ?_
    refine y_ret (r := some (ii 1)) dm_X12_compares_23 rfl rfl rfl ?_
    exact ⟨congrArg some (zt (by omega)), rfl⟩
  · refine me1 (pc' := 7) (L' := [(0, ii c)]) (S' := [ii c]) dm_X12_compares_6 rfl rfl rfl rfl ?_
    refine me0 (pc' := 9) (S' := [ii 62, ii c]) dm_X12_compares_7 rfl rfl rfl rfl ?_
    refine y_2eq (a := c) (b := 62) (t := 18) (pc' := 12) dm_X12_compares_9 rfl rfl (by omega) (fun hb2 => ?_) (fun hb2 => ?_)
    · refine me0 (pc' := 19) (S' := [ii 1]) dm_X12_compares_18 rfl rfl rfl rfl ?_
      refine me2 (pc' := 23) (S' := [ii 1]) dm_X12_compares_19 rfl rfl rfl ?_
      refine y_ret (r := some (ii 1)) dm_X12_compares_23 rfl rfl rfl ?_
      exact ⟨congrArg some (zt (by omega)), rfl⟩
    · refine me1 (pc' := 13) (L' := [(0, ii c)]) (S' := [ii c]) dm_X12_compares_12 rfl rfl rfl rfl ?_
      refine me0 (pc' := 15) (S' := [ii 61, ii c]) dm_X12_compares_13 rfl rfl rfl rfl ?_
      refine y_2ne (a := c) (b := 61) (t := 22) (pc' := 18) dm_X12_compares_15 rfl rfl (by omega) (fun hb3 => ?_) (fun hb3 => ?_)
      · refine me0 (pc' := 23) (S' := [ii 0]) dm_X12_compares_22 rfl rfl rfl rfl ?_
        refine y_ret (r := some (ii 0)) dm_X12_compares_23 rfl rfl rfl ?_
        exact ⟨congrArg some (zf (by omega)), rfl⟩
      · refine me0 (pc' := 19) (S' := [ii 1]) dm_X12_compares_18 rfl rfl rfl rfl ?_
        refine me2 (pc' := 23) (S' := [ii 1]) dm_X12_compares_19 rfl rfl rfl ?_
        refine y_ret (r := some (ii 1)) dm_X12_compares_23 rfl rfl rfl ?_
        exact ⟨congrArg some (zt (by omega)), rfl⟩
set_option maxRecDepth 20000 in
theorem pm_X12_isVerbed : mj_mmof pg_ms 218 = some ((⟨"ArrayCalculatorModel", "isVerbed", "(I)Z"⟩, prog_14_method_78_code, 2, (Option.some Jvm.ClassFile.FieldType.boolean)), 12, false, mj_dec prog_14_method_78_code) := rfl
theorem dm_X12_isVerbed_0 : mj_dec prog_14_method_78_code 0 = some (.aload_n 0, 1) := by decide +kernel
theorem dm_X12_isVerbed_1 : mj_dec prog_14_method_78_code 1 = some (.getfield 380, 3) := by decide +kernel
theorem dm_X12_isVerbed_4 : mj_dec prog_14_method_78_code 4 = some (.iconst 5, 1) := by decide +kernel
theorem dm_X12_isVerbed_5 : mj_dec prog_14_method_78_code 5 = some (.if_icmp .ne 15, 3) := by decide +kernel
theorem dm_X12_isVerbed_8 : mj_dec prog_14_method_78_code 8 = some (.aload_n 0, 1) := by decide +kernel
theorem dm_X12_isVerbed_9 : mj_dec prog_14_method_78_code 9 = some (.getfield 414, 3) := by decide +kernel
theorem dm_X12_isVerbed_12 : mj_dec prog_14_method_78_code 12 = some (.iload_n 1, 1) := by decide +kernel
theorem dm_X12_isVerbed_13 : mj_dec prog_14_method_78_code 13 = some (.if_icmp .ne 7, 3) := by decide +kernel
theorem dm_X12_isVerbed_16 : mj_dec prog_14_method_78_code 16 = some (.iconst 1, 1) := by decide +kernel
theorem dm_X12_isVerbed_17 : mj_dec prog_14_method_78_code 17 = some (.goto 4, 3) := by decide +kernel
theorem dm_X12_isVerbed_20 : mj_dec prog_14_method_78_code 20 = some (.iconst 0, 1) := by decide +kernel
theorem dm_X12_isVerbed_21 : mj_dec prog_14_method_78_code 21 = some (.ireturn, 1) := by decide +kernel
theorem r_isVerbed_ {xt : mj_X} {d : Nat} {pre post : mj_H} {s : RS} (hm : pre.length = 102) (hd : 1 ≤ d) {c : Int} (hc : -2147483648 ≤ c ∧ c ≤ 2147483647) (h38 : -2147483648 ≤ s.1 38 ∧ s.1 38 ≤ 2147483647) (h40 : -2147483648 ≤ s.1 40 ∧ s.1 40 ≤ 2147483647) : pgP xt d 218 [.ref 102, ii c] (rS pre post s) (zz (decide (s.1 38 = 5 ∧ s.1 40 = c))) := by
  refine x_enter pm_X12_isVerbed (L0 := [(0, .ref 102), (1, ii c)]) rfl (Nat.le_of_ble_eq_true rfl) (by omega) ?_
  refine me1 (pc' := 1) (L' := [(0, .ref 102), (1, ii c)]) (S' := [.ref 102]) dm_X12_isVerbed_0 rfl rfl rfl rfl ?_
  refine me3 (pc' := 4) (S' := [ii (s.1 38)]) dm_X12_isVerbed_1 (q_geti (v := s.1 38) hm rfl (fun m i l => rg_38 m i l) rfl) rfl rfl rfl ?_
  refine me0 (pc' := 5) (S' := [ii 5, ii (s.1 38)]) dm_X12_isVerbed_4 rfl rfl rfl rfl ?_
  refine y_2ne (a := s.1 38) (b := 5) (t := 20) (pc' := 8) dm_X12_isVerbed_5 rfl rfl (by omega) (fun hb1 => ?_) (fun hb1 => ?_)
  · refine me0 (pc' := 21) (S' := [ii 0]) dm_X12_isVerbed_20 rfl rfl rfl rfl ?_
    refine y_ret (r := some (ii 0)) dm_X12_isVerbed_21 rfl rfl rfl ?_
    exact ⟨congrArg some (zf (by omega)), rfl⟩
  · refine me1 (pc' := 9) (L' := [(0, .ref 102), (1, ii c)]) (S' := [.ref 102]) dm_X12_isVerbed_8 rfl rfl rfl rfl ?_
    refine me3 (pc' := 12) (S' := [ii (s.1 40)]) dm_X12_isVerbed_9 (q_geti (v := s.1 40) hm rfl (fun m i l => rg_40 m i l) rfl) rfl rfl rfl ?_
    refine me1 (pc' := 13) (L' := [(0, .ref 102), (1, ii c)]) (S' := [ii c, ii (s.1 40)]) dm_X12_isVerbed_12 rfl rfl rfl rfl ?_
    refine y_2ne (a := s.1 40) (b := c) (t := 20) (pc' := 16) dm_X12_isVerbed_13 rfl rfl (by omega) (fun hb2 => ?_) (fun hb2 => ?_)
    · refine me0 (pc' := 21) (S' := [ii 0]) dm_X12_isVerbed_20 rfl rfl rfl rfl ?_
      refine y_ret (r := some (ii 0)) dm_X12_isVerbed_21 rfl rfl rfl ?_
      exact ⟨congrArg some (zf (by omega)), rfl⟩
    · refine me0 (pc' := 17) (S' := [ii 1]) dm_X12_isVerbed_16 rfl rfl rfl rfl ?_
      refine me2 (pc' := 21) (S' := [ii 1]) dm_X12_isVerbed_17 rfl rfl rfl ?_
      refine y_ret (r := some (ii 1)) dm_X12_isVerbed_21 rfl rfl rfl ?_
      exact ⟨congrArg some (zt (by omega)), rfl⟩
set_option maxRecDepth 20000 in
theorem pm_X12_isMarked : mj_mmof pg_ms 216 = some ((⟨"ArrayCalculatorModel", "isMarked", "(I)Z"⟩, prog_14_method_77_code, 2, (Option.some Jvm.ClassFile.FieldType.boolean)), 12, false, mj_dec prog_14_method_77_code) := rfl
theorem dm_X12_isMarked_0 : mj_dec prog_14_method_77_code 0 = some (.aload_n 0, 1) := by decide +kernel
theorem dm_X12_isMarked_1 : mj_dec prog_14_method_77_code 1 = some (.getfield 380, 3) := by decide +kernel
theorem dm_X12_isMarked_4 : mj_dec prog_14_method_77_code 4 = some (.bipush 7, 2) := by decide +kernel
theorem dm_X12_isMarked_6 : mj_dec prog_14_method_77_code 6 = some (.if_icmp .ne 15, 3) := by decide +kernel
theorem dm_X12_isMarked_9 : mj_dec prog_14_method_77_code 9 = some (.aload_n 0, 1) := by decide +kernel
theorem dm_X12_isMarked_10 : mj_dec prog_14_method_77_code 10 = some (.getfield 414, 3) := by decide +kernel
theorem dm_X12_isMarked_13 : mj_dec prog_14_method_77_code 13 = some (.iload_n 1, 1) := by decide +kernel
theorem dm_X12_isMarked_14 : mj_dec prog_14_method_77_code 14 = some (.if_icmp .ne 7, 3) := by decide +kernel
theorem dm_X12_isMarked_17 : mj_dec prog_14_method_77_code 17 = some (.iconst 1, 1) := by decide +kernel
theorem dm_X12_isMarked_18 : mj_dec prog_14_method_77_code 18 = some (.goto 4, 3) := by decide +kernel
theorem dm_X12_isMarked_21 : mj_dec prog_14_method_77_code 21 = some (.iconst 0, 1) := by decide +kernel
theorem dm_X12_isMarked_22 : mj_dec prog_14_method_77_code 22 = some (.ireturn, 1) := by decide +kernel
theorem r_isMarked_ {xt : mj_X} {d : Nat} {pre post : mj_H} {s : RS} (hm : pre.length = 102) (hd : 1 ≤ d) {c : Int} (hc : -2147483648 ≤ c ∧ c ≤ 2147483647) (h38 : -2147483648 ≤ s.1 38 ∧ s.1 38 ≤ 2147483647) (h40 : -2147483648 ≤ s.1 40 ∧ s.1 40 ≤ 2147483647) : pgP xt d 216 [.ref 102, ii c] (rS pre post s) (zz (decide (s.1 38 = 7 ∧ s.1 40 = c))) := by
  refine x_enter pm_X12_isMarked (L0 := [(0, .ref 102), (1, ii c)]) rfl (Nat.le_of_ble_eq_true rfl) (by omega) ?_
  refine me1 (pc' := 1) (L' := [(0, .ref 102), (1, ii c)]) (S' := [.ref 102]) dm_X12_isMarked_0 rfl rfl rfl rfl ?_
  refine me3 (pc' := 4) (S' := [ii (s.1 38)]) dm_X12_isMarked_1 (q_geti (v := s.1 38) hm rfl (fun m i l => rg_38 m i l) rfl) rfl rfl rfl ?_
  refine me0 (pc' := 6) (S' := [ii 7, ii (s.1 38)]) dm_X12_isMarked_4 rfl rfl rfl rfl ?_
  refine y_2ne (a := s.1 38) (b := 7) (t := 21) (pc' := 9) dm_X12_isMarked_6 rfl rfl (by omega) (fun hb1 => ?_) (fun hb1 => ?_)
  · refine me0 (pc' := 22) (S' := [ii 0]) dm_X12_isMarked_21 rfl rfl rfl rfl ?_
    refine y_ret (r := some (ii 0)) dm_X12_isMarked_22 rfl rfl rfl ?_
    exact ⟨congrArg some (zf (by omega)), rfl⟩
  · refine me1 (pc' := 10) (L' := [(0, .ref 102), (1, ii c)]) (S' := [.ref 102]) dm_X12_isMarked_9 rfl rfl rfl rfl ?_
    refine me3 (pc' := 13) (S' := [ii (s.1 40)]) dm_X12_isMarked_10 (q_geti (v := s.1 40) hm rfl (fun m i l => rg_40 m i l) rfl) rfl rfl rfl ?_
    refine me1 (pc' := 14) (L' := [(0, .ref 102), (1, ii c)]) (S' := [ii c, ii (s.1 40)]) dm_X12_isMarked_13 rfl rfl rfl rfl ?_
    refine y_2ne (a := s.1 40) (b := c) (t := 21) (pc' := 17) dm_X12_isMarked_14 rfl rfl (by omega) (fun hb2 => ?_) (fun hb2 => ?_)
    · refine me0 (pc' := 22) (S' := [ii 0]) dm_X12_isMarked_21 rfl rfl rfl rfl ?_
      refine y_ret (r := some (ii 0)) dm_X12_isMarked_22 rfl rfl rfl ?_
      exact ⟨congrArg some (zf (by omega)), rfl⟩
    · refine me0 (pc' := 18) (S' := [ii 1]) dm_X12_isMarked_17 rfl rfl rfl rfl ?_
      refine me2 (pc' := 22) (S' := [ii 1]) dm_X12_isMarked_18 rfl rfl rfl ?_
      refine y_ret (r := some (ii 1)) dm_X12_isMarked_22 rfl rfl rfl ?_
      exact ⟨congrArg some (zt (by omega)), rfl⟩
/-- the line is no LINE: told once, at the first place -/
def wrgS (s : RS) : RS := if s.1 52 < 0 then (va_up s.1 52 (s.1 39), s.2) else s
set_option maxRecDepth 20000 in
theorem pm_X12_wrong : mj_mmof pg_ms 219 = some ((⟨"ArrayCalculatorModel", "wrong", "()I"⟩, prog_14_method_80_code, 1, (Option.some Jvm.ClassFile.FieldType.int)), 12, false, mj_dec prog_14_method_80_code) := rfl
theorem dm_X12_wrong_0 : mj_dec prog_14_method_80_code 0 = some (.aload_n 0, 1) := by decide +kernel
theorem dm_X12_wrong_1 : mj_dec prog_14_method_80_code 1 = some (.getfield 427, 3) := by decide +kernel
theorem dm_X12_wrong_4 : mj_dec prog_14_method_80_code 4 = some (.ifCond .ge 11, 3) := by decide +kernel
theorem dm_X12_wrong_7 : mj_dec prog_14_method_80_code 7 = some (.aload_n 0, 1) := by decide +kernel
theorem dm_X12_wrong_8 : mj_dec prog_14_method_80_code 8 = some (.aload_n 0, 1) := by decide +kernel
theorem dm_X12_wrong_9 : mj_dec prog_14_method_80_code 9 = some (.getfield 386, 3) := by decide +kernel
theorem dm_X12_wrong_12 : mj_dec prog_14_method_80_code 12 = some (.putfield 427, 3) := by decide +kernel
theorem dm_X12_wrong_15 : mj_dec prog_14_method_80_code 15 = some (.iconst (-1), 1) := by decide +kernel
theorem dm_X12_wrong_16 : mj_dec prog_14_method_80_code 16 = some (.ireturn, 1) := by decide +kernel
theorem r_wrong_ {xt : mj_X} {d : Nat} {pre post : mj_H} {s : RS} (hm : pre.length = 102) (hd : 1 ≤ d) (h52 : -2147483648 ≤ s.1 52 ∧ s.1 52 ≤ 2147483647) : pgV xt d 219 [.ref 102] (rS pre post s) (fun x h' => x = ii (-1) ∧ h' = rS pre post (wrgS s)) := by
  refine x_enter pm_X12_wrong (L0 := [(0, .ref 102)]) rfl (Nat.le_of_ble_eq_true rfl) (by omega) ?_
  refine me1 (pc' := 1) (L' := [(0, .ref 102)]) (S' := [.ref 102]) dm_X12_wrong_0 rfl rfl rfl rfl ?_
  refine me3 (pc' := 4) (S' := [ii (s.1 52)]) dm_X12_wrong_1 (q_geti (v := s.1 52) hm rfl (fun m i l => rg_52 m i l) rfl) rfl rfl rfl ?_
  refine y_1ge (a := s.1 52) (t := 15) (pc' := 7) dm_X12_wrong_4 rfl rfl (by omega) (fun hb1 => ?_) (fun hb1 => ?_)
  · refine me0 (pc' := 16) (S' := [ii (-1)]) dm_X12_wrong_15 rfl rfl rfl rfl ?_
    refine y_ret (r := some (ii (-1))) dm_X12_wrong_16 rfl rfl rfl ?_
    refine ⟨_, rfl, rfl, ?_⟩
    unfold wrgS
    first | rw [if_neg (by omega)] | rw [if_pos (by omega)]
  · refine me1 (pc' := 8) (L' := [(0, .ref 102)]) (S' := [.ref 102]) dm_X12_wrong_7 rfl rfl rfl rfl ?_
    refine me1 (pc' := 9) (L' := [(0, .ref 102)]) (S' := [.ref 102, .ref 102]) dm_X12_wrong_8 rfl rfl rfl rfl ?_
    refine me3 (pc' := 12) (S' := [ii (s.1 39), .ref 102]) dm_X12_wrong_9 (q_geti (v := s.1 39) hm rfl (fun m i l => rg_39 m i l) rfl) rfl rfl rfl ?_
    refine me3 (pc' := 15) (S' := []) (h1 := rI pre post (va_up s.1 52 (s.1 39)) s.2.1 s.2.2.1 s.2.2.2) dm_X12_wrong_12 (q_puti hm rfl rfl (fun m i l v => rf_52 m i l v)) rfl rfl rfl ?_
    refine me0 (pc' := 16) (S' := [ii (-1)]) dm_X12_wrong_15 rfl rfl rfl rfl ?_
    refine y_ret (r := some (ii (-1))) dm_X12_wrong_16 rfl rfl rfl ?_
    refine ⟨_, rfl, rfl, ?_⟩
    unfold wrgS
    first | rw [if_neg (by omega)] | rw [if_pos (by omega)]
set_option maxRecDepth 20000 in
theorem pm_X12_isKnown : mj_mmof pg_ms 235 = some ((⟨"ArrayCalculatorModel", "isKnown", "(J)Z"⟩, prog_14_method_96_code, 3, (Option.some Jvm.ClassFile.FieldType.boolean)), 12, false, mj_dec prog_14_method_96_code) := rfl
theorem dm_X12_isKnown_0 : mj_dec prog_14_method_96_code 0 = some (.aload_n 0, 1) := by decide +kernel
theorem dm_X12_isKnown_1 : mj_dec prog_14_method_96_code 1 = some (.lload_n 1, 1) := by decide +kernel
theorem dm_X12_isKnown_2 : mj_dec prog_14_method_96_code 2 = some (.invokevirtual 367, 3) := by decide +kernel
theorem dm_X12_isKnown_5 : mj_dec prog_14_method_96_code 5 = some (.ifCond .ge 11, 3) := by decide +kernel
theorem dm_X12_isKnown_8 : mj_dec prog_14_method_96_code 8 = some (.aload_n 0, 1) := by decide +kernel
theorem dm_X12_isKnown_9 : mj_dec prog_14_method_96_code 9 = some (.lload_n 1, 1) := by decide +kernel
theorem dm_X12_isKnown_10 : mj_dec prog_14_method_96_code 10 = some (.invokevirtual 363, 3) := by decide +kernel
theorem dm_X12_isKnown_13 : mj_dec prog_14_method_96_code 13 = some (.ifCond .lt 7, 3) := by decide +kernel
theorem dm_X12_isKnown_16 : mj_dec prog_14_method_96_code 16 = some (.iconst 1, 1) := by decide +kernel
theorem dm_X12_isKnown_17 : mj_dec prog_14_method_96_code 17 = some (.goto 4, 3) := by decide +kernel
theorem dm_X12_isKnown_20 : mj_dec prog_14_method_96_code 20 = some (.iconst 0, 1) := by decide +kernel
theorem dm_X12_isKnown_21 : mj_dec prog_14_method_96_code 21 = some (.ireturn, 1) := by decide +kernel
theorem r_isKnown_ {xt : mj_X} {d n m : Nat} {pre post : mj_H} {s : RS} {key : Int64} (hm : pre.length = 102) (hd1 : 2 ≤ d) (hvn : s.1 23 = (n : Int)) (hfn : s.1 24 = (m : Int)) (hn : n ≤ 40) (hm2 : m ≤ 40) : pgP xt d 235 [.ref 102, .long key] (rS pre post s) (zz (decide (0 ≤ (fndR (s.2.2.2 19) n key) ∨ 0 ≤ (fndR (s.2.2.2 20) m key)))) := by
  have hc1 := fndR_c (s.2.2.2 19) n key
  have hc2 := fndR_c (s.2.2.2 20) m key
  refine x_enter pm_X12_isKnown (L0 := [(0, .ref 102), (1, .long key)]) rfl (Nat.le_of_ble_eq_true rfl) (by omega) ?_
  refine me1 (pc' := 1) (L' := [(0, .ref 102), (1, .long key)]) (S' := [.ref 102]) dm_X12_isKnown_0 rfl rfl rfl rfl ?_
  refine me1 (pc' := 2) (L' := [(0, .ref 102), (1, .long key)]) (S' := [.long key, .ref 102]) dm_X12_isKnown_1 rfl rfl rfl rfl ?_
  refine x_cp (pc' := 5) (v := ii (fndR (s.2.2.2 19) n key)) (rest := []) dm_X12_isKnown_2 rfl (q_inv (As := [.long key]) (S := []) hm rfl rfl rfl) rfl rfl rfl (r_valueNamed_ hm (by omega) hvn hfn hn hm2) ?_
  refine y_1ge (a := fndR (s.2.2.2 19) n key) (t := 16) (pc' := 8) dm_X12_isKnown_5 rfl rfl (by omega) (fun hb1 => ?_) (fun hb1 => ?_)
  · refine me0 (pc' := 17) (S' := [ii 1]) dm_X12_isKnown_16 rfl rfl rfl rfl ?_
    refine me2 (pc' := 21) (S' := [ii 1]) dm_X12_isKnown_17 rfl rfl rfl ?_
    refine y_ret (r := some (ii 1)) dm_X12_isKnown_21 rfl rfl rfl ?_
    exact ⟨congrArg some (zt (by omega)), rfl⟩
  · refine me1 (pc' := 9) (L' := [(0, .ref 102), (1, .long key)]) (S' := [.ref 102]) dm_X12_isKnown_8 rfl rfl rfl rfl ?_
    refine me1 (pc' := 10) (L' := [(0, .ref 102), (1, .long key)]) (S' := [.long key, .ref 102]) dm_X12_isKnown_9 rfl rfl rfl rfl ?_
    refine x_cp (pc' := 13) (v := ii (fndR (s.2.2.2 20) m key)) (rest := []) dm_X12_isKnown_10 rfl (q_inv (As := [.long key]) (S := []) hm rfl rfl rfl) rfl rfl rfl (r_functionNamed_ hm (by omega) hvn hfn hn hm2) ?_
    refine y_1lt (a := fndR (s.2.2.2 20) m key) (t := 20) (pc' := 16) dm_X12_isKnown_13 rfl rfl (by omega) (fun hb2 => ?_) (fun hb2 => ?_)
    · refine me0 (pc' := 21) (S' := [ii 0]) dm_X12_isKnown_20 rfl rfl rfl rfl ?_
      refine y_ret (r := some (ii 0)) dm_X12_isKnown_21 rfl rfl rfl ?_
      exact ⟨congrArg some (zf (by omega)), rfl⟩
    · refine me0 (pc' := 17) (S' := [ii 1]) dm_X12_isKnown_16 rfl rfl rfl rfl ?_
      refine me2 (pc' := 21) (S' := [ii 1]) dm_X12_isKnown_17 rfl rfl rfl ?_
      refine y_ret (r := some (ii 1)) dm_X12_isKnown_21 rfl rfl rfl ?_
      exact ⟨congrArg some (zt (by omega)), rfl⟩
