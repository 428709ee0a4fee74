set_option maxRecDepth 20000 in
theorem pm_X10_isOne : mj_mmof pg_ms 75 = some ((⟨"ArrayCalculator$Value", "isOne", "()Z"⟩, prog_12_method_15_code, 1, (Option.some Jvm.ClassFile.FieldType.boolean)), 10, false, mj_dec prog_12_method_15_code) := rfl
theorem dm_X10_isOne_0 : mj_dec prog_12_method_15_code 0 = some (.aload_n 0, 1) := by decide +kernel
theorem dm_X10_isOne_1 : mj_dec prog_12_method_15_code 1 = some (.getfield 9, 3) := by decide +kernel
theorem dm_X10_isOne_4 : mj_dec prog_12_method_15_code 4 = some (.ifCond .eq 11, 3) := by decide +kernel
theorem dm_X10_isOne_7 : mj_dec prog_12_method_15_code 7 = some (.aload_n 0, 1) := by decide +kernel
theorem dm_X10_isOne_8 : mj_dec prog_12_method_15_code 8 = some (.getfield 9, 3) := by decide +kernel
theorem dm_X10_isOne_11 : mj_dec prog_12_method_15_code 11 = some (.iconst 1, 1) := by decide +kernel
theorem dm_X10_isOne_12 : mj_dec prog_12_method_15_code 12 = some (.if_icmp .ne 7, 3) := by decide +kernel
theorem dm_X10_isOne_15 : mj_dec prog_12_method_15_code 15 = some (.iconst 1, 1) := by decide +kernel
theorem dm_X10_isOne_16 : mj_dec prog_12_method_15_code 16 = some (.goto 4, 3) := by decide +kernel
theorem dm_X10_isOne_19 : mj_dec prog_12_method_15_code 19 = some (.iconst 0, 1) := by decide +kernel
theorem dm_X10_isOne_20 : mj_dec prog_12_method_15_code 20 = some (.ireturn, 1) := by decide +kernel
theorem c_isOne {xt : mj_X} {d e p : Nat} {h : mj_H} {v : VV}  (hd : 1 ≤ d) (hv : cv h (e + 1) p v)  : pgP xt d 75 [.ref p] h (zz (decide (vk v ≤ 1))) := by
  obtain ⟨hw, hp2, hsz, hlv, row, fr, vals, hp, hfr, h1, h3, h7⟩ := hv
  have hm := vw1_m hw
  refine x_enter pm_X10_isOne (L0 := [(0, .ref p)]) rfl (Nat.le_of_ble_eq_true rfl) (by omega) ?_
  refine me1 (pc' := 1) (L' := [(0, .ref p)]) (S' := [.ref p]) dm_X10_isOne_0 rfl rfl rfl rfl ?_
  refine me3 (pc' := 4) (S' := [ii (vk v : Int)]) dm_X10_isOne_1 (g_get (v := ii (vk v : Int)) hp rfl rfl (by omega)) rfl rfl rfl ?_
  refine y_1eq (a := (vk v : Int)) (t := 15) (pc' := 7) dm_X10_isOne_4 rfl rfl (by omega) (fun hb1 => ?_) (fun hb1 => ?_)
  · refine me0 (pc' := 16) (S' := [ii 1]) dm_X10_isOne_15 rfl rfl rfl rfl ?_
    refine me2 (pc' := 20) (S' := [ii 1]) dm_X10_isOne_16 rfl rfl rfl ?_
    refine y_ret (r := some (ii 1)) dm_X10_isOne_20 rfl rfl rfl ?_
    exact ⟨congrArg some (zt (by omega)), rfl⟩
  · refine me1 (pc' := 8) (L' := [(0, .ref p)]) (S' := [.ref p]) dm_X10_isOne_7 rfl rfl rfl rfl ?_
    refine me3 (pc' := 11) (S' := [ii (vk v : Int)]) dm_X10_isOne_8 (g_get (v := ii (vk v : Int)) hp rfl rfl (by omega)) rfl rfl rfl ?_
    refine me0 (pc' := 12) (S' := [ii 1, ii (vk v : Int)]) dm_X10_isOne_11 rfl rfl rfl rfl ?_
    refine y_2ne (a := (vk v : Int)) (b := 1) (t := 19) (pc' := 15) dm_X10_isOne_12 rfl rfl (by omega) (fun hb2 => ?_) (fun hb2 => ?_)
    · refine me0 (pc' := 20) (S' := [ii 0]) dm_X10_isOne_19 rfl rfl rfl rfl ?_
      refine y_ret (r := some (ii 0)) dm_X10_isOne_20 rfl rfl rfl ?_
      exact ⟨congrArg some (zf (by omega)), rfl⟩
    · refine me0 (pc' := 16) (S' := [ii 1]) dm_X10_isOne_15 rfl rfl rfl rfl ?_
      refine me2 (pc' := 20) (S' := [ii 1]) dm_X10_isOne_16 rfl rfl rfl ?_
      refine y_ret (r := some (ii 1)) dm_X10_isOne_20 rfl rfl rfl ?_
      exact ⟨congrArg some (zt (by omega)), rfl⟩
set_option maxRecDepth 20000 in
theorem pm_X10_isRow : mj_mmof pg_ms 90 = some ((⟨"ArrayCalculator$Value", "isRow", "()Z"⟩, prog_12_method_16_code, 1, (Option.some Jvm.ClassFile.FieldType.boolean)), 10, false, mj_dec prog_12_method_16_code) := rfl
theorem dm_X10_isRow_0 : mj_dec prog_12_method_16_code 0 = some (.aload_n 0, 1) := by decide +kernel
theorem dm_X10_isRow_1 : mj_dec prog_12_method_16_code 1 = some (.getfield 9, 3) := by decide +kernel
theorem dm_X10_isRow_4 : mj_dec prog_12_method_16_code 4 = some (.iconst 2, 1) := by decide +kernel
theorem dm_X10_isRow_5 : mj_dec prog_12_method_16_code 5 = some (.if_icmp .lt 15, 3) := by decide +kernel
theorem dm_X10_isRow_8 : mj_dec prog_12_method_16_code 8 = some (.aload_n 0, 1) := by decide +kernel
theorem dm_X10_isRow_9 : mj_dec prog_12_method_16_code 9 = some (.getfield 9, 3) := by decide +kernel
theorem dm_X10_isRow_12 : mj_dec prog_12_method_16_code 12 = some (.iconst 5, 1) := by decide +kernel
theorem dm_X10_isRow_13 : mj_dec prog_12_method_16_code 13 = some (.if_icmp .gt 7, 3) := by decide +kernel
theorem dm_X10_isRow_16 : mj_dec prog_12_method_16_code 16 = some (.iconst 1, 1) := by decide +kernel
theorem dm_X10_isRow_17 : mj_dec prog_12_method_16_code 17 = some (.goto 4, 3) := by decide +kernel
theorem dm_X10_isRow_20 : mj_dec prog_12_method_16_code 20 = some (.iconst 0, 1) := by decide +kernel
theorem dm_X10_isRow_21 : mj_dec prog_12_method_16_code 21 = some (.ireturn, 1) := by decide +kernel
theorem c_isRow {xt : mj_X} {d e p : Nat} {h : mj_H} {v : VV}  (hd : 1 ≤ d) (hv : cv h (e + 1) p v)  : pgP xt d 90 [.ref p] h (zz (decide (2 ≤ vk v ∧ vk v ≤ 5))) := by
  obtain ⟨hw, hp2, hsz, hlv, row, fr, vals, hp, hfr, h1, h3, h7⟩ := hv
  have hm := vw1_m hw
  refine x_enter pm_X10_isRow (L0 := [(0, .ref p)]) rfl (Nat.le_of_ble_eq_true rfl) (by omega) ?_
  refine me1 (pc' := 1) (L' := [(0, .ref p)]) (S' := [.ref p]) dm_X10_isRow_0 rfl rfl rfl rfl ?_
  refine me3 (pc' := 4) (S' := [ii (vk v : Int)]) dm_X10_isRow_1 (g_get (v := ii (vk v : Int)) hp rfl rfl (by omega)) rfl rfl rfl ?_
  refine me0 (pc' := 5) (S' := [ii 2, ii (vk v : Int)]) dm_X10_isRow_4 rfl rfl rfl rfl ?_
  refine y_2lt (a := (vk v : Int)) (b := 2) (t := 20) (pc' := 8) dm_X10_isRow_5 rfl rfl (by omega) (fun hb1 => ?_) (fun hb1 => ?_)
  · refine me0 (pc' := 21) (S' := [ii 0]) dm_X10_isRow_20 rfl rfl rfl rfl ?_
    refine y_ret (r := some (ii 0)) dm_X10_isRow_21 rfl rfl rfl ?_
    exact ⟨congrArg some (zf (by omega)), rfl⟩
  · refine me1 (pc' := 9) (L' := [(0, .ref p)]) (S' := [.ref p]) dm_X10_isRow_8 rfl rfl rfl rfl ?_
    refine me3 (pc' := 12) (S' := [ii (vk v : Int)]) dm_X10_isRow_9 (g_get (v := ii (vk v : Int)) hp rfl rfl (by omega)) rfl rfl rfl ?_
    refine me0 (pc' := 13) (S' := [ii 5, ii (vk v : Int)]) dm_X10_isRow_12 rfl rfl rfl rfl ?_
    refine y_2gt (a := (vk v : Int)) (b := 5) (t := 20) (pc' := 16) dm_X10_isRow_13 rfl rfl (by omega) (fun hb2 => ?_) (fun hb2 => ?_)
    · refine me0 (pc' := 21) (S' := [ii 0]) dm_X10_isRow_20 rfl rfl rfl rfl ?_
      refine y_ret (r := some (ii 0)) dm_X10_isRow_21 rfl rfl rfl ?_
      exact ⟨congrArg some (zf (by omega)), rfl⟩
    · refine me0 (pc' := 17) (S' := [ii 1]) dm_X10_isRow_16 rfl rfl rfl rfl ?_
      refine me2 (pc' := 21) (S' := [ii 1]) dm_X10_isRow_17 rfl rfl rfl ?_
      refine y_ret (r := some (ii 1)) dm_X10_isRow_21 rfl rfl rfl ?_
      exact ⟨congrArg some (zt (by omega)), rfl⟩
set_option maxRecDepth 20000 in
theorem pm_X10_ofSigns : mj_mmof pg_ms 92 = some ((⟨"ArrayCalculator$Value", "ofSigns", "()Z"⟩, prog_12_method_17_code, 1, (Option.some Jvm.ClassFile.FieldType.boolean)), 10, false, mj_dec prog_12_method_17_code) := rfl
theorem dm_X10_ofSigns_0 : mj_dec prog_12_method_17_code 0 = some (.aload_n 0, 1) := by decide +kernel
theorem dm_X10_ofSigns_1 : mj_dec prog_12_method_17_code 1 = some (.getfield 9, 3) := by decide +kernel
theorem dm_X10_ofSigns_4 : mj_dec prog_12_method_17_code 4 = some (.iconst 1, 1) := by decide +kernel
theorem dm_X10_ofSigns_5 : mj_dec prog_12_method_17_code 5 = some (.if_icmp .eq 11, 3) := by decide +kernel
theorem dm_X10_ofSigns_8 : mj_dec prog_12_method_17_code 8 = some (.aload_n 0, 1) := by decide +kernel
theorem dm_X10_ofSigns_9 : mj_dec prog_12_method_17_code 9 = some (.getfield 9, 3) := by decide +kernel
theorem dm_X10_ofSigns_12 : mj_dec prog_12_method_17_code 12 = some (.iconst 3, 1) := by decide +kernel
theorem dm_X10_ofSigns_13 : mj_dec prog_12_method_17_code 13 = some (.if_icmp .ne 7, 3) := by decide +kernel
theorem dm_X10_ofSigns_16 : mj_dec prog_12_method_17_code 16 = some (.iconst 1, 1) := by decide +kernel
theorem dm_X10_ofSigns_17 : mj_dec prog_12_method_17_code 17 = some (.goto 4, 3) := by decide +kernel
theorem dm_X10_ofSigns_20 : mj_dec prog_12_method_17_code 20 = some (.iconst 0, 1) := by decide +kernel
theorem dm_X10_ofSigns_21 : mj_dec prog_12_method_17_code 21 = some (.ireturn, 1) := by decide +kernel
theorem c_ofSigns {xt : mj_X} {d e p : Nat} {h : mj_H} {v : VV}  (hd : 1 ≤ d) (hv : cv h (e + 1) p v)  : pgP xt d 92 [.ref p] h (zz (decide (vk v = 1 ∨ vk v = 3))) := by
  obtain ⟨hw, hp2, hsz, hlv, row, fr, vals, hp, hfr, h1, h3, h7⟩ := hv
  have hm := vw1_m hw
  refine x_enter pm_X10_ofSigns (L0 := [(0, .ref p)]) rfl (Nat.le_of_ble_eq_true rfl) (by omega) ?_
  refine me1 (pc' := 1) (L' := [(0, .ref p)]) (S' := [.ref p]) dm_X10_ofSigns_0 rfl rfl rfl rfl ?_
  refine me3 (pc' := 4) (S' := [ii (vk v : Int)]) dm_X10_ofSigns_1 (g_get (v := ii (vk v : Int)) hp rfl rfl (by omega)) rfl rfl rfl ?_
  refine me0 (pc' := 5) (S' := [ii 1, ii (vk v : Int)]) dm_X10_ofSigns_4 rfl rfl rfl rfl ?_
  refine y_2eq (a := (vk v : Int)) (b := 1) (t := 16) (pc' := 8) dm_X10_ofSigns_5 rfl rfl (by omega) (fun hb1 => ?_) (fun hb1 => ?_)
  · refine me0 (pc' := 17) (S' := [ii 1]) dm_X10_ofSigns_16 rfl rfl rfl rfl ?_
    refine me2 (pc' := 21) (S' := [ii 1]) dm_X10_ofSigns_17 rfl rfl rfl ?_
    refine y_ret (r := some (ii 1)) dm_X10_ofSigns_21 rfl rfl rfl ?_
    exact ⟨congrArg some (zt (by omega)), rfl⟩
  · refine me1 (pc' := 9) (L' := [(0, .ref p)]) (S' := [.ref p]) dm_X10_ofSigns_8 rfl rfl rfl rfl ?_
    refine me3 (pc' := 12) (S' := [ii (vk v : Int)]) dm_X10_ofSigns_9 (g_get (v := ii (vk v : Int)) hp rfl rfl (by omega)) rfl rfl rfl ?_
    refine me0 (pc' := 13) (S' := [ii 3, ii (vk v : Int)]) dm_X10_ofSigns_12 rfl rfl rfl rfl ?_
    refine y_2ne (a := (vk v : Int)) (b := 3) (t := 20) (pc' := 16) dm_X10_ofSigns_13 rfl rfl (by omega) (fun hb2 => ?_) (fun hb2 => ?_)
    · refine me0 (pc' := 21) (S' := [ii 0]) dm_X10_ofSigns_20 rfl rfl rfl rfl ?_
      refine y_ret (r := some (ii 0)) dm_X10_ofSigns_21 rfl rfl rfl ?_
      exact ⟨congrArg some (zf (by omega)), rfl⟩
    · refine me0 (pc' := 17) (S' := [ii 1]) dm_X10_ofSigns_16 rfl rfl rfl rfl ?_
      refine me2 (pc' := 21) (S' := [ii 1]) dm_X10_ofSigns_17 rfl rfl rfl ?_
      refine y_ret (r := some (ii 1)) dm_X10_ofSigns_21 rfl rfl rfl ?_
      exact ⟨congrArg some (zt (by omega)), rfl⟩
set_option maxRecDepth 20000 in
theorem pm_X10_isFault : mj_mmof pg_ms 159 = some ((⟨"ArrayCalculator$Value", "isFault", "()Z"⟩, prog_12_method_19_code, 1, (Option.some Jvm.ClassFile.FieldType.boolean)), 10, false, mj_dec prog_12_method_19_code) := rfl
theorem dm_X10_isFault_0 : mj_dec prog_12_method_19_code 0 = some (.aload_n 0, 1) := by decide +kernel
theorem dm_X10_isFault_1 : mj_dec prog_12_method_19_code 1 = some (.getfield 9, 3) := by decide +kernel
theorem dm_X10_isFault_4 : mj_dec prog_12_method_19_code 4 = some (.bipush 8, 2) := by decide +kernel
theorem dm_X10_isFault_6 : mj_dec prog_12_method_19_code 6 = some (.if_icmp .ne 7, 3) := by decide +kernel
theorem dm_X10_isFault_9 : mj_dec prog_12_method_19_code 9 = some (.iconst 1, 1) := by decide +kernel
theorem dm_X10_isFault_10 : mj_dec prog_12_method_19_code 10 = some (.goto 4, 3) := by decide +kernel
theorem dm_X10_isFault_13 : mj_dec prog_12_method_19_code 13 = some (.iconst 0, 1) := by decide +kernel
theorem dm_X10_isFault_14 : mj_dec prog_12_method_19_code 14 = some (.ireturn, 1) := by decide +kernel
theorem c_isFault {xt : mj_X} {d e p : Nat} {h : mj_H} {v : VV}  (hd : 1 ≤ d) (hv : cv h (e + 1) p v)  : pgP xt d 159 [.ref p] h (zz (decide (vk v = 8))) := by
  obtain ⟨hw, hp2, hsz, hlv, row, fr, vals, hp, hfr, h1, h3, h7⟩ := hv
  have hm := vw1_m hw
  refine x_enter pm_X10_isFault (L0 := [(0, .ref p)]) rfl (Nat.le_of_ble_eq_true rfl) (by omega) ?_
  refine me1 (pc' := 1) (L' := [(0, .ref p)]) (S' := [.ref p]) dm_X10_isFault_0 rfl rfl rfl rfl ?_
  refine me3 (pc' := 4) (S' := [ii (vk v : Int)]) dm_X10_isFault_1 (g_get (v := ii (vk v : Int)) hp rfl rfl (by omega)) rfl rfl rfl ?_
  refine me0 (pc' := 6) (S' := [ii 8, ii (vk v : Int)]) dm_X10_isFault_4 rfl rfl rfl rfl ?_
  refine y_2ne (a := (vk v : Int)) (b := 8) (t := 13) (pc' := 9) dm_X10_isFault_6 rfl rfl (by omega) (fun hb1 => ?_) (fun hb1 => ?_)
  · refine me0 (pc' := 14) (S' := [ii 0]) dm_X10_isFault_13 rfl rfl rfl rfl ?_
    refine y_ret (r := some (ii 0)) dm_X10_isFault_14 rfl rfl rfl ?_
    exact ⟨congrArg some (zf (by omega)), rfl⟩
  · refine me0 (pc' := 10) (S' := [ii 1]) dm_X10_isFault_9 rfl rfl rfl rfl ?_
    refine me2 (pc' := 14) (S' := [ii 1]) dm_X10_isFault_10 rfl rfl rfl ?_
    refine y_ret (r := some (ii 1)) dm_X10_isFault_14 rfl rfl rfl ?_
    exact ⟨congrArg some (zt (by omega)), rfl⟩
set_option maxRecDepth 20000 in
theorem pm_X10_numberAt : mj_mmof pg_ms 78 = some ((⟨"ArrayCalculator$Value", "numberAt", "(I)J"⟩, prog_12_method_22_code, 2, (Option.some Jvm.ClassFile.FieldType.long)), 10, false, mj_dec prog_12_method_22_code) := rfl
theorem dm_X10_numberAt_0 : mj_dec prog_12_method_22_code 0 = some (.iload_n 1, 1) := by decide +kernel
theorem dm_X10_numberAt_1 : mj_dec prog_12_method_22_code 1 = some (.ifCond .lt 41, 3) := by decide +kernel
theorem dm_X10_numberAt_4 : mj_dec prog_12_method_22_code 4 = some (.iload_n 1, 1) := by decide +kernel
theorem dm_X10_numberAt_5 : mj_dec prog_12_method_22_code 5 = some (.aload_n 0, 1) := by decide +kernel
theorem dm_X10_numberAt_6 : mj_dec prog_12_method_22_code 6 = some (.getfield 36, 3) := by decide +kernel
theorem dm_X10_numberAt_9 : mj_dec prog_12_method_22_code 9 = some (.iconst 1, 1) := by decide +kernel
theorem dm_X10_numberAt_10 : mj_dec prog_12_method_22_code 10 = some (.isub, 1) := by decide +kernel
theorem dm_X10_numberAt_11 : mj_dec prog_12_method_22_code 11 = some (.if_icmp .ge 31, 3) := by decide +kernel
theorem dm_X10_numberAt_14 : mj_dec prog_12_method_22_code 14 = some (.aload_n 0, 1) := by decide +kernel
theorem dm_X10_numberAt_15 : mj_dec prog_12_method_22_code 15 = some (.getfield 27, 3) := by decide +kernel
theorem dm_X10_numberAt_18 : mj_dec prog_12_method_22_code 18 = some (.iload_n 1, 1) := by decide +kernel
theorem dm_X10_numberAt_19 : mj_dec prog_12_method_22_code 19 = some (.iadd, 1) := by decide +kernel
theorem dm_X10_numberAt_20 : mj_dec prog_12_method_22_code 20 = some (.aload_n 0, 1) := by decide +kernel
theorem dm_X10_numberAt_21 : mj_dec prog_12_method_22_code 21 = some (.getfield 19, 3) := by decide +kernel
theorem dm_X10_numberAt_24 : mj_dec prog_12_method_22_code 24 = some (.arraylength, 1) := by decide +kernel
theorem dm_X10_numberAt_25 : mj_dec prog_12_method_22_code 25 = some (.if_icmp .ge 17, 3) := by decide +kernel
theorem dm_X10_numberAt_28 : mj_dec prog_12_method_22_code 28 = some (.aload_n 0, 1) := by decide +kernel
theorem dm_X10_numberAt_29 : mj_dec prog_12_method_22_code 29 = some (.getfield 19, 3) := by decide +kernel
theorem dm_X10_numberAt_32 : mj_dec prog_12_method_22_code 32 = some (.aload_n 0, 1) := by decide +kernel
theorem dm_X10_numberAt_33 : mj_dec prog_12_method_22_code 33 = some (.getfield 27, 3) := by decide +kernel
theorem dm_X10_numberAt_36 : mj_dec prog_12_method_22_code 36 = some (.iload_n 1, 1) := by decide +kernel
theorem dm_X10_numberAt_37 : mj_dec prog_12_method_22_code 37 = some (.iadd, 1) := by decide +kernel
theorem dm_X10_numberAt_38 : mj_dec prog_12_method_22_code 38 = some (.laload, 1) := by decide +kernel
theorem dm_X10_numberAt_39 : mj_dec prog_12_method_22_code 39 = some (.goto 7, 3) := by decide +kernel
theorem dm_X10_numberAt_42 : mj_dec prog_12_method_22_code 42 = some (.aload_n 0, 1) := by decide +kernel
theorem dm_X10_numberAt_43 : mj_dec prog_12_method_22_code 43 = some (.getfield 15, 3) := by decide +kernel
theorem dm_X10_numberAt_46 : mj_dec prog_12_method_22_code 46 = some (.lreturn, 1) := by decide +kernel
theorem c_numberAt {xt : mj_X} {d e p : Nat} {h : mj_H} {v : VV} {i : Int} {f1 : Nat → Value} (hx1 : xt 1 = some (.long, 0, f1)) (hd : 1 ≤ d) (hv : cv h (e + 1) p v) (hi : -2147483648 ≤ i ∧ i ≤ 2147483647) : pgP xt d 78 [.ref p, ii i] h (.long (vnum v i)) := by
  have hw := hv.1
  have hsz := hv.2.2.1
  obtain ⟨row, fr, n, vals, f, hp, hp2, hfr, hn, hrow, hF, hN⟩ := cv_row hv
  have hm := vw1_m hw
  have hcase : (vk v ≤ 1 ∧ vsz (e + 1) v = 1) ∨ (2 ≤ vk v ∧ vk v ≤ 6 ∧ vsz (e + 1) v = 1 + vq v ∧ (0 < vq v → fr + vq v ≤ n)) ∨ (vk v = 7 ∧ n = 0 ∧ vq v = 0) := by
    by_cases a : vk v ≤ 1
    · exact Or.inl ⟨a, vsz_1 a⟩
    · by_cases b : vk v = 7
      · exact Or.inr (Or.inr ⟨b, hN b, vq_7 b⟩)
      · exact Or.inr (Or.inl ⟨by omega, by omega, vq_sz (by omega) (by omega), (hF (by omega) (by omega)).1⟩)
  refine x_enter pm_X10_numberAt (L0 := [(0, .ref p), (1, ii i)]) rfl (Nat.le_of_ble_eq_true rfl) (by omega) ?_
  refine me1 (pc' := 1) (L' := [(0, .ref p), (1, ii i)]) (S' := [ii i]) dm_X10_numberAt_0 rfl rfl rfl rfl ?_
  refine y_1lt (a := i) (t := 42) (pc' := 4) dm_X10_numberAt_1 rfl rfl (by omega) (fun hb1 => ?_) (fun hb1 => ?_)
  · refine me1 (pc' := 43) (L' := [(0, .ref p), (1, ii i)]) (S' := [.ref p]) dm_X10_numberAt_42 rfl rfl rfl rfl ?_
    refine me3 (pc' := 46) (S' := [.long (cnum v)]) dm_X10_numberAt_43 (g_get (v := .long (cnum v)) hp rfl rfl (by omega)) rfl rfl rfl ?_
    refine y_ret (r := some (.long (cnum v))) dm_X10_numberAt_46 rfl rfl rfl ?_
    exact ⟨congrArg some (congrArg Value.long (vnum_c (by first | omega | (rcases hcase with hc | hc | hc <;> omega))).symm), rfl⟩
  · refine me1 (pc' := 5) (L' := [(0, .ref p), (1, ii i)]) (S' := [ii i]) dm_X10_numberAt_4 rfl rfl rfl rfl ?_
    refine me1 (pc' := 6) (L' := [(0, .ref p), (1, ii i)]) (S' := [.ref p, ii i]) dm_X10_numberAt_5 rfl rfl rfl rfl ?_
    refine me3 (pc' := 9) (S' := [ii (vsz (e + 1) v : Int), ii i]) dm_X10_numberAt_6 (g_get (v := ii (vsz (e + 1) v : Int)) hp rfl rfl (by omega)) rfl rfl rfl ?_
    refine me0 (pc' := 10) (S' := [ii 1, ii (vsz (e + 1) v : Int), ii i]) dm_X10_numberAt_9 rfl rfl rfl rfl ?_
    refine y_isub (a := (vsz (e + 1) v : Int)) (b := 1) dm_X10_numberAt_10 (pc' := 11) rfl ?_
    refine y_2ge (a := i) (b := (vsz (e + 1) v : Int) - 1) (t := 42) (pc' := 14) dm_X10_numberAt_11 rfl rfl (by omega) (fun hb2 => ?_) (fun hb2 => ?_)
    · refine me1 (pc' := 43) (L' := [(0, .ref p), (1, ii i)]) (S' := [.ref p]) dm_X10_numberAt_42 rfl rfl rfl rfl ?_
      refine me3 (pc' := 46) (S' := [.long (cnum v)]) dm_X10_numberAt_43 (g_get (v := .long (cnum v)) hp rfl rfl (by omega)) rfl rfl rfl ?_
      refine y_ret (r := some (.long (cnum v))) dm_X10_numberAt_46 rfl rfl rfl ?_
      exact ⟨congrArg some (congrArg Value.long (vnum_c (by first | omega | (rcases hcase with hc | hc | hc <;> omega))).symm), rfl⟩
    · refine me1 (pc' := 15) (L' := [(0, .ref p), (1, ii i)]) (S' := [.ref p]) dm_X10_numberAt_14 rfl rfl rfl rfl ?_
      refine me3 (pc' := 18) (S' := [ii (fr : Int)]) dm_X10_numberAt_15 (g_get (v := ii (fr : Int)) hp rfl rfl (by omega)) rfl rfl rfl ?_
      refine me1 (pc' := 19) (L' := [(0, .ref p), (1, ii i)]) (S' := [ii i, ii (fr : Int)]) dm_X10_numberAt_18 rfl rfl rfl rfl ?_
      refine y_iadd (a := (fr : Int)) (b := i) dm_X10_numberAt_19 (pc' := 20) rfl ?_
      refine me1 (pc' := 21) (L' := [(0, .ref p), (1, ii i)]) (S' := [.ref p, ii ((fr : Int) + i)]) dm_X10_numberAt_20 rfl rfl rfl rfl ?_
      refine me3 (pc' := 24) (S' := [.ref row, ii ((fr : Int) + i)]) dm_X10_numberAt_21 (g_get (v := .ref row) hp rfl rfl (by omega)) rfl rfl rfl ?_
      refine me3 (pc' := 25) (S' := [ii (n : Int), ii ((fr : Int) + i)]) dm_X10_numberAt_24 (yh_rlen hx1 hrow) rfl rfl rfl ?_
      refine y_2ge (a := (fr : Int) + i) (b := (n : Int)) (t := 42) (pc' := 28) dm_X10_numberAt_25 rfl rfl (by omega) (fun hb3 => ?_) (fun hb3 => ?_)
      · refine me1 (pc' := 43) (L' := [(0, .ref p), (1, ii i)]) (S' := [.ref p]) dm_X10_numberAt_42 rfl rfl rfl rfl ?_
        refine me3 (pc' := 46) (S' := [.long (cnum v)]) dm_X10_numberAt_43 (g_get (v := .long (cnum v)) hp rfl rfl (by omega)) rfl rfl rfl ?_
        refine y_ret (r := some (.long (cnum v))) dm_X10_numberAt_46 rfl rfl rfl ?_
        exact ⟨congrArg some (congrArg Value.long (vnum_c (by first | omega | (rcases hcase with hc | hc | hc <;> omega))).symm), rfl⟩
      · refine me1 (pc' := 29) (L' := [(0, .ref p), (1, ii i)]) (S' := [.ref p]) dm_X10_numberAt_28 rfl rfl rfl rfl ?_
        refine me3 (pc' := 32) (S' := [.ref row]) dm_X10_numberAt_29 (g_get (v := .ref row) hp rfl rfl (by omega)) rfl rfl rfl ?_
        refine me1 (pc' := 33) (L' := [(0, .ref p), (1, ii i)]) (S' := [.ref p, .ref row]) dm_X10_numberAt_32 rfl rfl rfl rfl ?_
        refine me3 (pc' := 36) (S' := [ii (fr : Int), .ref row]) dm_X10_numberAt_33 (g_get (v := ii (fr : Int)) hp rfl rfl (by omega)) rfl rfl rfl ?_
        refine me1 (pc' := 37) (L' := [(0, .ref p), (1, ii i)]) (S' := [ii i, ii (fr : Int), .ref row]) dm_X10_numberAt_36 rfl rfl rfl rfl ?_
        refine y_iadd (a := (fr : Int)) (b := i) dm_X10_numberAt_37 (pc' := 38) rfl ?_
        refine me3 (pc' := 39) (S' := [.long (f (((fr : Int) + i).toNat))]) dm_X10_numberAt_38 (yh_rald (w := f (((fr : Int) + i).toNat)) hrow (by omega) (by omega) rfl) rfl rfl rfl ?_
        refine me2 (pc' := 46) (S' := [.long (f (((fr : Int) + i).toNat))]) dm_X10_numberAt_39 rfl rfl rfl ?_
        refine y_ret (r := some (.long (f (((fr : Int) + i).toNat)))) dm_X10_numberAt_46 rfl rfl rfl ?_
        have hk : 2 ≤ vk v ∧ vk v ≤ 6 := by rcases hcase with hc | hc | hc <;> omega
        refine ⟨congrArg some (congrArg Value.long ?_), rfl⟩
        have hq := vq_sz (d := e) hk.1 hk.2
        obtain ⟨k, rfl⟩ : ∃ k : Nat, i = (k : Int) := ⟨i.toNat, by omega⟩
        rw [vnum_r hk.1 (by omega) (by omega), show ((fr : Int) + (k : Int)).toNat = fr + k by omega]
        exact (hF hk.1 hk.2).2 k (by omega)
set_option maxRecDepth 20000 in
theorem pm_X10_numbers : mj_mmof pg_ms 84 = some ((⟨"ArrayCalculator$Value", "numbers", "()I"⟩, prog_12_method_23_code, 1, (Option.some Jvm.ClassFile.FieldType.int)), 10, false, mj_dec prog_12_method_23_code) := rfl
theorem dm_X10_numbers_0 : mj_dec prog_12_method_23_code 0 = some (.aload_n 0, 1) := by decide +kernel
theorem dm_X10_numbers_1 : mj_dec prog_12_method_23_code 1 = some (.getfield 9, 3) := by decide +kernel
theorem dm_X10_numbers_4 : mj_dec prog_12_method_23_code 4 = some (.bipush 7, 2) := by decide +kernel
theorem dm_X10_numbers_6 : mj_dec prog_12_method_23_code 6 = some (.if_icmp .ne 5, 3) := by decide +kernel
theorem dm_X10_numbers_9 : mj_dec prog_12_method_23_code 9 = some (.iconst 0, 1) := by decide +kernel
theorem dm_X10_numbers_10 : mj_dec prog_12_method_23_code 10 = some (.ireturn, 1) := by decide +kernel
theorem dm_X10_numbers_11 : mj_dec prog_12_method_23_code 11 = some (.aload_n 0, 1) := by decide +kernel
theorem dm_X10_numbers_12 : mj_dec prog_12_method_23_code 12 = some (.getfield 9, 3) := by decide +kernel
theorem dm_X10_numbers_15 : mj_dec prog_12_method_23_code 15 = some (.ifCond .eq 11, 3) := by decide +kernel
theorem dm_X10_numbers_18 : mj_dec prog_12_method_23_code 18 = some (.aload_n 0, 1) := by decide +kernel
theorem dm_X10_numbers_19 : mj_dec prog_12_method_23_code 19 = some (.getfield 9, 3) := by decide +kernel
theorem dm_X10_numbers_22 : mj_dec prog_12_method_23_code 22 = some (.iconst 1, 1) := by decide +kernel
theorem dm_X10_numbers_23 : mj_dec prog_12_method_23_code 23 = some (.if_icmp .ne 7, 3) := by decide +kernel
theorem dm_X10_numbers_26 : mj_dec prog_12_method_23_code 26 = some (.iconst 1, 1) := by decide +kernel
theorem dm_X10_numbers_27 : mj_dec prog_12_method_23_code 27 = some (.goto 9, 3) := by decide +kernel
theorem dm_X10_numbers_30 : mj_dec prog_12_method_23_code 30 = some (.aload_n 0, 1) := by decide +kernel
theorem dm_X10_numbers_31 : mj_dec prog_12_method_23_code 31 = some (.getfield 36, 3) := by decide +kernel
theorem dm_X10_numbers_34 : mj_dec prog_12_method_23_code 34 = some (.iconst 1, 1) := by decide +kernel
theorem dm_X10_numbers_35 : mj_dec prog_12_method_23_code 35 = some (.isub, 1) := by decide +kernel
theorem dm_X10_numbers_36 : mj_dec prog_12_method_23_code 36 = some (.ireturn, 1) := by decide +kernel
theorem c_numbers {xt : mj_X} {d e p : Nat} {h : mj_H} {v : VV}  (hd : 1 ≤ d) (hv : cv h (e + 1) p v)  : pgP xt d 84 [.ref p] h (ii (vq v : Int)) := by
  obtain ⟨hw, hp2, hsz, hlv, row, fr, vals, hp, hfr, h1, h3, h7⟩ := hv
  have hm := vw1_m hw
  have hcase : (vk v ≤ 1 ∧ vq v = 1) ∨ (2 ≤ vk v ∧ vk v ≤ 6 ∧ vsz (e + 1) v = 1 + vq v) ∨ (vk v = 7 ∧ vq v = 0) := by
    by_cases a : vk v ≤ 1
    · exact Or.inl ⟨a, vq_1 hw a⟩
    · by_cases b : vk v = 7
      · exact Or.inr (Or.inr ⟨b, vq_7 b⟩)
      · exact Or.inr (Or.inl ⟨by omega, by omega, vq_sz (by omega) (by omega)⟩)
  refine x_enter pm_X10_numbers (L0 := [(0, .ref p)]) rfl (Nat.le_of_ble_eq_true rfl) (by omega) ?_
  refine me1 (pc' := 1) (L' := [(0, .ref p)]) (S' := [.ref p]) dm_X10_numbers_0 rfl rfl rfl rfl ?_
  refine me3 (pc' := 4) (S' := [ii (vk v : Int)]) dm_X10_numbers_1 (g_get (v := ii (vk v : Int)) hp rfl rfl (by omega)) rfl rfl rfl ?_
  refine me0 (pc' := 6) (S' := [ii 7, ii (vk v : Int)]) dm_X10_numbers_4 rfl rfl rfl rfl ?_
  refine y_2ne (a := (vk v : Int)) (b := 7) (t := 11) (pc' := 9) dm_X10_numbers_6 rfl rfl (by omega) (fun hb1 => ?_) (fun hb1 => ?_)
  · refine me1 (pc' := 12) (L' := [(0, .ref p)]) (S' := [.ref p]) dm_X10_numbers_11 rfl rfl rfl rfl ?_
    refine me3 (pc' := 15) (S' := [ii (vk v : Int)]) dm_X10_numbers_12 (g_get (v := ii (vk v : Int)) hp rfl rfl (by omega)) rfl rfl rfl ?_
    refine y_1eq (a := (vk v : Int)) (t := 26) (pc' := 18) dm_X10_numbers_15 rfl rfl (by omega) (fun hb2 => ?_) (fun hb2 => ?_)
    · refine me0 (pc' := 27) (S' := [ii 1]) dm_X10_numbers_26 rfl rfl rfl rfl ?_
      refine me2 (pc' := 36) (S' := [ii 1]) dm_X10_numbers_27 rfl rfl rfl ?_
      refine y_ret (r := some (ii 1)) dm_X10_numbers_36 rfl rfl rfl ?_
      exact ⟨congrArg some (n_ii (by omega)), rfl⟩
    · refine me1 (pc' := 19) (L' := [(0, .ref p)]) (S' := [.ref p]) dm_X10_numbers_18 rfl rfl rfl rfl ?_
      refine me3 (pc' := 22) (S' := [ii (vk v : Int)]) dm_X10_numbers_19 (g_get (v := ii (vk v : Int)) hp rfl rfl (by omega)) rfl rfl rfl ?_
      refine me0 (pc' := 23) (S' := [ii 1, ii (vk v : Int)]) dm_X10_numbers_22 rfl rfl rfl rfl ?_
      refine y_2ne (a := (vk v : Int)) (b := 1) (t := 30) (pc' := 26) dm_X10_numbers_23 rfl rfl (by omega) (fun hb3 => ?_) (fun hb3 => ?_)
      · refine me1 (pc' := 31) (L' := [(0, .ref p)]) (S' := [.ref p]) dm_X10_numbers_30 rfl rfl rfl rfl ?_
        refine me3 (pc' := 34) (S' := [ii (vsz (e + 1) v : Int)]) dm_X10_numbers_31 (g_get (v := ii (vsz (e + 1) v : Int)) hp rfl rfl (by omega)) rfl rfl rfl ?_
        refine me0 (pc' := 35) (S' := [ii 1, ii (vsz (e + 1) v : Int)]) dm_X10_numbers_34 rfl rfl rfl rfl ?_
        refine y_isub (a := (vsz (e + 1) v : Int)) (b := 1) dm_X10_numbers_35 (pc' := 36) rfl ?_
        refine y_ret (r := some (ii ((vsz (e + 1) v : Int) - 1))) dm_X10_numbers_36 rfl rfl rfl ?_
        exact ⟨congrArg some (n_ii (by omega)), rfl⟩
      · refine me0 (pc' := 27) (S' := [ii 1]) dm_X10_numbers_26 rfl rfl rfl rfl ?_
        refine me2 (pc' := 36) (S' := [ii 1]) dm_X10_numbers_27 rfl rfl rfl ?_
        refine y_ret (r := some (ii 1)) dm_X10_numbers_36 rfl rfl rfl ?_
        exact ⟨congrArg some (n_ii (by omega)), rfl⟩
  · refine me0 (pc' := 10) (S' := [ii 0]) dm_X10_numbers_9 rfl rfl rfl rfl ?_
    refine y_ret (r := some (ii 0)) dm_X10_numbers_10 rfl rfl rfl ?_
    exact ⟨congrArg some (n_ii (by omega)), rfl⟩
