set_option maxRecDepth 20000 in
theorem pm_X10_isOne : mj_mmof pg_ms 75 = some ((⟨"ArrayCalculator$Value", "isOne", "()Z"⟩, prog_12_method_15_code, 1, (Option.some Jvm.ClassFile.FieldType.boolean)), 10, false, mj_dec prog_12_method_15_code) := rfl
theorem dm_X10_isOne_0 : mj_dec prog_12_method_15_code 0 = some (.aload_n 0, 1) := by decide +kernel
theorem dm_X10_isOne_1 : mj_dec prog_12_method_15_code 1 = some (.getfield 9, 3) := by decide +kernel
theorem dm_X10_isOne_4 : mj_dec prog_12_method_15_code 4 = some (.ifCond .eq 11, 3) := by decide +kernel
theorem dm_X10_isOne_7 : mj_dec prog_12_method_15_code 7 = some (.aload_n 0, 1) := by decide +kernel
theorem dm_X10_isOne_8 : mj_dec prog_12_method_15_code 8 = some (.getfield 9, 3) := by decide +kernel
theorem dm_X10_isOne_11 : mj_dec prog_12_method_15_code 11 = some (.iconst 1, 1) := by decide +kernel
theorem dm_X10_isOne_12 : mj_dec prog_12_method_15_code 12 = some (.if_icmp .ne 7, 3) := by decide +kernel
theorem dm_X10_isOne_15 : mj_dec prog_12_method_15_code 15 = some (.iconst 1, 1) := by decide +kernel
theorem dm_X10_isOne_16 : mj_dec prog_12_method_15_code 16 = some (.goto 4, 3) := by decide +kernel
theorem dm_X10_isOne_19 : mj_dec prog_12_method_15_code 19 = some (.iconst 0, 1) := by decide +kernel
theorem dm_X10_isOne_20 : mj_dec prog_12_method_15_code 20 = some (.ireturn, 1) := by decide +kernel
theorem c_isOne {xt : mj_X} {d e p : Nat} {A : Nat → Prop} {h : mj_H} {v : VV}  (hd : 1 ≤ d) (hv : cv A h (e + 1) p v)  : pgP xt d 75 [.ref p] h (zz (decide (vk v ≤ 1))) := by
  obtain ⟨hw, ⟨hp2, hpA⟩, hsz, hlv, row, fr, vals, hp, hfr, h1, h3, h7⟩ := id hv
  have hm := vw1_m hw
  refine x_enter pm_X10_isOne (L0 := [(0, .ref p)]) rfl (Nat.le_of_ble_eq_true rfl) (by omega) ?_
  refine me1 (pc' := 1) (L' := [(0, .ref p)]) (S' := [.ref p]) dm_X10_isOne_0 rfl rfl rfl rfl ?_
  refine me3 (pc' := 4) (S' := [ii (vk v : Int)]) dm_X10_isOne_1 (g_get (v := ii (vk v : Int)) hp rfl rfl (by omega)) rfl rfl rfl ?_
  refine y_1eq (a := (vk v : Int)) (t := 15) (pc' := 7) dm_X10_isOne_4 rfl rfl (by omega) (fun hb1 => ?_) (fun hb1 => ?_)
  · refine me0 (pc' := 16) (S' := [ii 1]) dm_X10_isOne_15 rfl rfl rfl rfl ?_
    refine me2 (pc' := 20) (S' := [ii 1]) dm_X10_isOne_16 rfl rfl rfl ?_
    refine y_ret (r := some (ii 1)) dm_X10_isOne_20 rfl rfl rfl ?_
    exact ⟨congrArg some (zt (by omega)), rfl⟩
  · refine me1 (pc' := 8) (L' := [(0, .ref p)]) (S' := [.ref p]) dm_X10_isOne_7 rfl rfl rfl rfl ?_
    refine me3 (pc' := 11) (S' := [ii (vk v : Int)]) dm_X10_isOne_8 (g_get (v := ii (vk v : Int)) hp rfl rfl (by omega)) rfl rfl rfl ?_
    refine me0 (pc' := 12) (S' := [ii 1, ii (vk v : Int)]) dm_X10_isOne_11 rfl rfl rfl rfl ?_
    refine y_2ne (a := (vk v : Int)) (b := 1) (t := 19) (pc' := 15) dm_X10_isOne_12 rfl rfl (by omega) (fun hb2 => ?_) (fun hb2 => ?_)
    · refine me0 (pc' := 20) (S' := [ii 0]) dm_X10_isOne_19 rfl rfl rfl rfl ?_
      refine y_ret (r := some (ii 0)) dm_X10_isOne_20 rfl rfl rfl ?_
      exact ⟨congrArg some (zf (by omega)), rfl⟩
    · refine me0 (pc' := 16) (S' := [ii 1]) dm_X10_isOne_15 rfl rfl rfl rfl ?_
      refine me2 (pc' := 20) (S' := [ii 1]) dm_X10_isOne_16 rfl rfl rfl ?_
      refine y_ret (r := some (ii 1)) dm_X10_isOne_20 rfl rfl rfl ?_
      exact ⟨congrArg some (zt (by omega)), rfl⟩
set_option maxRecDepth 20000 in
theorem pm_X10_isRow : mj_mmof pg_ms 90 = some ((⟨"ArrayCalculator$Value", "isRow", "()Z"⟩, prog_12_method_16_code, 1, (Option.some Jvm.ClassFile.FieldType.boolean)), 10, false, mj_dec prog_12_method_16_code) := rfl
theorem dm_X10_isRow_0 : mj_dec prog_12_method_16_code 0 = some (.aload_n 0, 1) := by decide +kernel
theorem dm_X10_isRow_1 : mj_dec prog_12_method_16_code 1 = some (.getfield 9, 3) := by decide +kernel
theorem dm_X10_isRow_4 : mj_dec prog_12_method_16_code 4 = some (.iconst 2, 1) := by decide +kernel
theorem dm_X10_isRow_5 : mj_dec prog_12_method_16_code 5 = some (.if_icmp .lt 15, 3) := by decide +kernel
theorem dm_X10_isRow_8 : mj_dec prog_12_method_16_code 8 = some (.aload_n 0, 1) := by decide +kernel
theorem dm_X10_isRow_9 : mj_dec prog_12_method_16_code 9 = some (.getfield 9, 3) := by decide +kernel
theorem dm_X10_isRow_12 : mj_dec prog_12_method_16_code 12 = some (.iconst 5, 1) := by decide +kernel
theorem dm_X10_isRow_13 : mj_dec prog_12_method_16_code 13 = some (.if_icmp .gt 7, 3) := by decide +kernel
theorem dm_X10_isRow_16 : mj_dec prog_12_method_16_code 16 = some (.iconst 1, 1) := by decide +kernel
theorem dm_X10_isRow_17 : mj_dec prog_12_method_16_code 17 = some (.goto 4, 3) := by decide +kernel
theorem dm_X10_isRow_20 : mj_dec prog_12_method_16_code 20 = some (.iconst 0, 1) := by decide +kernel
theorem dm_X10_isRow_21 : mj_dec prog_12_method_16_code 21 = some (.ireturn, 1) := by decide +kernel
theorem c_isRow {xt : mj_X} {d e p : Nat} {A : Nat → Prop} {h : mj_H} {v : VV}  (hd : 1 ≤ d) (hv : cv A h (e + 1) p v)  : pgP xt d 90 [.ref p] h (zz (decide (2 ≤ vk v ∧ vk v ≤ 5))) := by
  obtain ⟨hw, ⟨hp2, hpA⟩, hsz, hlv, row, fr, vals, hp, hfr, h1, h3, h7⟩ := id hv
  have hm := vw1_m hw
  refine x_enter pm_X10_isRow (L0 := [(0, .ref p)]) rfl (Nat.le_of_ble_eq_true rfl) (by omega) ?_
  refine me1 (pc' := 1) (L' := [(0, .ref p)]) (S' := [.ref p]) dm_X10_isRow_0 rfl rfl rfl rfl ?_
  refine me3 (pc' := 4) (S' := [ii (vk v : Int)]) dm_X10_isRow_1 (g_get (v := ii (vk v : Int)) hp rfl rfl (by omega)) rfl rfl rfl ?_
  refine me0 (pc' := 5) (S' := [ii 2, ii (vk v : Int)]) dm_X10_isRow_4 rfl rfl rfl rfl ?_
  refine y_2lt (a := (vk v : Int)) (b := 2) (t := 20) (pc' := 8) dm_X10_isRow_5 rfl rfl (by omega) (fun hb1 => ?_) (fun hb1 => ?_)
  · refine me0 (pc' := 21) (S' := [ii 0]) dm_X10_isRow_20 rfl rfl rfl rfl ?_
    refine y_ret (r := some (ii 0)) dm_X10_isRow_21 rfl rfl rfl ?_
    exact ⟨congrArg some (zf (by omega)), rfl⟩
  · refine me1 (pc' := 9) (L' := [(0, .ref p)]) (S' := [.ref p]) dm_X10_isRow_8 rfl rfl rfl rfl ?_
    refine me3 (pc' := 12) (S' := [ii (vk v : Int)]) dm_X10_isRow_9 (g_get (v := ii (vk v : Int)) hp rfl rfl (by omega)) rfl rfl rfl ?_
    refine me0 (pc' := 13) (S' := [ii 5, ii (vk v : Int)]) dm_X10_isRow_12 rfl rfl rfl rfl ?_
    refine y_2gt (a := (vk v : Int)) (b := 5) (t := 20) (pc' := 16) dm_X10_isRow_13 rfl rfl (by omega) (fun hb2 => ?_) (fun hb2 => ?_)
    · refine me0 (pc' := 21) (S' := [ii 0]) dm_X10_isRow_20 rfl rfl rfl rfl ?_
      refine y_ret (r := some (ii 0)) dm_X10_isRow_21 rfl rfl rfl ?_
      exact ⟨congrArg some (zf (by omega)), rfl⟩
    · refine me0 (pc' := 17) (S' := [ii 1]) dm_X10_isRow_16 rfl rfl rfl rfl ?_
      refine me2 (pc' := 21) (S' := [ii 1]) dm_X10_isRow_17 rfl rfl rfl ?_
      refine y_ret (r := some (ii 1)) dm_X10_isRow_21 rfl rfl rfl ?_
      exact ⟨congrArg some (zt (by omega)), rfl⟩
set_option maxRecDepth 20000 in
theorem pm_X10_ofSigns : mj_mmof pg_ms 92 = some ((⟨"ArrayCalculator$Value", "ofSigns", "()Z"⟩, prog_12_method_17_code, 1, (Option.some Jvm.ClassFile.FieldType.boolean)), 10, false, mj_dec prog_12_method_17_code) := rfl
theorem dm_X10_ofSigns_0 : mj_dec prog_12_method_17_code 0 = some (.aload_n 0, 1) := by decide +kernel
theorem dm_X10_ofSigns_1 : mj_dec prog_12_method_17_code 1 = some (.getfield 9, 3) := by decide +kernel
theorem dm_X10_ofSigns_4 : mj_dec prog_12_method_17_code 4 = some (.iconst 1, 1) := by decide +kernel
theorem dm_X10_ofSigns_5 : mj_dec prog_12_method_17_code 5 = some (.if_icmp .eq 11, 3) := by decide +kernel
theorem dm_X10_ofSigns_8 : mj_dec prog_12_method_17_code 8 = some (.aload_n 0, 1) := by decide +kernel
theorem dm_X10_ofSigns_9 : mj_dec prog_12_method_17_code 9 = some (.getfield 9, 3) := by decide +kernel
theorem dm_X10_ofSigns_12 : mj_dec prog_12_method_17_code 12 = some (.iconst 3, 1) := by decide +kernel
theorem dm_X10_ofSigns_13 : mj_dec prog_12_method_17_code 13 = some (.if_icmp .ne 7, 3) := by decide +kernel
theorem dm_X10_ofSigns_16 : mj_dec prog_12_method_17_code 16 = some (.iconst 1, 1) := by decide +kernel
theorem dm_X10_ofSigns_17 : mj_dec prog_12_method_17_code 17 = some (.goto 4, 3) := by decide +kernel
theorem dm_X10_ofSigns_20 : mj_dec prog_12_method_17_code 20 = some (.iconst 0, 1) := by decide +kernel
theorem dm_X10_ofSigns_21 : mj_dec prog_12_method_17_code 21 = some (.ireturn, 1) := by decide +kernel
theorem c_ofSigns {xt : mj_X} {d e p : Nat} {A : Nat → Prop} {h : mj_H} {v : VV}  (hd : 1 ≤ d) (hv : cv A h (e + 1) p v)  : pgP xt d 92 [.ref p] h (zz (decide (vk v = 1 ∨ vk v = 3))) := by
  obtain ⟨hw, ⟨hp2, hpA⟩, hsz, hlv, row, fr, vals, hp, hfr, h1, h3, h7⟩ := id hv
  have hm := vw1_m hw
  refine x_enter pm_X10_ofSigns (L0 := [(0, .ref p)]) rfl (Nat.le_of_ble_eq_true rfl) (by omega) ?_
  refine me1 (pc' := 1) (L' := [(0, .ref p)]) (S' := [.ref p]) dm_X10_ofSigns_0 rfl rfl rfl rfl ?_
  refine me3 (pc' := 4) (S' := [ii (vk v : Int)]) dm_X10_ofSigns_1 (g_get (v := ii (vk v : Int)) hp rfl rfl (by omega)) rfl rfl rfl ?_
  refine me0 (pc' := 5) (S' := [ii 1, ii (vk v : Int)]) dm_X10_ofSigns_4 rfl rfl rfl rfl ?_
  refine y_2eq (a := (vk v : Int)) (b := 1) (t := 16) (pc' := 8) dm_X10_ofSigns_5 rfl rfl (by omega) (fun hb1 => ?_) (fun hb1 => ?_)
  · refine me0 (pc' := 17) (S' := [ii 1]) dm_X10_ofSigns_16 rfl rfl rfl rfl ?_
    refine me2 (pc' := 21) (S' := [ii 1]) dm_X10_ofSigns_17 rfl rfl rfl ?_
    refine y_ret (r := some (ii 1)) dm_X10_ofSigns_21 rfl rfl rfl ?_
    exact ⟨congrArg some (zt (by omega)), rfl⟩
  · refine me1 (pc' := 9) (L' := [(0, .ref p)]) (S' := [.ref p]) dm_X10_ofSigns_8 rfl rfl rfl rfl ?_
    refine me3 (pc' := 12) (S' := [ii (vk v : Int)]) dm_X10_ofSigns_9 (g_get (v := ii (vk v : Int)) hp rfl rfl (by omega)) rfl rfl rfl ?_
    refine me0 (pc' := 13) (S' := [ii 3, ii (vk v : Int)]) dm_X10_ofSigns_12 rfl rfl rfl rfl ?_
    refine y_2ne (a := (vk v : Int)) (b := 3) (t := 20) (pc' := 16) dm_X10_ofSigns_13 rfl rfl (by omega) (fun hb2 => ?_) (fun hb2 => ?_)
    · refine me0 (pc' := 21) (S' := [ii 0]) dm_X10_ofSigns_20 rfl rfl rfl rfl ?_
      refine y_ret (r := some (ii 0)) dm_X10_ofSigns_21 rfl rfl rfl ?_
      exact ⟨congrArg some (zf (by omega)), rfl⟩
    · refine me0 (pc' := 17) (S' := [ii 1]) dm_X10_ofSigns_16 rfl rfl rfl rfl ?_
      refine me2 (pc' := 21) (S' := [ii 1]) dm_X10_ofSigns_17 rfl rfl rfl ?_
      refine y_ret (r := some (ii 1)) dm_X10_ofSigns_21 rfl rfl rfl ?_
      exact ⟨congrArg some (zt (by omega)), rfl⟩
set_option maxRecDepth 20000 in
theorem pm_X10_isFault : mj_mmof pg_ms 159 = some ((⟨"ArrayCalculator$Value", "isFault", "()Z"⟩, prog_12_method_19_code, 1, (Option.some Jvm.ClassFile.FieldType.boolean)), 10, false, mj_dec prog_12_method_19_code) := rfl
theorem dm_X10_isFault_0 : mj_dec prog_12_method_19_code 0 = some (.aload_n 0, 1) := by decide +kernel
theorem dm_X10_isFault_1 : mj_dec prog_12_method_19_code 1 = some (.getfield 9, 3) := by decide +kernel
theorem dm_X10_isFault_4 : mj_dec prog_12_method_19_code 4 = some (.bipush 8, 2) := by decide +kernel
theorem dm_X10_isFault_6 : mj_dec prog_12_method_19_code 6 = some (.if_icmp .ne 7, 3) := by decide +kernel
theorem dm_X10_isFault_9 : mj_dec prog_12_method_19_code 9 = some (.iconst 1, 1) := by decide +kernel
theorem dm_X10_isFault_10 : mj_dec prog_12_method_19_code 10 = some (.goto 4, 3) := by decide +kernel
theorem dm_X10_isFault_13 : mj_dec prog_12_method_19_code 13 = some (.iconst 0, 1) := by decide +kernel
theorem dm_X10_isFault_14 : mj_dec prog_12_method_19_code 14 = some (.ireturn, 1) := by decide +kernel
theorem c_isFault {xt : mj_X} {d e p : Nat} {A : Nat → Prop} {h : mj_H} {v : VV}  (hd : 1 ≤ d) (hv : cv A h (e + 1) p v)  : pgP xt d 159 [.ref p] h (zz (decide (vk v = 8))) := by
  obtain ⟨hw, ⟨hp2, hpA⟩, hsz, hlv, row, fr, vals, hp, hfr, h1, h3, h7⟩ := id hv
  have hm := vw1_m hw
  refine x_enter pm_X10_isFault (L0 := [(0, .ref p)]) rfl (Nat.le_of_ble_eq_true rfl) (by omega) ?_
  refine me1 (pc' := 1) (L' := [(0, .ref p)]) (S' := [.ref p]) dm_X10_isFault_0 rfl rfl rfl rfl ?_
  refine me3 (pc' := 4) (S' := [ii (vk v : Int)]) dm_X10_isFault_1 (g_get (v := ii (vk v : Int)) hp rfl rfl (by omega)) rfl rfl rfl ?_
  refine me0 (pc' := 6) (S' := [ii 8, ii (vk v : Int)]) dm_X10_isFault_4 rfl rfl rfl rfl ?_
  refine y_2ne (a := (vk v : Int)) (b := 8) (t := 13) (pc' := 9) dm_X10_isFault_6 rfl rfl (by omega) (fun hb1 => ?_) (fun hb1 => ?_)
  · refine me0 (pc' := 14) (S' := [ii 0]) dm_X10_isFault_13 rfl rfl rfl rfl ?_
    refine y_ret (r := some (ii 0)) dm_X10_isFault_14 rfl rfl rfl ?_
    exact ⟨congrArg some (zf (by omega)), rfl⟩
  · refine me0 (pc' := 10) (S' := [ii 1]) dm_X10_isFault_9 rfl rfl rfl rfl ?_
    refine me2 (pc' := 14) (S' := [ii 1]) dm_X10_isFault_10 rfl rfl rfl ?_
    refine y_ret (r := some (ii 1)) dm_X10_isFault_14 rfl rfl rfl ?_
    exact ⟨congrArg some (zt (by omega)), rfl⟩
set_option maxRecDepth 20000 in
theorem pm_X10_ofNumbers : mj_mmof pg_ms 144 = some ((⟨"ArrayCalculator$Value", "ofNumbers", "()Z"⟩, prog_12_method_18_code, 1, (Option.some Jvm.ClassFile.FieldType.boolean)), 10, false, mj_dec prog_12_method_18_code) := rfl
theorem dm_X10_ofNumbers_0 : mj_dec prog_12_method_18_code 0 = some (.aload_n 0, 1) := by decide +kernel
theorem dm_X10_ofNumbers_1 : mj_dec prog_12_method_18_code 1 = some (.getfield 9, 3) := by decide +kernel
theorem dm_X10_ofNumbers_4 : mj_dec prog_12_method_18_code 4 = some (.ifCond .eq 18, 3) := by decide +kernel
theorem dm_X10_ofNumbers_7 : mj_dec prog_12_method_18_code 7 = some (.aload_n 0, 1) := by decide +kernel
theorem dm_X10_ofNumbers_8 : mj_dec prog_12_method_18_code 8 = some (.invokevirtual 61, 3) := by decide +kernel
theorem dm_X10_ofNumbers_11 : mj_dec prog_12_method_18_code 11 = some (.ifCond .eq 15, 3) := by decide +kernel
theorem dm_X10_ofNumbers_14 : mj_dec prog_12_method_18_code 14 = some (.aload_n 0, 1) := by decide +kernel
theorem dm_X10_ofNumbers_15 : mj_dec prog_12_method_18_code 15 = some (.getfield 9, 3) := by decide +kernel
theorem dm_X10_ofNumbers_18 : mj_dec prog_12_method_18_code 18 = some (.iconst 3, 1) := by decide +kernel
theorem dm_X10_ofNumbers_19 : mj_dec prog_12_method_18_code 19 = some (.if_icmp .eq 7, 3) := by decide +kernel
theorem dm_X10_ofNumbers_22 : mj_dec prog_12_method_18_code 22 = some (.iconst 1, 1) := by decide +kernel
theorem dm_X10_ofNumbers_23 : mj_dec prog_12_method_18_code 23 = some (.goto 4, 3) := by decide +kernel
theorem dm_X10_ofNumbers_26 : mj_dec prog_12_method_18_code 26 = some (.iconst 0, 1) := by decide +kernel
theorem dm_X10_ofNumbers_27 : mj_dec prog_12_method_18_code 27 = some (.ireturn, 1) := by decide +kernel
theorem c_ofNumbers {xt : mj_X} {d e p : Nat} {A : Nat → Prop} {h : mj_H} {v : VV}  (hd : 2 ≤ d) (hv : cv A h (e + 1) p v)  : pgP xt d 144 [.ref p] h (zz (decide (vk v = 0 ∨ 2 ≤ vk v ∧ vk v ≤ 5 ∧ vk v ≠ 3))) := by
  obtain ⟨hw, ⟨hp2, hpA⟩, hsz, hlv, row, fr, vals, hp, hfr, h1, h3, h7⟩ := id hv
  have hm := vw1_m hw
  refine x_enter pm_X10_ofNumbers (L0 := [(0, .ref p)]) rfl (Nat.le_of_ble_eq_true rfl) (by omega) ?_
  refine me1 (pc' := 1) (L' := [(0, .ref p)]) (S' := [.ref p]) dm_X10_ofNumbers_0 rfl rfl rfl rfl ?_
  refine me3 (pc' := 4) (S' := [ii (vk v : Int)]) dm_X10_ofNumbers_1 (g_get (v := ii (vk v : Int)) hp rfl rfl (by omega)) rfl rfl rfl ?_
  refine y_1eq (a := (vk v : Int)) (t := 22) (pc' := 7) dm_X10_ofNumbers_4 rfl rfl (by omega) (fun hb1 => ?_) (fun hb1 => ?_)
  · refine me0 (pc' := 23) (S' := [ii 1]) dm_X10_ofNumbers_22 rfl rfl rfl rfl ?_
    refine me2 (pc' := 27) (S' := [ii 1]) dm_X10_ofNumbers_23 rfl rfl rfl ?_
    refine y_ret (r := some (ii 1)) dm_X10_ofNumbers_27 rfl rfl rfl ?_
    exact ⟨congrArg some (zt (by omega)), rfl⟩
  · refine me1 (pc' := 8) (L' := [(0, .ref p)]) (S' := [.ref p]) dm_X10_ofNumbers_7 rfl rfl rfl rfl ?_
    refine x_cp (pc' := 11) (v := zz (decide (2 ≤ vk v ∧ vk v ≤ 5))) (rest := []) dm_X10_ofNumbers_8 rfl (g_inv (As := []) (S := []) hp rfl rfl rfl (by omega)) rfl rfl rfl (c_isRow (by omega) hv) ?_
    refine y_zeq (c := decide (2 ≤ vk v ∧ vk v ≤ 5)) (t := 26) (pc' := 14) dm_X10_ofNumbers_11 rfl rfl (fun hb2 => ?_) (fun hb2 => ?_)
    · replace hb2 := dF hb2
      refine me0 (pc' := 27) (S' := [ii 0]) dm_X10_ofNumbers_26 rfl rfl rfl rfl ?_
      refine y_ret (r := some (ii 0)) dm_X10_ofNumbers_27 rfl rfl rfl ?_
      exact ⟨congrArg some (zf (by omega)), rfl⟩
    · replace hb2 := dT hb2
      refine me1 (pc' := 15) (L' := [(0, .ref p)]) (S' := [.ref p]) dm_X10_ofNumbers_14 rfl rfl rfl rfl ?_
      refine me3 (pc' := 18) (S' := [ii (vk v : Int)]) dm_X10_ofNumbers_15 (g_get (v := ii (vk v : Int)) hp rfl rfl (by omega)) rfl rfl rfl ?_
      refine me0 (pc' := 19) (S' := [ii 3, ii (vk v : Int)]) dm_X10_ofNumbers_18 rfl rfl rfl rfl ?_
      refine y_2eq (a := (vk v : Int)) (b := 3) (t := 26) (pc' := 22) dm_X10_ofNumbers_19 rfl rfl (by omega) (fun hb3 => ?_) (fun hb3 => ?_)
      · refine me0 (pc' := 27) (S' := [ii 0]) dm_X10_ofNumbers_26 rfl rfl rfl rfl ?_
        refine y_ret (r := some (ii 0)) dm_X10_ofNumbers_27 rfl rfl rfl ?_
        exact ⟨congrArg some (zf (by omega)), rfl⟩
      · refine me0 (pc' := 23) (S' := [ii 1]) dm_X10_ofNumbers_22 rfl rfl rfl rfl ?_
        refine me2 (pc' := 27) (S' := [ii 1]) dm_X10_ofNumbers_23 rfl rfl rfl ?_
        refine y_ret (r := some (ii 1)) dm_X10_ofNumbers_27 rfl rfl rfl ?_
        exact ⟨congrArg some (zt (by omega)), rfl⟩
set_option maxRecDepth 20000 in
theorem pm_X10_numberAt : mj_mmof pg_ms 78 = some ((⟨"ArrayCalculator$Value", "numberAt", "(I)J"⟩, prog_12_method_22_code, 2, (Option.some Jvm.ClassFile.FieldType.long)), 10, false, mj_dec prog_12_method_22_code) := rfl
theorem dm_X10_numberAt_0 : mj_dec prog_12_method_22_code 0 = some (.iload_n 1, 1) := by decide +kernel
theorem dm_X10_numberAt_1 : mj_dec prog_12_method_22_code 1 = some (.ifCond .lt 41, 3) := by decide +kernel
theorem dm_X10_numberAt_4 : mj_dec prog_12_method_22_code 4 = some (.iload_n 1, 1) := by decide +kernel
theorem dm_X10_numberAt_5 : mj_dec prog_12_method_22_code 5 = some (.aload_n 0, 1) := by decide +kernel
theorem dm_X10_numberAt_6 : mj_dec prog_12_method_22_code 6 = some (.getfield 36, 3) := by decide +kernel
theorem dm_X10_numberAt_9 : mj_dec prog_12_method_22_code 9 = some (.iconst 1, 1) := by decide +kernel
theorem dm_X10_numberAt_10 : mj_dec prog_12_method_22_code 10 = some (.isub, 1) := by decide +kernel
theorem dm_X10_numberAt_11 : mj_dec prog_12_method_22_code 11 = some (.if_icmp .ge 31, 3) := by decide +kernel
theorem dm_X10_numberAt_14 : mj_dec prog_12_method_22_code 14 = some (.aload_n 0, 1) := by decide +kernel
theorem dm_X10_numberAt_15 : mj_dec prog_12_method_22_code 15 = some (.getfield 27, 3) := by decide +kernel
theorem dm_X10_numberAt_18 : mj_dec prog_12_method_22_code 18 = some (.iload_n 1, 1) := by decide +kernel
theorem dm_X10_numberAt_19 : mj_dec prog_12_method_22_code 19 = some (.iadd, 1) := by decide +kernel
theorem dm_X10_numberAt_20 : mj_dec prog_12_method_22_code 20 = some (.aload_n 0, 1) := by decide +kernel
theorem dm_X10_numberAt_21 : mj_dec prog_12_method_22_code 21 = some (.getfield 19, 3) := by decide +kernel
theorem dm_X10_numberAt_24 : mj_dec prog_12_method_22_code 24 = some (.arraylength, 1) := by decide +kernel
theorem dm_X10_numberAt_25 : mj_dec prog_12_method_22_code 25 = some (.if_icmp .ge 17, 3) := by decide +kernel
theorem dm_X10_numberAt_28 : mj_dec prog_12_method_22_code 28 = some (.aload_n 0, 1) := by decide +kernel
theorem dm_X10_numberAt_29 : mj_dec prog_12_method_22_code 29 = some (.getfield 19, 3) := by decide +kernel
theorem dm_X10_numberAt_32 : mj_dec prog_12_method_22_code 32 = some (.aload_n 0, 1) := by decide +kernel
theorem dm_X10_numberAt_33 : mj_dec prog_12_method_22_code 33 = some (.getfield 27, 3) := by decide +kernel
theorem dm_X10_numberAt_36 : mj_dec prog_12_method_22_code 36 = some (.iload_n 1, 1) := by decide +kernel
theorem dm_X10_numberAt_37 : mj_dec prog_12_method_22_code 37 = some (.iadd, 1) := by decide +kernel
theorem dm_X10_numberAt_38 : mj_dec prog_12_method_22_code 38 = some (.laload, 1) := by decide +kernel
theorem dm_X10_numberAt_39 : mj_dec prog_12_method_22_code 39 = some (.goto 7, 3) := by decide +kernel
theorem dm_X10_numberAt_42 : mj_dec prog_12_method_22_code 42 = some (.aload_n 0, 1) := by decide +kernel
theorem dm_X10_numberAt_43 : mj_dec prog_12_method_22_code 43 = some (.getfield 15, 3) := by decide +kernel
theorem dm_X10_numberAt_46 : mj_dec prog_12_method_22_code 46 = some (.lreturn, 1) := by decide +kernel
theorem c_numberAt {xt : mj_X} {d e p : Nat} {A : Nat → Prop} {h : mj_H} {v : VV} {i : Int} {f1 : Nat → Value} (hx1 : xt 1 = some (.long, 0, f1)) (hd : 1 ≤ d) (hv : cv A h (e + 1) p v) (hi : -2147483648 ≤ i ∧ i ≤ 2147483647) : pgP xt d 78 [.ref p, ii i] h (.long (vnum v i)) := by
  have hw := hv.1
  have hsz := hv.2.2.1
  obtain ⟨row, fr, n, vals, f, hp, ⟨hp2, hpA⟩, hfr, hn, hrow, hF, hN⟩ := cv_row hv
  have hm := vw1_m hw
  have hcase : (vk v ≤ 1 ∧ vsz (e + 1) v = 1) ∨ (2 ≤ vk v ∧ vk v ≤ 6 ∧ vsz (e + 1) v = 1 + vq v ∧ (0 < vq v → fr + vq v ≤ n)) ∨ (vk v = 7 ∧ n = 0 ∧ vq v = 0) := by
    by_cases a : vk v ≤ 1
    · exact Or.inl ⟨a, vsz_1 a⟩
    · by_cases b : vk v = 7
      · exact Or.inr (Or.inr ⟨b, hN b, vq_7 b⟩)
      · exact Or.inr (Or.inl ⟨by omega, by omega, vq_sz (by omega) (by omega), (hF (by omega) (by omega)).1⟩)
  refine x_enter pm_X10_numberAt (L0 := [(0, .ref p), (1, ii i)]) rfl (Nat.le_of_ble_eq_true rfl) (by omega) ?_
  refine me1 (pc' := 1) (L' := [(0, .ref p), (1, ii i)]) (S' := [ii i]) dm_X10_numberAt_0 rfl rfl rfl rfl ?_
  refine y_1lt (a := i) (t := 42) (pc' := 4) dm_X10_numberAt_1 rfl rfl (by omega) (fun hb1 => ?_) (fun hb1 => ?_)
  · refine me1 (pc' := 43) (L' := [(0, .ref p), (1, ii i)]) (S' := [.ref p]) dm_X10_numberAt_42 rfl rfl rfl rfl ?_
    refine me3 (pc' := 46) (S' := [.long (cnum v)]) dm_X10_numberAt_43 (g_get (v := .long (cnum v)) hp rfl rfl (by omega)) rfl rfl rfl ?_
    refine y_ret (r := some (.long (cnum v))) dm_X10_numberAt_46 rfl rfl rfl ?_
    exact ⟨congrArg some (congrArg Value.long (vnum_c (by first | omega | (rcases hcase with hc | hc | hc <;> omega))).symm), rfl⟩
  · refine me1 (pc' := 5) (L' := [(0, .ref p), (1, ii i)]) (S' := [ii i]) dm_X10_numberAt_4 rfl rfl rfl rfl ?_
    refine me1 (pc' := 6) (L' := [(0, .ref p), (1, ii i)]) (S' := [.ref p, ii i]) dm_X10_numberAt_5 rfl rfl rfl rfl ?_
    refine me3 (pc' := 9) (S' := [ii (vsz (e + 1) v : Int), ii i]) dm_X10_numberAt_6 (g_get (v := ii (vsz (e + 1) v : Int)) hp rfl rfl (by omega)) rfl rfl rfl ?_
    refine me0 (pc' := 10) (S' := [ii 1, ii (vsz (e + 1) v : Int), ii i]) dm_X10_numberAt_9 rfl rfl rfl rfl ?_
    refine y_isub (a := (vsz (e + 1) v : Int)) (b := 1) dm_X10_numberAt_10 (pc' := 11) rfl ?_
    refine y_2ge (a := i) (b := (vsz (e + 1) v : Int) - 1) (t := 42) (pc' := 14) dm_X10_numberAt_11 rfl rfl (by omega) (fun hb2 => ?_) (fun hb2 => ?_)
    · refine me1 (pc' := 43) (L' := [(0, .ref p), (1, ii i)]) (S' := [.ref p]) dm_X10_numberAt_42 rfl rfl rfl rfl ?_
      refine me3 (pc' := 46) (S' := [.long (cnum v)]) dm_X10_numberAt_43 (g_get (v := .long (cnum v)) hp rfl rfl (by omega)) rfl rfl rfl ?_
      refine y_ret (r := some (.long (cnum v))) dm_X10_numberAt_46 rfl rfl rfl ?_
      exact ⟨congrArg some (congrArg Value.long (vnum_c (by first | omega | (rcases hcase with hc | hc | hc <;> omega))).symm), rfl⟩
    · refine me1 (pc' := 15) (L' := [(0, .ref p), (1, ii i)]) (S' := [.ref p]) dm_X10_numberAt_14 rfl rfl rfl rfl ?_
      refine me3 (pc' := 18) (S' := [ii (fr : Int)]) dm_X10_numberAt_15 (g_get (v := ii (fr : Int)) hp rfl rfl (by omega)) rfl rfl rfl ?_
      refine me1 (pc' := 19) (L' := [(0, .ref p), (1, ii i)]) (S' := [ii i, ii (fr : Int)]) dm_X10_numberAt_18 rfl rfl rfl rfl ?_
      refine y_iadd (a := (fr : Int)) (b := i) dm_X10_numberAt_19 (pc' := 20) rfl ?_
      refine me1 (pc' := 21) (L' := [(0, .ref p), (1, ii i)]) (S' := [.ref p, ii ((fr : Int) + i)]) dm_X10_numberAt_20 rfl rfl rfl rfl ?_
      refine me3 (pc' := 24) (S' := [.ref row, ii ((fr : Int) + i)]) dm_X10_numberAt_21 (g_get (v := .ref row) hp rfl rfl (by omega)) rfl rfl rfl ?_
      refine me3 (pc' := 25) (S' := [ii (n : Int), ii ((fr : Int) + i)]) dm_X10_numberAt_24 (yh_rlen hx1 hrow) rfl rfl rfl ?_
      refine y_2ge (a := (fr : Int) + i) (b := (n : Int)) (t := 42) (pc' := 28) dm_X10_numberAt_25 rfl rfl (by omega) (fun hb3 => ?_) (fun hb3 => ?_)
      · refine me1 (pc' := 43) (L' := [(0, .ref p), (1, ii i)]) (S' := [.ref p]) dm_X10_numberAt_42 rfl rfl rfl rfl ?_
        refine me3 (pc' := 46) (S' := [.long (cnum v)]) dm_X10_numberAt_43 (g_get (v := .long (cnum v)) hp rfl rfl (by omega)) rfl rfl rfl ?_
        refine y_ret (r := some (.long (cnum v))) dm_X10_numberAt_46 rfl rfl rfl ?_
        exact ⟨congrArg some (congrArg Value.long (vnum_c (by first | omega | (rcases hcase with hc | hc | hc <;> omega))).symm), rfl⟩
      · refine me1 (pc' := 29) (L' := [(0, .ref p), (1, ii i)]) (S' := [.ref p]) dm_X10_numberAt_28 rfl rfl rfl rfl ?_
        refine me3 (pc' := 32) (S' := [.ref row]) dm_X10_numberAt_29 (g_get (v := .ref row) hp rfl rfl (by omega)) rfl rfl rfl ?_
        refine me1 (pc' := 33) (L' := [(0, .ref p), (1, ii i)]) (S' := [.ref p, .ref row]) dm_X10_numberAt_32 rfl rfl rfl rfl ?_
        refine me3 (pc' := 36) (S' := [ii (fr : Int), .ref row]) dm_X10_numberAt_33 (g_get (v := ii (fr : Int)) hp rfl rfl (by omega)) rfl rfl rfl ?_
        refine me1 (pc' := 37) (L' := [(0, .ref p), (1, ii i)]) (S' := [ii i, ii (fr : Int), .ref row]) dm_X10_numberAt_36 rfl rfl rfl rfl ?_
        refine y_iadd (a := (fr : Int)) (b := i) dm_X10_numberAt_37 (pc' := 38) rfl ?_
        refine me3 (pc' := 39) (S' := [.long (f (((fr : Int) + i).toNat))]) dm_X10_numberAt_38 (yh_rald (w := f (((fr : Int) + i).toNat)) hrow (by omega) (by omega) rfl) rfl rfl rfl ?_
        refine me2 (pc' := 46) (S' := [.long (f (((fr : Int) + i).toNat))]) dm_X10_numberAt_39 rfl rfl rfl ?_
        refine y_ret (r := some (.long (f (((fr : Int) + i).toNat)))) dm_X10_numberAt_46 rfl rfl rfl ?_
        have hk : 2 ≤ vk v ∧ vk v ≤ 6 := by rcases hcase with hc | hc | hc <;> omega
        refine ⟨congrArg some (congrArg Value.long ?_), rfl⟩
        have hq := vq_sz (d := e) hk.1 hk.2
        obtain ⟨k, rfl⟩ : ∃ k : Nat, i = (k : Int) := ⟨i.toNat, by omega⟩
        rw [vnum_r hk.1 (by omega) (by omega), show ((fr : Int) + (k : Int)).toNat = fr + k by omega]
        exact (hF hk.1 hk.2).2 k (by omega)
set_option maxRecDepth 20000 in
theorem pm_X10_numbers : mj_mmof pg_ms 84 = some ((⟨"ArrayCalculator$Value", "numbers", "()I"⟩, prog_12_method_23_code, 1, (Option.some Jvm.ClassFile.FieldType.int)), 10, false, mj_dec prog_12_method_23_code) := rfl
theorem dm_X10_numbers_0 : mj_dec prog_12_method_23_code 0 = some (.aload_n 0, 1) := by decide +kernel
theorem dm_X10_numbers_1 : mj_dec prog_12_method_23_code 1 = some (.getfield 9, 3) := by decide +kernel
theorem dm_X10_numbers_4 : mj_dec prog_12_method_23_code 4 = some (.bipush 7, 2) := by decide +kernel
theorem dm_X10_numbers_6 : mj_dec prog_12_method_23_code 6 = some (.if_icmp .ne 5, 3) := by decide +kernel
theorem dm_X10_numbers_9 : mj_dec prog_12_method_23_code 9 = some (.iconst 0, 1) := by decide +kernel
theorem dm_X10_numbers_10 : mj_dec prog_12_method_23_code 10 = some (.ireturn, 1) := by decide +kernel
theorem dm_X10_numbers_11 : mj_dec prog_12_method_23_code 11 = some (.aload_n 0, 1) := by decide +kernel
theorem dm_X10_numbers_12 : mj_dec prog_12_method_23_code 12 = some (.getfield 9, 3) := by decide +kernel
theorem dm_X10_numbers_15 : mj_dec prog_12_method_23_code 15 = some (.ifCond .eq 11, 3) := by decide +kernel
theorem dm_X10_numbers_18 : mj_dec prog_12_method_23_code 18 = some (.aload_n 0, 1) := by decide +kernel
theorem dm_X10_numbers_19 : mj_dec prog_12_method_23_code 19 = some (.getfield 9, 3) := by decide +kernel
theorem dm_X10_numbers_22 : mj_dec prog_12_method_23_code 22 = some (.iconst 1, 1) := by decide +kernel
theorem dm_X10_numbers_23 : mj_dec prog_12_method_23_code 23 = some (.if_icmp .ne 7, 3) := by decide +kernel
theorem dm_X10_numbers_26 : mj_dec prog_12_method_23_code 26 = some (.iconst 1, 1) := by decide +kernel
theorem dm_X10_numbers_27 : mj_dec prog_12_method_23_code 27 = some (.goto 9, 3) := by decide +kernel
theorem dm_X10_numbers_30 : mj_dec prog_12_method_23_code 30 = some (.aload_n 0, 1) := by decide +kernel
theorem dm_X10_numbers_31 : mj_dec prog_12_method_23_code 31 = some (.getfield 36, 3) := by decide +kernel
theorem dm_X10_numbers_34 : mj_dec prog_12_method_23_code 34 = some (.iconst 1, 1) := by decide +kernel
theorem dm_X10_numbers_35 : mj_dec prog_12_method_23_code 35 = some (.isub, 1) := by decide +kernel
theorem dm_X10_numbers_36 : mj_dec prog_12_method_23_code 36 = some (.ireturn, 1) := by decide +kernel
theorem c_numbers {xt : mj_X} {d e p : Nat} {A : Nat → Prop} {h : mj_H} {v : VV}  (hd : 1 ≤ d) (hv : cv A h (e + 1) p v)  : pgP xt d 84 [.ref p] h (ii (vq v : Int)) := by
  obtain ⟨hw, ⟨hp2, hpA⟩, hsz, hlv, row, fr, vals, hp, hfr, h1, h3, h7⟩ := id hv
  have hm := vw1_m hw
  have hcase : (vk v ≤ 1 ∧ vq v = 1) ∨ (2 ≤ vk v ∧ vk v ≤ 6 ∧ vsz (e + 1) v = 1 + vq v) ∨ (vk v = 7 ∧ vq v = 0) := by
    by_cases a : vk v ≤ 1
    · exact Or.inl ⟨a, vq_1 hw a⟩
    · by_cases b : vk v = 7
      · exact Or.inr (Or.inr ⟨b, vq_7 b⟩)
      · exact Or.inr (Or.inl ⟨by omega, by omega, vq_sz (by omega) (by omega)⟩)
  refine x_enter pm_X10_numbers (L0 := [(0, .ref p)]) rfl (Nat.le_of_ble_eq_true rfl) (by omega) ?_
  refine me1 (pc' := 1) (L' := [(0, .ref p)]) (S' := [.ref p]) dm_X10_numbers_0 rfl rfl rfl rfl ?_
  refine me3 (pc' := 4) (S' := [ii (vk v : Int)]) dm_X10_numbers_1 (g_get (v := ii (vk v : Int)) hp rfl rfl (by omega)) rfl rfl rfl ?_
  refine me0 (pc' := 6) (S' := [ii 7, ii (vk v : Int)]) dm_X10_numbers_4 rfl rfl rfl rfl ?_
  refine y_2ne (a := (vk v : Int)) (b := 7) (t := 11) (pc' := 9) dm_X10_numbers_6 rfl rfl (by omega) (fun hb1 => ?_) (fun hb1 => ?_)
  · refine me1 (pc' := 12) (L' := [(0, .ref p)]) (S' := [.ref p]) dm_X10_numbers_11 rfl rfl rfl rfl ?_
    refine me3 (pc' := 15) (S' := [ii (vk v : Int)]) dm_X10_numbers_12 (g_get (v := ii (vk v : Int)) hp rfl rfl (by omega)) rfl rfl rfl ?_
    refine y_1eq (a := (vk v : Int)) (t := 26) (pc' := 18) dm_X10_numbers_15 rfl rfl (by omega) (fun hb2 => ?_) (fun hb2 => ?_)
    · refine me0 (pc' := 27) (S' := [ii 1]) dm_X10_numbers_26 rfl rfl rfl rfl ?_
      refine me2 (pc' := 36) (S' := [ii 1]) dm_X10_numbers_27 rfl rfl rfl ?_
      refine y_ret (r := some (ii 1)) dm_X10_numbers_36 rfl rfl rfl ?_
      exact ⟨congrArg some (n_ii (by omega)), rfl⟩
    · refine me1 (pc' := 19) (L' := [(0, .ref p)]) (S' := [.ref p]) dm_X10_numbers_18 rfl rfl rfl rfl ?_
      refine me3 (pc' := 22) (S' := [ii (vk v : Int)]) dm_X10_numbers_19 (g_get (v := ii (vk v : Int)) hp rfl rfl (by omega)) rfl rfl rfl ?_
      refine me0 (pc' := 23) (S' := [ii 1, ii (vk v : Int)]) dm_X10_numbers_22 rfl rfl rfl rfl ?_
      refine y_2ne (a := (vk v : Int)) (b := 1) (t := 30) (pc' := 26) dm_X10_numbers_23 rfl rfl (by omega) (fun hb3 => ?_) (fun hb3 => ?_)
      · refine me1 (pc' := 31) (L' := [(0, .ref p)]) (S' := [.ref p]) dm_X10_numbers_30 rfl rfl rfl rfl ?_
        refine me3 (pc' := 34) (S' := [ii (vsz (e + 1) v : Int)]) dm_X10_numbers_31 (g_get (v := ii (vsz (e + 1) v : Int)) hp rfl rfl (by omega)) rfl rfl rfl ?_
        refine me0 (pc' := 35) (S' := [ii 1, ii (vsz (e + 1) v : Int)]) dm_X10_numbers_34 rfl rfl rfl rfl ?_
        refine y_isub (a := (vsz (e + 1) v : Int)) (b := 1) dm_X10_numbers_35 (pc' := 36) rfl ?_
        refine y_ret (r := some (ii ((vsz (e + 1) v : Int) - 1))) dm_X10_numbers_36 rfl rfl rfl ?_
        exact ⟨congrArg some (n_ii (by omega)), rfl⟩
      · refine me0 (pc' := 27) (S' := [ii 1]) dm_X10_numbers_26 rfl rfl rfl rfl ?_
        refine me2 (pc' := 36) (S' := [ii 1]) dm_X10_numbers_27 rfl rfl rfl ?_
        refine y_ret (r := some (ii 1)) dm_X10_numbers_36 rfl rfl rfl ?_
        exact ⟨congrArg some (n_ii (by omega)), rfl⟩
  · refine me0 (pc' := 10) (S' := [ii 0]) dm_X10_numbers_9 rfl rfl rfl rfl ?_
    refine y_ret (r := some (ii 0)) dm_X10_numbers_10 rfl rfl rfl ?_
    exact ⟨congrArg some (n_ii (by omega)), rfl⟩
set_option maxRecDepth 20000 in
theorem pm_X10_valueAt : mj_mmof pg_ms 77 = some ((⟨"ArrayCalculator$Value", "valueAt", "(I)LArrayCalculator$Value;"⟩, prog_12_method_21_code, 2, (Option.some (Jvm.ClassFile.FieldType.object "ArrayCalculator$Value"))), 10, false, mj_dec prog_12_method_21_code) := rfl
theorem dm_X10_valueAt_0 : mj_dec prog_12_method_21_code 0 = some (.aload_n 0, 1) := by decide +kernel
theorem dm_X10_valueAt_1 : mj_dec prog_12_method_21_code 1 = some (.getfield 23, 3) := by decide +kernel
theorem dm_X10_valueAt_4 : mj_dec prog_12_method_21_code 4 = some (.ifnull 43, 3) := by decide +kernel
theorem dm_X10_valueAt_47 : mj_dec prog_12_method_21_code 47 = some (.aload_n 0, 1) := by decide +kernel
theorem dm_X10_valueAt_48 : mj_dec prog_12_method_21_code 48 = some (.areturn, 1) := by decide +kernel
theorem c_valueAtF {xt : mj_X} {d e p : Nat} {A : Nat → Prop} {h : mj_H} {v : VV} {i : Int} (hd : 1 ≤ d) (hv : cv A h (e + 1) p v) (hk : vk v ≠ 7) : pgP xt d 77 [.ref p, ii i] h (.ref p) := by
  obtain ⟨hw, ⟨hp2, hpA⟩, hsz, hlv, row, fr, vals, hp, hfr, h1, h3, h7⟩ := id hv
  have hm := vw1_m hw
  have hk6 : vk v ≤ 6 := by clear h1 h3 h7; omega
  have hvn : vals = .null := by
    by_cases a : vk v ≤ 1
    · exact (h1 a).2.2
    · exact (h3 (Nat.not_le.mp a) hk6).1
  subst hvn
  clear h1 h3 h7
  refine x_enter pm_X10_valueAt (L0 := [(0, .ref p), (1, ii i)]) rfl (Nat.le_of_ble_eq_true rfl) (by omega) ?_
  refine me1 (pc' := 1) (L' := [(0, .ref p), (1, ii i)]) (S' := [.ref p]) dm_X10_valueAt_0 rfl rfl rfl rfl ?_
  refine me3 (pc' := 4) (S' := [.null]) dm_X10_valueAt_1 (g_get (v := .null) hp rfl rfl (by omega)) rfl rfl rfl ?_
  refine me2 (pc' := 47) (S' := []) dm_X10_valueAt_4 rfl rfl rfl ?_
  refine me1 (pc' := 48) (L' := [(0, .ref p), (1, ii i)]) (S' := [.ref p]) dm_X10_valueAt_47 rfl rfl rfl rfl ?_
  refine y_ret (r := some (.ref p)) dm_X10_valueAt_48 rfl rfl rfl ?_
  exact ⟨congrArg some (rfl), rfl⟩
theorem dm_X10_valueAt_7 : mj_dec prog_12_method_21_code 7 = some (.iload_n 1, 1) := by decide +kernel
theorem dm_X10_valueAt_8 : mj_dec prog_12_method_21_code 8 = some (.ifCond .lt 39, 3) := by decide +kernel
theorem dm_X10_valueAt_11 : mj_dec prog_12_method_21_code 11 = some (.iload_n 1, 1) := by decide +kernel
theorem dm_X10_valueAt_12 : mj_dec prog_12_method_21_code 12 = some (.aload_n 0, 1) := by decide +kernel
theorem dm_X10_valueAt_13 : mj_dec prog_12_method_21_code 13 = some (.getfield 30, 3) := by decide +kernel
theorem dm_X10_valueAt_16 : mj_dec prog_12_method_21_code 16 = some (.if_icmp .ge 31, 3) := by decide +kernel
theorem dm_X10_valueAt_19 : mj_dec prog_12_method_21_code 19 = some (.aload_n 0, 1) := by decide +kernel
theorem dm_X10_valueAt_20 : mj_dec prog_12_method_21_code 20 = some (.getfield 27, 3) := by decide +kernel
theorem dm_X10_valueAt_23 : mj_dec prog_12_method_21_code 23 = some (.iload_n 1, 1) := by decide +kernel
theorem dm_X10_valueAt_24 : mj_dec prog_12_method_21_code 24 = some (.iadd, 1) := by decide +kernel
theorem dm_X10_valueAt_25 : mj_dec prog_12_method_21_code 25 = some (.aload_n 0, 1) := by decide +kernel
theorem dm_X10_valueAt_26 : mj_dec prog_12_method_21_code 26 = some (.getfield 23, 3) := by decide +kernel
theorem dm_X10_valueAt_29 : mj_dec prog_12_method_21_code 29 = some (.arraylength, 1) := by decide +kernel
theorem dm_X10_valueAt_30 : mj_dec prog_12_method_21_code 30 = some (.if_icmp .ge 17, 3) := by decide +kernel
theorem dm_X10_valueAt_33 : mj_dec prog_12_method_21_code 33 = some (.aload_n 0, 1) := by decide +kernel
theorem dm_X10_valueAt_34 : mj_dec prog_12_method_21_code 34 = some (.getfield 23, 3) := by decide +kernel
theorem dm_X10_valueAt_37 : mj_dec prog_12_method_21_code 37 = some (.aload_n 0, 1) := by decide +kernel
theorem dm_X10_valueAt_38 : mj_dec prog_12_method_21_code 38 = some (.getfield 27, 3) := by decide +kernel
theorem dm_X10_valueAt_41 : mj_dec prog_12_method_21_code 41 = some (.iload_n 1, 1) := by decide +kernel
theorem dm_X10_valueAt_42 : mj_dec prog_12_method_21_code 42 = some (.iadd, 1) := by decide +kernel
theorem dm_X10_valueAt_43 : mj_dec prog_12_method_21_code 43 = some (.aaload, 1) := by decide +kernel
theorem dm_X10_valueAt_44 : mj_dec prog_12_method_21_code 44 = some (.goto 4, 3) := by decide +kernel
theorem c_valueAt7 {xt : mj_X} {d e p : Nat} {A : Nat → Prop} {h : mj_H} {v : VV} {i : Int} (hd : 1 ≤ d) (hv : cv A h (e + 1) p v) (hk : vk v = 7) (hi0 : 0 ≤ i) (hi : i < vm v) : ∃ q, cv A h e q (vd v i.toNat) ∧ pgP xt d 77 [.ref p, ii i] h (.ref q) := by
  obtain ⟨hw, ⟨hp2, hpA⟩, hsz, hlv, row, fr, vals, hp, hfr, h1, h3, h7⟩ := id hv
  have hm := vw1_m hw
  rcases (h7 hk).2 with ⟨z, -⟩ | ⟨a, n, g, rfl, ha2, hga, haA, hn, hb, hq⟩
  · omega
  obtain ⟨q, hq1, hq2⟩ := hq i.toNat (by omega)
  have hq3 : g ((fr : Int) + i).toNat = some q := by rw [← hq1]; congr 1; omega
  refine ⟨q, hq2, ?_⟩
  refine x_enter pm_X10_valueAt (L0 := [(0, .ref p), (1, ii i)]) rfl (Nat.le_of_ble_eq_true rfl) (by omega) ?_
  refine me1 (pc' := 1) (L' := [(0, .ref p), (1, ii i)]) (S' := [.ref p]) dm_X10_valueAt_0 rfl rfl rfl rfl ?_
  refine me3 (pc' := 4) (S' := [.ref a]) dm_X10_valueAt_1 (g_get (v := .ref a) hp rfl rfl (by omega)) rfl rfl rfl ?_
  refine me2 (pc' := 7) (S' := []) dm_X10_valueAt_4 rfl rfl rfl ?_
  refine me1 (pc' := 8) (L' := [(0, .ref p), (1, ii i)]) (S' := [ii i]) dm_X10_valueAt_7 rfl rfl rfl rfl ?_
  refine y_1lt (a := i) (t := 47) (pc' := 11) dm_X10_valueAt_8 rfl rfl (by omega) (fun hb1 => ?_) (fun hb1 => ?_)
  · refine me1 (pc' := 48) (L' := [(0, .ref p), (1, ii i)]) (S' := [.ref p]) dm_X10_valueAt_47 rfl rfl rfl rfl ?_
    refine y_ret (r := some (.ref p)) dm_X10_valueAt_48 rfl rfl rfl ?_
    exfalso; omega
  · refine me1 (pc' := 12) (L' := [(0, .ref p), (1, ii i)]) (S' := [ii i]) dm_X10_valueAt_11 rfl rfl rfl rfl ?_
    refine me1 (pc' := 13) (L' := [(0, .ref p), (1, ii i)]) (S' := [.ref p, ii i]) dm_X10_valueAt_12 rfl rfl rfl rfl ?_
    refine me3 (pc' := 16) (S' := [ii (vm v : Int), ii i]) dm_X10_valueAt_13 (g_get (v := ii (vm v : Int)) hp rfl rfl (by omega)) rfl rfl rfl ?_
    refine y_2ge (a := i) (b := (vm v : Int)) (t := 47) (pc' := 19) dm_X10_valueAt_16 rfl rfl (by omega) (fun hb2 => ?_) (fun hb2 => ?_)
    · refine me1 (pc' := 48) (L' := [(0, .ref p), (1, ii i)]) (S' := [.ref p]) dm_X10_valueAt_47 rfl rfl rfl rfl ?_
      refine y_ret (r := some (.ref p)) dm_X10_valueAt_48 rfl rfl rfl ?_
      exfalso; omega
    · refine me1 (pc' := 20) (L' := [(0, .ref p), (1, ii i)]) (S' := [.ref p]) dm_X10_valueAt_19 rfl rfl rfl rfl ?_
      refine me3 (pc' := 23) (S' := [ii (fr : Int)]) dm_X10_valueAt_20 (g_get (v := ii (fr : Int)) hp rfl rfl (by omega)) rfl rfl rfl ?_
      refine me1 (pc' := 24) (L' := [(0, .ref p), (1, ii i)]) (S' := [ii i, ii (fr : Int)]) dm_X10_valueAt_23 rfl rfl rfl rfl ?_
      refine y_iadd (a := (fr : Int)) (b := i) dm_X10_valueAt_24 (pc' := 25) rfl ?_
      refine me1 (pc' := 26) (L' := [(0, .ref p), (1, ii i)]) (S' := [.ref p, ii ((fr : Int) + i)]) dm_X10_valueAt_25 rfl rfl rfl rfl ?_
      refine me3 (pc' := 29) (S' := [.ref a, ii ((fr : Int) + i)]) dm_X10_valueAt_26 (g_get (v := .ref a) hp rfl rfl (by omega)) rfl rfl rfl ?_
      refine me3 (pc' := 30) (S' := [ii n, ii ((fr : Int) + i)]) dm_X10_valueAt_29 (yh_len (n := n) rfl hga (by omega)) rfl rfl rfl ?_
      refine y_2ge (a := (fr : Int) + i) (b := n) (t := 47) (pc' := 33) dm_X10_valueAt_30 rfl rfl (by omega) (fun hb3 => ?_) (fun hb3 => ?_)
      · refine me1 (pc' := 48) (L' := [(0, .ref p), (1, ii i)]) (S' := [.ref p]) dm_X10_valueAt_47 rfl rfl rfl rfl ?_
        refine y_ret (r := some (.ref p)) dm_X10_valueAt_48 rfl rfl rfl ?_
        exfalso; omega
      · refine me1 (pc' := 34) (L' := [(0, .ref p), (1, ii i)]) (S' := [.ref p]) dm_X10_valueAt_33 rfl rfl rfl rfl ?_
        refine me3 (pc' := 37) (S' := [.ref a]) dm_X10_valueAt_34 (g_get (v := .ref a) hp rfl rfl (by omega)) rfl rfl rfl ?_
        refine me1 (pc' := 38) (L' := [(0, .ref p), (1, ii i)]) (S' := [.ref p, .ref a]) dm_X10_valueAt_37 rfl rfl rfl rfl ?_
        refine me3 (pc' := 41) (S' := [ii (fr : Int), .ref a]) dm_X10_valueAt_38 (g_get (v := ii (fr : Int)) hp rfl rfl (by omega)) rfl rfl rfl ?_
        refine me1 (pc' := 42) (L' := [(0, .ref p), (1, ii i)]) (S' := [ii i, ii (fr : Int), .ref a]) dm_X10_valueAt_41 rfl rfl rfl rfl ?_
        refine y_iadd (a := (fr : Int)) (b := i) dm_X10_valueAt_42 (pc' := 43) rfl ?_
        refine me3 (pc' := 44) (S' := [.ref q]) dm_X10_valueAt_43 (yh_aald (w := some q) rfl hga (by omega) (by omega) (by omega) (by omega) hq3) rfl rfl rfl ?_
        refine me2 (pc' := 48) (S' := [.ref q]) dm_X10_valueAt_44 rfl rfl rfl ?_
        refine y_ret (r := some (.ref q)) dm_X10_valueAt_48 rfl rfl rfl ?_
        exact ⟨rfl, rfl⟩
set_option maxRecDepth 20000 in
theorem pm_X10_init : mj_mmof pg_ms 10 = some ((⟨"ArrayCalculator$Value", "<init>", "(IJ[JIII)V"⟩, prog_12_method_1_code, 8, (Option.none : Option Jvm.ClassFile.FieldType)), 10, true, mj_dec prog_12_method_1_code) := rfl
theorem dm_X10_init_0 : mj_dec prog_12_method_1_code 0 = some (.aload_n 0, 1) := by decide +kernel
theorem dm_X10_init_1 : mj_dec prog_12_method_1_code 1 = some (.invokespecial 3, 3) := by decide +kernel
theorem dm_X10_init_4 : mj_dec prog_12_method_1_code 4 = some (.aload_n 0, 1) := by decide +kernel
theorem dm_X10_init_5 : mj_dec prog_12_method_1_code 5 = some (.iload_n 1, 1) := by decide +kernel
theorem dm_X10_init_6 : mj_dec prog_12_method_1_code 6 = some (.putfield 9, 3) := by decide +kernel
theorem dm_X10_init_9 : mj_dec prog_12_method_1_code 9 = some (.aload_n 0, 1) := by decide +kernel
theorem dm_X10_init_10 : mj_dec prog_12_method_1_code 10 = some (.lload_n 2, 1) := by decide +kernel
theorem dm_X10_init_11 : mj_dec prog_12_method_1_code 11 = some (.putfield 15, 3) := by decide +kernel
theorem dm_X10_init_14 : mj_dec prog_12_method_1_code 14 = some (.aload_n 0, 1) := by decide +kernel
theorem dm_X10_init_15 : mj_dec prog_12_method_1_code 15 = some (.aload 4, 2) := by decide +kernel
theorem dm_X10_init_17 : mj_dec prog_12_method_1_code 17 = some (.putfield 19, 3) := by decide +kernel
theorem dm_X10_init_20 : mj_dec prog_12_method_1_code 20 = some (.aload_n 0, 1) := by decide +kernel
theorem dm_X10_init_21 : mj_dec prog_12_method_1_code 21 = some (.aconst_null, 1) := by decide +kernel
theorem dm_X10_init_22 : mj_dec prog_12_method_1_code 22 = some (.putfield 23, 3) := by decide +kernel
theorem dm_X10_init_25 : mj_dec prog_12_method_1_code 25 = some (.aload_n 0, 1) := by decide +kernel
theorem dm_X10_init_26 : mj_dec prog_12_method_1_code 26 = some (.iload 5, 2) := by decide +kernel
theorem dm_X10_init_28 : mj_dec prog_12_method_1_code 28 = some (.putfield 27, 3) := by decide +kernel
theorem dm_X10_init_31 : mj_dec prog_12_method_1_code 31 = some (.aload_n 0, 1) := by decide +kernel
theorem dm_X10_init_32 : mj_dec prog_12_method_1_code 32 = some (.iload 6, 2) := by decide +kernel
theorem dm_X10_init_34 : mj_dec prog_12_method_1_code 34 = some (.putfield 30, 3) := by decide +kernel
theorem dm_X10_init_37 : mj_dec prog_12_method_1_code 37 = some (.aload_n 0, 1) := by decide +kernel
theorem dm_X10_init_38 : mj_dec prog_12_method_1_code 38 = some (.iload 7, 2) := by decide +kernel
theorem dm_X10_init_40 : mj_dec prog_12_method_1_code 40 = some (.putfield 33, 3) := by decide +kernel
theorem dm_X10_init_43 : mj_dec prog_12_method_1_code 43 = some (.iload_n 1, 1) := by decide +kernel
theorem dm_X10_init_44 : mj_dec prog_12_method_1_code 44 = some (.bipush 6, 2) := by decide +kernel
theorem dm_X10_init_46 : mj_dec prog_12_method_1_code 46 = some (.if_icmp .ne 22, 3) := by decide +kernel
theorem dm_X10_init_49 : mj_dec prog_12_method_1_code 49 = some (.aload_n 0, 1) := by decide +kernel
theorem dm_X10_init_50 : mj_dec prog_12_method_1_code 50 = some (.iconst 1, 1) := by decide +kernel
theorem dm_X10_init_51 : mj_dec prog_12_method_1_code 51 = some (.iload 6, 2) := by decide +kernel
theorem dm_X10_init_53 : mj_dec prog_12_method_1_code 53 = some (.iload 7, 2) := by decide +kernel
theorem dm_X10_init_55 : mj_dec prog_12_method_1_code 55 = some (.imul, 1) := by decide +kernel
theorem dm_X10_init_56 : mj_dec prog_12_method_1_code 56 = some (.iadd, 1) := by decide +kernel
theorem dm_X10_init_57 : mj_dec prog_12_method_1_code 57 = some (.putfield 36, 3) := by decide +kernel
theorem dm_X10_init_60 : mj_dec prog_12_method_1_code 60 = some (.aload_n 0, 1) := by decide +kernel
theorem dm_X10_init_61 : mj_dec prog_12_method_1_code 61 = some (.iconst 2, 1) := by decide +kernel
theorem dm_X10_init_62 : mj_dec prog_12_method_1_code 62 = some (.putfield 39, 3) := by decide +kernel
theorem dm_X10_init_65 : mj_dec prog_12_method_1_code 65 = some (.goto 39, 3) := by decide +kernel
theorem dm_X10_init_68 : mj_dec prog_12_method_1_code 68 = some (.iload_n 1, 1) := by decide +kernel
theorem dm_X10_init_69 : mj_dec prog_12_method_1_code 69 = some (.iconst 2, 1) := by decide +kernel
theorem dm_X10_init_70 : mj_dec prog_12_method_1_code 70 = some (.if_icmp .lt 24, 3) := by decide +kernel
theorem dm_X10_init_73 : mj_dec prog_12_method_1_code 73 = some (.iload_n 1, 1) := by decide +kernel
theorem dm_X10_init_74 : mj_dec prog_12_method_1_code 74 = some (.iconst 5, 1) := by decide +kernel
theorem dm_X10_init_75 : mj_dec prog_12_method_1_code 75 = some (.if_icmp .gt 19, 3) := by decide +kernel
theorem dm_X10_init_78 : mj_dec prog_12_method_1_code 78 = some (.aload_n 0, 1) := by decide +kernel
theorem dm_X10_init_79 : mj_dec prog_12_method_1_code 79 = some (.iconst 1, 1) := by decide +kernel
theorem dm_X10_init_80 : mj_dec prog_12_method_1_code 80 = some (.iload 6, 2) := by decide +kernel
theorem dm_X10_init_82 : mj_dec prog_12_method_1_code 82 = some (.iadd, 1) := by decide +kernel
theorem dm_X10_init_83 : mj_dec prog_12_method_1_code 83 = some (.putfield 36, 3) := by decide +kernel
theorem dm_X10_init_86 : mj_dec prog_12_method_1_code 86 = some (.aload_n 0, 1) := by decide +kernel
theorem dm_X10_init_87 : mj_dec prog_12_method_1_code 87 = some (.iconst 1, 1) := by decide +kernel
theorem dm_X10_init_88 : mj_dec prog_12_method_1_code 88 = some (.putfield 39, 3) := by decide +kernel
theorem dm_X10_init_91 : mj_dec prog_12_method_1_code 91 = some (.goto 13, 3) := by decide +kernel
theorem dm_X10_init_94 : mj_dec prog_12_method_1_code 94 = some (.aload_n 0, 1) := by decide +kernel
theorem dm_X10_init_95 : mj_dec prog_12_method_1_code 95 = some (.iconst 1, 1) := by decide +kernel
theorem dm_X10_init_96 : mj_dec prog_12_method_1_code 96 = some (.putfield 36, 3) := by decide +kernel
theorem dm_X10_init_99 : mj_dec prog_12_method_1_code 99 = some (.aload_n 0, 1) := by decide +kernel
theorem dm_X10_init_100 : mj_dec prog_12_method_1_code 100 = some (.iconst 0, 1) := by decide +kernel
theorem dm_X10_init_101 : mj_dec prog_12_method_1_code 101 = some (.putfield 39, 3) := by decide +kernel
theorem dm_X10_init_104 : mj_dec prog_12_method_1_code 104 = some (.return_, 1) := by decide +kernel
theorem c_newV {xt : mj_X} {d p row : Nat} {h H : mj_H} {form fr many cols : Int} {num : Int64} (hd : 2 ≤ d) (hp : h[p]? = some c0V) (hp2 : 2 ≤ p) (hr1 : -2147483648 ≤ form ∧ form ≤ 2147483647) (hr2 : -2147483648 ≤ fr ∧ fr ≤ 2147483647) (hr3 : -2147483648 ≤ many ∧ many ≤ 2147483647) (hr4 : -2147483648 ≤ cols ∧ cols ≤ 2147483647) (hH : h.set p (cVal form num row fr many cols) = H) : pgN xt d 10 [.ref p, ii form, .long num, .ref row, ii fr, ii many, ii cols] h (fun h' => h' = H) := by
  refine x_enter pm_X10_init (L0 := [(0, .ref p), (1, ii form), (2, .long num), (4, .ref row), (5, ii fr), (6, ii many), (7, ii cols)]) rfl (Nat.le_of_ble_eq_true rfl) (by omega) ?_
  refine me1 (pc' := 1) (L' := [(0, .ref p), (1, ii form), (2, .long num), (4, .ref row), (5, ii fr), (6, ii many), (7, ii cols)]) (S' := [.ref p]) dm_X10_init_0 rfl rfl rfl rfl ?_
  refine me4o (pc' := 4) (rest := []) dm_X10_init_1 rfl rfl (by omega) rfl rfl rfl ?_
  refine me1 (pc' := 5) (L' := [(0, .ref p), (1, ii form), (2, .long num), (4, .ref row), (5, ii fr), (6, ii many), (7, ii cols)]) (S' := [.ref p]) dm_X10_init_4 rfl rfl rfl rfl ?_
  refine me1 (pc' := 6) (L' := [(0, .ref p), (1, ii form), (2, .long num), (4, .ref row), (5, ii fr), (6, ii many), (7, ii cols)]) (S' := [ii form, .ref p]) dm_X10_init_5 rfl rfl rfl rfl ?_
  refine me3 (pc' := 9) (S' := []) (h1 := (h).set p (cO 10 [ii form, .long (Int64.ofInt 0), .null, .null, ii 0, ii 0, ii 0, ii 0, ii 0])) dm_X10_init_6 (g_put (fs' := [ii form, .long (Int64.ofInt 0), .null, .null, ii 0, ii 0, ii 0, ii 0, ii 0]) hp rfl rfl rfl (by simp) rfl (by decide) (fun _ => rfl) (by omega)) rfl rfl rfl ?_
  refine me1 (pc' := 10) (L' := [(0, .ref p), (1, ii form), (2, .long num), (4, .ref row), (5, ii fr), (6, ii many), (7, ii cols)]) (S' := [.ref p]) dm_X10_init_9 rfl rfl rfl rfl ?_
  refine me1 (pc' := 11) (L' := [(0, .ref p), (1, ii form), (2, .long num), (4, .ref row), (5, ii fr), (6, ii many), (7, ii cols)]) (S' := [.long num, .ref p]) dm_X10_init_10 rfl rfl rfl rfl ?_
  refine me3 (pc' := 14) (S' := []) (h1 := (h).set p (cO 10 [ii form, .long num, .null, .null, ii 0, ii 0, ii 0, ii 0, ii 0])) dm_X10_init_11 (g_put (fs' := [ii form, .long num, .null, .null, ii 0, ii 0, ii 0, ii 0, ii 0]) (hl_set (hl_lt hp)) rfl (by rw [List.set_set]) rfl (by simp) rfl (by decide) (fun _ => rfl) (by omega)) rfl rfl rfl ?_
  refine me1 (pc' := 15) (L' := [(0, .ref p), (1, ii form), (2, .long num), (4, .ref row), (5, ii fr), (6, ii many), (7, ii cols)]) (S' := [.ref p]) dm_X10_init_14 rfl rfl rfl rfl ?_
  refine me1 (pc' := 17) (L' := [(0, .ref p), (1, ii form), (2, .long num), (4, .ref row), (5, ii fr), (6, ii many), (7, ii cols)]) (S' := [.ref row, .ref p]) dm_X10_init_15 rfl rfl rfl rfl ?_
  refine me3 (pc' := 20) (S' := []) (h1 := (h).set p (cO 10 [ii form, .long num, .ref row, .null, ii 0, ii 0, ii 0, ii 0, ii 0])) dm_X10_init_17 (g_put (fs' := [ii form, .long num, .ref row, .null, ii 0, ii 0, ii 0, ii 0, ii 0]) (hl_set (hl_lt hp)) rfl (by rw [List.set_set]) rfl (by simp) rfl (by decide) (fun _ => rfl) (by omega)) rfl rfl rfl ?_
  refine me1 (pc' := 21) (L' := [(0, .ref p), (1, ii form), (2, .long num), (4, .ref row), (5, ii fr), (6, ii many), (7, ii cols)]) (S' := [.ref p]) dm_X10_init_20 rfl rfl rfl rfl ?_
  refine me0 (pc' := 22) (S' := [.null, .ref p]) dm_X10_init_21 rfl rfl rfl rfl ?_
  refine me3 (pc' := 25) (S' := []) (h1 := (h).set p (cO 10 [ii form, .long num, .ref row, .null, ii 0, ii 0, ii 0, ii 0, ii 0])) dm_X10_init_22 (g_put (fs' := [ii form, .long num, .ref row, .null, ii 0, ii 0, ii 0, ii 0, ii 0]) (hl_set (hl_lt hp)) rfl (by rw [List.set_set]) rfl (by simp) rfl (by decide) (fun _ => rfl) (by omega)) rfl rfl rfl ?_
  refine me1 (pc' := 26) (L' := [(0, .ref p), (1, ii form), (2, .long num), (4, .ref row), (5, ii fr), (6, ii many), (7, ii cols)]) (S' := [.ref p]) dm_X10_init_25 rfl rfl rfl rfl ?_
  refine me1 (pc' := 28) (L' := [(0, .ref p), (1, ii form), (2, .long num), (4, .ref row), (5, ii fr), (6, ii many), (7, ii cols)]) (S' := [ii fr, .ref p]) dm_X10_init_26 rfl rfl rfl rfl ?_
  refine me3 (pc' := 31) (S' := []) (h1 := (h).set p (cO 10 [ii form, .long num, .ref row, .null, ii fr, ii 0, ii 0, ii 0, ii 0])) dm_X10_init_28 (g_put (fs' := [ii form, .long num, .ref row, .null, ii fr, ii 0, ii 0, ii 0, ii 0]) (hl_set (hl_lt hp)) rfl (by rw [List.set_set]) rfl (by simp) rfl (by decide) (fun _ => rfl) (by omega)) rfl rfl rfl ?_
  refine me1 (pc' := 32) (L' := [(0, .ref p), (1, ii form), (2, .long num), (4, .ref row), (5, ii fr), (6, ii many), (7, ii cols)]) (S' := [.ref p]) dm_X10_init_31 rfl rfl rfl rfl ?_
  refine me1 (pc' := 34) (L' := [(0, .ref p), (1, ii form), (2, .long num), (4, .ref row), (5, ii fr), (6, ii many), (7, ii cols)]) (S' := [ii many, .ref p]) dm_X10_init_32 rfl rfl rfl rfl ?_
  refine me3 (pc' := 37) (S' := []) (h1 := (h).set p (cO 10 [ii form, .long num, .ref row, .null, ii fr, ii many, ii 0, ii 0, ii 0])) dm_X10_init_34 (g_put (fs' := [ii form, .long num, .ref row, .null, ii fr, ii many, ii 0, ii 0, ii 0]) (hl_set (hl_lt hp)) rfl (by rw [List.set_set]) rfl (by simp) rfl (by decide) (fun _ => rfl) (by omega)) rfl rfl rfl ?_
  refine me1 (pc' := 38) (L' := [(0, .ref p), (1, ii form), (2, .long num), (4, .ref row), (5, ii fr), (6, ii many), (7, ii cols)]) (S' := [.ref p]) dm_X10_init_37 rfl rfl rfl rfl ?_
  refine me1 (pc' := 40) (L' := [(0, .ref p), (1, ii form), (2, .long num), (4, .ref row), (5, ii fr), (6, ii many), (7, ii cols)]) (S' := [ii cols, .ref p]) dm_X10_init_38 rfl rfl rfl rfl ?_
  refine me3 (pc' := 43) (S' := []) (h1 := (h).set p (cO 10 [ii form, .long num, .ref row, .null, ii fr, ii many, ii cols, ii 0, ii 0])) dm_X10_init_40 (g_put (fs' := [ii form, .long num, .ref row, .null, ii fr, ii many, ii cols, ii 0, ii 0]) (hl_set (hl_lt hp)) rfl (by rw [List.set_set]) rfl (by simp) rfl (by decide) (fun _ => rfl) (by omega)) rfl rfl rfl ?_
  refine me1 (pc' := 44) (L' := [(0, .ref p), (1, ii form), (2, .long num), (4, .ref row), (5, ii fr), (6, ii many), (7, ii cols)]) (S' := [ii form]) dm_X10_init_43 rfl rfl rfl rfl ?_
  refine me0 (pc' := 46) (S' := [ii 6, ii form]) dm_X10_init_44 rfl rfl rfl rfl ?_
  refine y_2ne (a := form) (b := 6) (t := 68) (pc' := 49) dm_X10_init_46 rfl rfl (by omega) (fun hb1 => ?_) (fun hb1 => ?_)
  · refine me1 (pc' := 69) (L' := [(0, .ref p), (1, ii form), (2, .long num), (4, .ref row), (5, ii fr), (6, ii many), (7, ii cols)]) (S' := [ii form]) dm_X10_init_68 rfl rfl rfl rfl ?_
    refine me0 (pc' := 70) (S' := [ii 2, ii form]) dm_X10_init_69 rfl rfl rfl rfl ?_
    refine y_2lt (a := form) (b := 2) (t := 94) (pc' := 73) dm_X10_init_70 rfl rfl (by omega) (fun hb2 => ?_) (fun hb2 => ?_)
    · refine me1 (pc' := 95) (L' := [(0, .ref p), (1, ii form), (2, .long num), (4, .ref row), (5, ii fr), (6, ii many), (7, ii cols)]) (S' := [.ref p]) dm_X10_init_94 rfl rfl rfl rfl ?_
      refine me0 (pc' := 96) (S' := [ii 1, .ref p]) dm_X10_init_95 rfl rfl rfl rfl ?_
      refine me3 (pc' := 99) (S' := []) (h1 := (h).set p (cO 10 [ii form, .long num, .ref row, .null, ii fr, ii many, ii cols, ii 1, ii 0])) dm_X10_init_96 (g_put (fs' := [ii form, .long num, .ref row, .null, ii fr, ii many, ii cols, ii 1, ii 0]) (hl_set (hl_lt hp)) rfl (by rw [List.set_set]) rfl (by simp) rfl (by decide) (fun _ => rfl) (by omega)) rfl rfl rfl ?_
      refine me1 (pc' := 100) (L' := [(0, .ref p), (1, ii form), (2, .long num), (4, .ref row), (5, ii fr), (6, ii many), (7, ii cols)]) (S' := [.ref p]) dm_X10_init_99 rfl rfl rfl rfl ?_
      refine me0 (pc' := 101) (S' := [ii 0, .ref p]) dm_X10_init_100 rfl rfl rfl rfl ?_
      refine me3 (pc' := 104) (S' := []) (h1 := (h).set p (cO 10 [ii form, .long num, .ref row, .null, ii fr, ii many, ii cols, ii 1, ii 0])) dm_X10_init_101 (g_put (fs' := [ii form, .long num, .ref row, .null, ii fr, ii many, ii cols, ii 1, ii 0]) (hl_set (hl_lt hp)) rfl (by rw [List.set_set]) rfl (by simp) rfl (by decide) (fun _ => rfl) (by omega)) rfl rfl rfl ?_
      refine y_ret (r := none) dm_X10_init_104 rfl rfl rfl ?_
      refine ⟨rfl, Eq.trans ?_ hH⟩
      congr 3
      unfold csz clv
      first | rw [if_pos (by omega), if_pos (by omega)] | rw [if_neg (by omega), if_pos (by omega), if_neg (by omega), if_pos (by omega)] | rw [if_neg (by omega), if_neg (by omega), if_neg (by omega), if_neg (by omega)]
    · refine me1 (pc' := 74) (L' := [(0, .ref p), (1, ii form), (2, .long num), (4, .ref row), (5, ii fr), (6, ii many), (7, ii cols)]) (S' := [ii form]) dm_X10_init_73 rfl rfl rfl rfl ?_
      refine me0 (pc' := 75) (S' := [ii 5, ii form]) dm_X10_init_74 rfl rfl rfl rfl ?_
      refine y_2gt (a := form) (b := 5) (t := 94) (pc' := 78) dm_X10_init_75 rfl rfl (by omega) (fun hb3 => ?_) (fun hb3 => ?_)
      · refine me1 (pc' := 95) (L' := [(0, .ref p), (1, ii form), (2, .long num), (4, .ref row), (5, ii fr), (6, ii many), (7, ii cols)]) (S' := [.ref p]) dm_X10_init_94 rfl rfl rfl rfl ?_
        refine me0 (pc' := 96) (S' := [ii 1, .ref p]) dm_X10_init_95 rfl rfl rfl rfl ?_
        refine me3 (pc' := 99) (S' := []) (h1 := (h).set p (cO 10 [ii form, .long num, .ref row, .null, ii fr, ii many, ii cols, ii 1, ii 0])) dm_X10_init_96 (g_put (fs' := [ii form, .long num, .ref row, .null, ii fr, ii many, ii cols, ii 1, ii 0]) (hl_set (hl_lt hp)) rfl (by rw [List.set_set]) rfl (by simp) rfl (by decide) (fun _ => rfl) (by omega)) rfl rfl rfl ?_
        refine me1 (pc' := 100) (L' := [(0, .ref p), (1, ii form), (2, .long num), (4, .ref row), (5, ii fr), (6, ii many), (7, ii cols)]) (S' := [.ref p]) dm_X10_init_99 rfl rfl rfl rfl ?_
        refine me0 (pc' := 101) (S' := [ii 0, .ref p]) dm_X10_init_100 rfl rfl rfl rfl ?_
        refine me3 (pc' := 104) (S' := []) (h1 := (h).set p (cO 10 [ii form, .long num, .ref row, .null, ii fr, ii many, ii cols, ii 1, ii 0])) dm_X10_init_101 (g_put (fs' := [ii form, .long num, .ref row, .null, ii fr, ii many, ii cols, ii 1, ii 0]) (hl_set (hl_lt hp)) rfl (by rw [List.set_set]) rfl (by simp) rfl (by decide) (fun _ => rfl) (by omega)) rfl rfl rfl ?_
        refine y_ret (r := none) dm_X10_init_104 rfl rfl rfl ?_
        refine ⟨rfl, Eq.trans ?_ hH⟩
        congr 3
        unfold csz clv
        first | rw [if_pos (by omega), if_pos (by omega)] | rw [if_neg (by omega), if_pos (by omega), if_neg (by omega), if_pos (by omega)] | rw [if_neg (by omega), if_neg (by omega), if_neg (by omega), if_neg (by omega)]
      · refine me1 (pc' := 79) (L' := [(0, .ref p), (1, ii form), (2, .long num), (4, .ref row), (5, ii fr), (6, ii many), (7, ii cols)]) (S' := [.ref p]) dm_X10_init_78 rfl rfl rfl rfl ?_
        refine me0 (pc' := 80) (S' := [ii 1, .ref p]) dm_X10_init_79 rfl rfl rfl rfl ?_
        refine me1 (pc' := 82) (L' := [(0, .ref p), (1, ii form), (2, .long num), (4, .ref row), (5, ii fr), (6, ii many), (7, ii cols)]) (S' := [ii many, ii 1, .ref p]) dm_X10_init_80 rfl rfl rfl rfl ?_
        refine y_iadd (a := 1) (b := many) dm_X10_init_82 (pc' := 83) rfl ?_
        refine me3 (pc' := 86) (S' := []) (h1 := (h).set p (cO 10 [ii form, .long num, .ref row, .null, ii fr, ii many, ii cols, ii (1 + many), ii 0])) dm_X10_init_83 (g_put (fs' := [ii form, .long num, .ref row, .null, ii fr, ii many, ii cols, ii (1 + many), ii 0]) (hl_set (hl_lt hp)) rfl (by rw [List.set_set]) rfl (by simp) rfl (by decide) (fun _ => rfl) (by omega)) rfl rfl rfl ?_
        refine me1 (pc' := 87) (L' := [(0, .ref p), (1, ii form), (2, .long num), (4, .ref row), (5, ii fr), (6, ii many), (7, ii cols)]) (S' := [.ref p]) dm_X10_init_86 rfl rfl rfl rfl ?_
        refine me0 (pc' := 88) (S' := [ii 1, .ref p]) dm_X10_init_87 rfl rfl rfl rfl ?_
        refine me3 (pc' := 91) (S' := []) (h1 := (h).set p (cO 10 [ii form, .long num, .ref row, .null, ii fr, ii many, ii cols, ii (1 + many), ii 1])) dm_X10_init_88 (g_put (fs' := [ii form, .long num, .ref row, .null, ii fr, ii many, ii cols, ii (1 + many), ii 1]) (hl_set (hl_lt hp)) rfl (by rw [List.set_set]) rfl (by simp) rfl (by decide) (fun _ => rfl) (by omega)) rfl rfl rfl ?_
        refine me2 (pc' := 104) (S' := []) dm_X10_init_91 rfl rfl rfl ?_
        refine y_ret (r := none) dm_X10_init_104 rfl rfl rfl ?_
        refine ⟨rfl, Eq.trans ?_ hH⟩
        congr 3
        unfold csz clv
        first | rw [if_pos (by omega), if_pos (by omega)] | rw [if_neg (by omega), if_pos (by omega), if_neg (by omega), if_pos (by omega)] | rw [if_neg (by omega), if_neg (by omega), if_neg (by omega), if_neg (by omega)]
  · refine me1 (pc' := 50) (L' := [(0, .ref p), (1, ii form), (2, .long num), (4, .ref row), (5, ii fr), (6, ii many), (7, ii cols)]) (S' := [.ref p]) dm_X10_init_49 rfl rfl rfl rfl ?_
    refine me0 (pc' := 51) (S' := [ii 1, .ref p]) dm_X10_init_50 rfl rfl rfl rfl ?_
    refine me1 (pc' := 53) (L' := [(0, .ref p), (1, ii form), (2, .long num), (4, .ref row), (5, ii fr), (6, ii many), (7, ii cols)]) (S' := [ii many, ii 1, .ref p]) dm_X10_init_51 rfl rfl rfl rfl ?_
    refine me1 (pc' := 55) (L' := [(0, .ref p), (1, ii form), (2, .long num), (4, .ref row), (5, ii fr), (6, ii many), (7, ii cols)]) (S' := [ii cols, ii many, ii 1, .ref p]) dm_X10_init_53 rfl rfl rfl rfl ?_
    refine y_imul (a := many) (b := cols) dm_X10_init_55 (pc' := 56) rfl ?_
    refine y_iadd (a := 1) (b := many * cols) dm_X10_init_56 (pc' := 57) rfl ?_
    refine me3 (pc' := 60) (S' := []) (h1 := (h).set p (cO 10 [ii form, .long num, .ref row, .null, ii fr, ii many, ii cols, ii (1 + (many * cols)), ii 0])) dm_X10_init_57 (g_put (fs' := [ii form, .long num, .ref row, .null, ii fr, ii many, ii cols, ii (1 + (many * cols)), ii 0]) (hl_set (hl_lt hp)) rfl (by rw [List.set_set]) rfl (by simp) rfl (by decide) (fun _ => rfl) (by omega)) rfl rfl rfl ?_
    refine me1 (pc' := 61) (L' := [(0, .ref p), (1, ii form), (2, .long num), (4, .ref row), (5, ii fr), (6, ii many), (7, ii cols)]) (S' := [.ref p]) dm_X10_init_60 rfl rfl rfl rfl ?_
    refine me0 (pc' := 62) (S' := [ii 2, .ref p]) dm_X10_init_61 rfl rfl rfl rfl ?_
    refine me3 (pc' := 65) (S' := []) (h1 := (h).set p (cO 10 [ii form, .long num, .ref row, .null, ii fr, ii many, ii cols, ii (1 + (many * cols)), ii 2])) dm_X10_init_62 (g_put (fs' := [ii form, .long num, .ref row, .null, ii fr, ii many, ii cols, ii (1 + (many * cols)), ii 2]) (hl_set (hl_lt hp)) rfl (by rw [List.set_set]) rfl (by simp) rfl (by decide) (fun _ => rfl) (by omega)) rfl rfl rfl ?_
    refine me2 (pc' := 104) (S' := []) dm_X10_init_65 rfl rfl rfl ?_
    refine y_ret (r := none) dm_X10_init_104 rfl rfl rfl ?_
    refine ⟨rfl, Eq.trans ?_ hH⟩
    congr 3
    unfold csz clv
    first | rw [if_pos (by omega), if_pos (by omega)] | rw [if_neg (by omega), if_pos (by omega), if_neg (by omega), if_pos (by omega)] | rw [if_neg (by omega), if_neg (by omega), if_neg (by omega), if_neg (by omega)]
