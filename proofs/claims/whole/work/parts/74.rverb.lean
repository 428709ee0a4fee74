/-- the signs that are verbs -/
def vrbB (c : Int) : Bool := decide (c = 33 ∨ c = 35 ∨ c = 36 ∨ c = 37 ∨ c = 38 ∨ c = 42 ∨ c = 43 ∨ c = 44 ∨ c = 45 ∨ c = 46 ∨ c = 60 ∨ c = 61 ∨ c = 62 ∨ c = 63 ∨ c = 64 ∨ c = 94 ∨ c = 95 ∨ c = 124 ∨ c = 126)
set_option maxRecDepth 20000 in
theorem pm_X12_isVerb : mj_mmof pg_ms 214 = some ((⟨"ArrayCalculatorModel", "isVerb", "(I)Z"⟩, prog_14_method_71_code, 1, (Option.some Jvm.ClassFile.FieldType.boolean)), 12, false, mj_dec prog_14_method_71_code) := rfl
theorem dm_X12_isVerb_0 : mj_dec prog_14_method_71_code 0 = some (.iload_n 0, 1) := by decide +kernel
theorem dm_X12_isVerb_1 : mj_dec prog_14_method_71_code 1 = some (.lookupswitch 165 #[(33, 163), (35, 163), (36, 163), (37, 163), (38, 163), (42, 163), (43, 163), (44, 163), (45, 163), (46, 163), (60, 163), (61, 163), (62, 163), (63, 163), (64, 163), (94, 163), (95, 163), (124, 163), (126, 163)], 163) := by decide +kernel
theorem dm_X12_isVerb_164 : mj_dec prog_14_method_71_code 164 = some (.iconst 1, 1) := by decide +kernel
theorem dm_X12_isVerb_165 : mj_dec prog_14_method_71_code 165 = some (.ireturn, 1) := by decide +kernel
theorem dm_X12_isVerb_166 : mj_dec prog_14_method_71_code 166 = some (.iconst 0, 1) := by decide +kernel
theorem dm_X12_isVerb_167 : mj_dec prog_14_method_71_code 167 = some (.ireturn, 1) := by decide +kernel
theorem r_isVerb_ {xt : mj_X} {d : Nat} {h : mj_H} {c : Int} (hd : 1 ≤ d) (hc : -2147483648 ≤ c ∧ c ≤ 2147483647) : pgP xt d 214 [ii c] h (zz (vrbB c)) := by
  refine x_enter pm_X12_isVerb (L0 := [(0, ii c)]) rfl (Nat.le_of_ble_eq_true rfl) (by omega) ?_
  refine me1 (pc' := 1) (L' := [(0, ii c)]) (S' := [ii c]) dm_X12_isVerb_0 rfl rfl rfl rfl ?_
  refine y_sw (a := c) (33) (t := 164) (i := .lookupswitch 165 #[(33, 163), (35, 163), (36, 163), (37, 163), (38, 163), (42, 163), (43, 163), (44, 163), (45, 163), (46, 163), (60, 163), (61, 163), (62, 163), (63, 163), (64, 163), (94, 163), (95, 163), (124, 163), (126, 163)]) (len := 163) dm_X12_isVerb_1 rfl rfl rfl (by omega) (by decide) (fun hb1 => ?_) (fun hb1 => ?_)
  · refine me0 (pc' := 165) (S' := [ii 1]) dm_X12_isVerb_164 rfl rfl rfl rfl ?_
    refine y_ret (r := some (ii 1)) dm_X12_isVerb_165 rfl rfl rfl ?_
    exact ⟨congrArg some (by unfold vrbB; exact zt (by omega)), rfl⟩
  refine y_sw (a := c) (35) (t := 164) (i := .lookupswitch 165 #[(33, 163), (35, 163), (36, 163), (37, 163), (38, 163), (42, 163), (43, 163), (44, 163), (45, 163), (46, 163), (60, 163), (61, 163), (62, 163), (63, 163), (64, 163), (94, 163), (95, 163), (124, 163), (126, 163)]) (len := 163) dm_X12_isVerb_1 rfl rfl rfl (by omega) (by decide) (fun hb2 => ?_) (fun hb2 => ?_)
  · refine me0 (pc' := 165) (S' := [ii 1]) dm_X12_isVerb_164 rfl rfl rfl rfl ?_
    refine y_ret (r := some (ii 1)) dm_X12_isVerb_165 rfl rfl rfl ?_
    exact ⟨congrArg some (by unfold vrbB; exact zt (by omega)), rfl⟩
  refine y_sw (a := c) (36) (t := 164) (i := .lookupswitch 165 #[(33, 163), (35, 163), (36, 163), (37, 163), (38, 163), (42, 163), (43, 163), (44, 163), (45, 163), (46, 163), (60, 163), (61, 163), (62, 163), (63, 163), (64, 163), (94, 163), (95, 163), (124, 163), (126, 163)]) (len := 163) dm_X12_isVerb_1 rfl rfl rfl (by omega) (by decide) (fun hb3 => ?_) (fun hb3 => ?_)
  · refine me0 (pc' := 165) (S' := [ii 1]) dm_X12_isVerb_164 rfl rfl rfl rfl ?_
    refine y_ret (r := some (ii 1)) dm_X12_isVerb_165 rfl rfl rfl ?_
    exact ⟨congrArg some (by unfold vrbB; exact zt (by omega)), rfl⟩
  refine y_sw (a := c) (37) (t := 164) (i := .lookupswitch 165 #[(33, 163), (35, 163), (36, 163), (37, 163), (38, 163), (42, 163), (43, 163), (44, 163), (45, 163), (46, 163), (60, 163), (61, 163), (62, 163), (63, 163), (64, 163), (94, 163), (95, 163), (124, 163), (126, 163)]) (len := 163) dm_X12_isVerb_1 rfl rfl rfl (by omega) (by decide) (fun hb4 => ?_) (fun hb4 => ?_)
  · refine me0 (pc' := 165) (S' := [ii 1]) dm_X12_isVerb_164 rfl rfl rfl rfl ?_
    refine y_ret (r := some (ii 1)) dm_X12_isVerb_165 rfl rfl rfl ?_
    exact ⟨congrArg some (by unfold vrbB; exact zt (by omega)), rfl⟩
  refine y_sw (a := c) (38) (t := 164) (i := .lookupswitch 165 #[(33, 163), (35, 163), (36, 163), (37, 163), (38, 163), (42, 163), (43, 163), (44, 163), (45, 163), (46, 163), (60, 163), (61, 163), (62, 163), (63, 163), (64, 163), (94, 163), (95, 163), (124, 163), (126, 163)]) (len := 163) dm_X12_isVerb_1 rfl rfl rfl (by omega) (by decide) (fun hb5 => ?_) (fun hb5 => ?_)
  · refine me0 (pc' := 165) (S' := [ii 1]) dm_X12_isVerb_164 rfl rfl rfl rfl ?_
    refine y_ret (r := some (ii 1)) dm_X12_isVerb_165 rfl rfl rfl ?_
    exact ⟨congrArg some (by unfold vrbB; exact zt (by omega)), rfl⟩
  refine y_sw (a := c) (42) (t := 164) (i := .lookupswitch 165 #[(33, 163), (35, 163), (36, 163), (37, 163), (38, 163), (42, 163), (43, 163), (44, 163), (45, 163), (46, 163), (60, 163), (61, 163), (62, 163), (63, 163), (64, 163), (94, 163), (95, 163), (124, 163), (126, 163)]) (len := 163) dm_X12_isVerb_1 rfl rfl rfl (by omega) (by decide) (fun hb6 => ?_) (fun hb6 => ?_)
  · refine me0 (pc' := 165) (S' := [ii 1]) dm_X12_isVerb_164 rfl rfl rfl rfl ?_
    refine y_ret (r := some (ii 1)) dm_X12_isVerb_165 rfl rfl rfl ?_
    exact ⟨congrArg some (by unfold vrbB; exact zt (by omega)), rfl⟩
  refine y_sw (a := c) (43) (t := 164) (i := .lookupswitch 165 #[(33, 163), (35, 163), (36, 163), (37, 163), (38, 163), (42, 163), (43, 163), (44, 163), (45, 163), (46, 163), (60, 163), (61, 163), (62, 163), (63, 163), (64, 163), (94, 163), (95, 163), (124, 163), (126, 163)]) (len := 163) dm_X12_isVerb_1 rfl rfl rfl (by omega) (by decide) (fun hb7 => ?_) (fun hb7 => ?_)
  · refine me0 (pc' := 165) (S' := [ii 1]) dm_X12_isVerb_164 rfl rfl rfl rfl ?_
    refine y_ret (r := some (ii 1)) dm_X12_isVerb_165 rfl rfl rfl ?_
    exact ⟨congrArg some (by unfold vrbB; exact zt (by omega)), rfl⟩
  refine y_sw (a := c) (44) (t := 164) (i := .lookupswitch 165 #[(33, 163), (35, 163), (36, 163), (37, 163), (38, 163), (42, 163), (43, 163), (44, 163), (45, 163), (46, 163), (60, 163), (61, 163), (62, 163), (63, 163), (64, 163), (94, 163), (95, 163), (124, 163), (126, 163)]) (len := 163) dm_X12_isVerb_1 rfl rfl rfl (by omega) (by decide) (fun hb8 => ?_) (fun hb8 => ?_)
  · refine me0 (pc' := 165) (S' := [ii 1]) dm_X12_isVerb_164 rfl rfl rfl rfl ?_
    refine y_ret (r := some (ii 1)) dm_X12_isVerb_165 rfl rfl rfl ?_
    exact ⟨congrArg some (by unfold vrbB; exact zt (by omega)), rfl⟩
  refine y_sw (a := c) (45) (t := 164) (i := .lookupswitch 165 #[(33, 163), (35, 163), (36, 163), (37, 163), (38, 163), (42, 163), (43, 163), (44, 163), (45, 163), (46, 163), (60, 163), (61, 163), (62, 163), (63, 163), (64, 163), (94, 163), (95, 163), (124, 163), (126, 163)]) (len := 163) dm_X12_isVerb_1 rfl rfl rfl (by omega) (by decide) (fun hb9 => ?_) (fun hb9 => ?_)
  · refine me0 (pc' := 165) (S' := [ii 1]) dm_X12_isVerb_164 rfl rfl rfl rfl ?_
    refine y_ret (r := some (ii 1)) dm_X12_isVerb_165 rfl rfl rfl ?_
    exact ⟨congrArg some (by unfold vrbB; exact zt (by omega)), rfl⟩
  refine y_sw (a := c) (46) (t := 164) (i := .lookupswitch 165 #[(33, 163), (35, 163), (36, 163), (37, 163), (38, 163), (42, 163), (43, 163), (44, 163), (45, 163), (46, 163), (60, 163), (61, 163), (62, 163), (63, 163), (64, 163), (94, 163), (95, 163), (124, 163), (126, 163)]) (len := 163) dm_X12_isVerb_1 rfl rfl rfl (by omega) (by decide) (fun hb10 => ?_) (fun hb10 => ?_)
  · refine me0 (pc' := 165) (S' := [ii 1]) dm_X12_isVerb_164 rfl rfl rfl rfl ?_
    refine y_ret (r := some (ii 1)) dm_X12_isVerb_165 rfl rfl rfl ?_
    exact ⟨congrArg some (by unfold vrbB; exact zt (by omega)), rfl⟩
  refine y_sw (a := c) (60) (t := 164) (i := .lookupswitch 165 #[(33, 163), (35, 163), (36, 163), (37, 163), (38, 163), (42, 163), (43, 163), (44, 163), (45, 163), (46, 163), (60, 163), (61, 163), (62, 163), (63, 163), (64, 163), (94, 163), (95, 163), (124, 163), (126, 163)]) (len := 163) dm_X12_isVerb_1 rfl rfl rfl (by omega) (by decide) (fun hb11 => ?_) (fun hb11 => ?_)
  · refine me0 (pc' := 165) (S' := [ii 1]) dm_X12_isVerb_164 rfl rfl rfl rfl ?_
    refine y_ret (r := some (ii 1)) dm_X12_isVerb_165 rfl rfl rfl ?_
    exact ⟨congrArg some (by unfold vrbB; exact zt (by omega)), rfl⟩
  refine y_sw (a := c) (61) (t := 164) (i := .lookupswitch 165 #[(33, 163), (35, 163), (36, 163), (37, 163), (38, 163), (42, 163), (43, 163), (44, 163), (45, 163), (46, 163), (60, 163), (61, 163), (62, 163), (63, 163), (64, 163), (94, 163), (95, 163), (124, 163), (126, 163)]) (len := 163) dm_X12_isVerb_1 rfl rfl rfl (by omega) (by decide) (fun hb12 => ?_) (fun hb12 => ?_)
  · refine me0 (pc' := 165) (S' := [ii 1]) dm_X12_isVerb_164 rfl rfl rfl rfl ?_
    refine y_ret (r := some (ii 1)) dm_X12_isVerb_165 rfl rfl rfl ?_
    exact ⟨congrArg some (by unfold vrbB; exact zt (by omega)), rfl⟩
  refine y_sw (a := c) (62) (t := 164) (i := .lookupswitch 165 #[(33, 163), (35, 163), (36, 163), (37, 163), (38, 163), (42, 163), (43, 163), (44, 163), (45, 163), (46, 163), (60, 163), (61, 163), (62, 163), (63, 163), (64, 163), (94, 163), (95, 163), (124, 163), (126, 163)]) (len := 163) dm_X12_isVerb_1 rfl rfl rfl (by omega) (by decide) (fun hb13 => ?_) (fun hb13 => ?_)
  · refine me0 (pc' := 165) (S' := [ii 1]) dm_X12_isVerb_164 rfl rfl rfl rfl ?_
    refine y_ret (r := some (ii 1)) dm_X12_isVerb_165 rfl rfl rfl ?_
    exact ⟨congrArg some (by unfold vrbB; exact zt (by omega)), rfl⟩
  refine y_sw (a := c) (63) (t := 164) (i := .lookupswitch 165 #[(33, 163), (35, 163), (36, 163), (37, 163), (38, 163), (42, 163), (43, 163), (44, 163), (45, 163), (46, 163), (60, 163), (61, 163), (62, 163), (63, 163), (64, 163), (94, 163), (95, 163), (124, 163), (126, 163)]) (len := 163) dm_X12_isVerb_1 rfl rfl rfl (by omega) (by decide) (fun hb14 => ?_) (fun hb14 => ?_)
  · refine me0 (pc' := 165) (S' := [ii 1]) dm_X12_isVerb_164 rfl rfl rfl rfl ?_
    refine y_ret (r := some (ii 1)) dm_X12_isVerb_165 rfl rfl rfl ?_
    exact ⟨congrArg some (by unfold vrbB; exact zt (by omega)), rfl⟩
  refine y_sw (a := c) (64) (t := 164) (i := .lookupswitch 165 #[(33, 163), (35, 163), (36, 163), (37, 163), (38, 163), (42, 163), (43, 163), (44, 163), (45, 163), (46, 163), (60, 163), (61, 163), (62, 163), (63, 163), (64, 163), (94, 163), (95, 163), (124, 163), (126, 163)]) (len := 163) dm_X12_isVerb_1 rfl rfl rfl (by omega) (by decide) (fun hb15 => ?_) (fun hb15 => ?_)
  · refine me0 (pc' := 165) (S' := [ii 1]) dm_X12_isVerb_164 rfl rfl rfl rfl ?_
    refine y_ret (r := some (ii 1)) dm_X12_isVerb_165 rfl rfl rfl ?_
    exact ⟨congrArg some (by unfold vrbB; exact zt (by omega)), rfl⟩
  refine y_sw (a := c) (94) (t := 164) (i := .lookupswitch 165 #[(33, 163), (35, 163), (36, 163), (37, 163), (38, 163), (42, 163), (43, 163), (44, 163), (45, 163), (46, 163), (60, 163), (61, 163), (62, 163), (63, 163), (64, 163), (94, 163), (95, 163), (124, 163), (126, 163)]) (len := 163) dm_X12_isVerb_1 rfl rfl rfl (by omega) (by decide) (fun hb16 => ?_) (fun hb16 => ?_)
  · refine me0 (pc' := 165) (S' := [ii 1]) dm_X12_isVerb_164 rfl rfl rfl rfl ?_
    refine y_ret (r := some (ii 1)) dm_X12_isVerb_165 rfl rfl rfl ?_
    exact ⟨congrArg some (by unfold vrbB; exact zt (by omega)), rfl⟩
  refine y_sw (a := c) (95) (t := 164) (i := .lookupswitch 165 #[(33, 163), (35, 163), (36, 163), (37, 163), (38, 163), (42, 163), (43, 163), (44, 163), (45, 163), (46, 163), (60, 163), (61, 163), (62, 163), (63, 163), (64, 163), (94, 163), (95, 163), (124, 163), (126, 163)]) (len := 163) dm_X12_isVerb_1 rfl rfl rfl (by omega) (by decide) (fun hb17 => ?_) (fun hb17 => ?_)
  · refine me0 (pc' := 165) (S' := [ii 1]) dm_X12_isVerb_164 rfl rfl rfl rfl ?_
    refine y_ret (r := some (ii 1)) dm_X12_isVerb_165 rfl rfl rfl ?_
    exact ⟨congrArg some (by unfold vrbB; exact zt (by omega)), rfl⟩
  refine y_sw (a := c) (124) (t := 164) (i := .lookupswitch 165 #[(33, 163), (35, 163), (36, 163), (37, 163), (38, 163), (42, 163), (43, 163), (44, 163), (45, 163), (46, 163), (60, 163), (61, 163), (62, 163), (63, 163), (64, 163), (94, 163), (95, 163), (124, 163), (126, 163)]) (len := 163) dm_X12_isVerb_1 rfl rfl rfl (by omega) (by decide) (fun hb18 => ?_) (fun hb18 => ?_)
  · refine me0 (pc' := 165) (S' := [ii 1]) dm_X12_isVerb_164 rfl rfl rfl rfl ?_
    refine y_ret (r := some (ii 1)) dm_X12_isVerb_165 rfl rfl rfl ?_
    exact ⟨congrArg some (by unfold vrbB; exact zt (by omega)), rfl⟩
  refine y_sw (a := c) (126) (t := 164) (i := .lookupswitch 165 #[(33, 163), (35, 163), (36, 163), (37, 163), (38, 163), (42, 163), (43, 163), (44, 163), (45, 163), (46, 163), (60, 163), (61, 163), (62, 163), (63, 163), (64, 163), (94, 163), (95, 163), (124, 163), (126, 163)]) (len := 163) dm_X12_isVerb_1 rfl rfl rfl (by omega) (by decide) (fun hb19 => ?_) (fun hb19 => ?_)
  · refine me0 (pc' := 165) (S' := [ii 1]) dm_X12_isVerb_164 rfl rfl rfl rfl ?_
    refine y_ret (r := some (ii 1)) dm_X12_isVerb_165 rfl rfl rfl ?_
    exact ⟨congrArg some (by unfold vrbB; exact zt (by omega)), rfl⟩
  refine me2 (pc' := 166) (S' := []) dm_X12_isVerb_1 (sw_ldef [Int32.ofInt 33, Int32.ofInt 35, Int32.ofInt 36, Int32.ofInt 37, Int32.ofInt 38, Int32.ofInt 42, Int32.ofInt 43, Int32.ofInt 44, Int32.ofInt 45, Int32.ofInt 46, Int32.ofInt 60, Int32.ofInt 61, Int32.ofInt 62, Int32.ofInt 63, Int32.ofInt 64, Int32.ofInt 94, Int32.ofInt 95, Int32.ofInt 124, Int32.ofInt 126] rfl rfl rfl ⟨y_no (by omega) (by decide) hb1, y_no (by omega) (by decide) hb2, y_no (by omega) (by decide) hb3, y_no (by omega) (by decide) hb4, y_no (by omega) (by decide) hb5, y_no (by omega) (by decide) hb6, y_no (by omega) (by decide) hb7, y_no (by omega) (by decide) hb8, y_no (by omega) (by decide) hb9, y_no (by omega) (by decide) hb10, y_no (by omega) (by decide) hb11, y_no (by omega) (by decide) hb12, y_no (by omega) (by decide) hb13, y_no (by omega) (by decide) hb14, y_no (by omega) (by decide) hb15, y_no (by omega) (by decide) hb16, y_no (by omega) (by decide) hb17, y_no (by omega) (by decide) hb18, y_no (by omega) (by decide) hb19, trivial⟩) rfl rfl ?_
  refine me0 (pc' := 167) (S' := [ii 0]) dm_X12_isVerb_166 rfl rfl rfl rfl ?_
  refine y_ret (r := some (ii 0)) dm_X12_isVerb_167 rfl rfl rfl ?_
  exact ⟨congrArg some (by unfold vrbB; exact zf (by omega)), rfl⟩
