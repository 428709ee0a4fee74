/-! the reference: turned, through -/
def trn (vb : Int) (x : Int64) : Int64 := if vb = 45 then -x else if vb = 37 then (if 0 < x.toInt then Int64.ofInt 1 else if x.toInt < 0 then Int64.ofInt (-1) else Int64.ofInt 0) else if x.toInt = 0 then Int64.ofInt 1 else Int64.ofInt 0
abbrev z0 : VV := v1 0 0
theorem vnum_z {j : Int} : vnum z0 j = 0 := by rw [vnum_1 (by show 0 ≤ 1; omega)]; rfl
theorem trn_o {vb : Int} {k2 : Nat} {x : Int64} (hvb : vb = 45 ∨ vb = 37 ∨ vb = 126) (hk : ¬ (k2 = 1 ∨ k2 = 3)) : outF (vbo vb) 0 k2 0 x = (if vb = 45 ∧ trn vb x = Int64.ofInt (-9223372036854775808) then 6 else 0, trn vb x) := by
  have h0 : (0 : Int64).toInt = 0 := rfl
  have h00 : (Int64.ofInt 0).toInt = 0 := by decide
  have r := l_rng x
  rcases hvb with rfl | rfl | rfl
  · have e1 : vbo 45 = 45 := rfl
    have e2 : (0 : Int64) - x = -x := by rw [Int64.sub_eq_add_neg, Int64.zero_add]
    have e3 : trn 45 x = -x := rfl
    rw [e1, e3]
    unfold outF
    rw [if_neg (by decide), if_neg (by omega), if_neg (by decide), if_neg (by decide), if_neg (by decide), if_pos rfl, e2, h0]
    congr 1
    by_cases z : x.toInt = -9223372036854775808
    · have ex : x = Int64.ofInt (-9223372036854775808) := by rw [← z, Int64.ofInt_toInt]
      subst ex
      decide
    · rw [if_neg (by rw [ovf_iff]; omega), if_neg (fun y => z ?_)]
      have y2 := congrArg Int64.toInt y.2
      rw [← e2, l_subI (by rw [h0]; omega), h0] at y2
      have hl : (Int64.ofInt (-9223372036854775808)).toInt = -9223372036854775808 := by decide
      rw [hl] at y2
      omega
  · have e1 : vbo 37 = 119 := rfl
    rw [e1]
    unfold outF
    rw [if_neg (by decide), if_neg (by omega), if_neg (by decide), if_neg (by decide), if_neg (by decide), if_neg (by decide), if_neg (by decide), if_neg (by decide), if_neg (by decide), if_neg (by decide), if_neg (by decide), if_neg (by decide), if_pos rfl, if_neg (fun z => absurd z.1 (by decide))]
    congr 1
    have t : trn 37 x = (if 0 < x.toInt then Int64.ofInt 1 else if x.toInt < 0 then Int64.ofInt (-1) else Int64.ofInt 0) := rfl
    rw [t]
    unfold cmpL
    rw [h00]
    by_cases a : x.toInt < 0
    · simp only [if_pos a, if_neg (show ¬ 0 < x.toInt by omega)]
    · by_cases b : x.toInt = 0
      · simp only [if_neg a, if_pos b, if_neg (show ¬ 0 < x.toInt by omega)]
      · simp only [if_neg a, if_neg b, if_pos (show 0 < x.toInt by omega)]
  · have e1 : vbo 126 = 126 := rfl
    rw [e1]
    unfold outF
    rw [if_neg (by decide), if_neg (by omega), if_neg (by decide), if_neg (by decide), if_neg (by decide), if_neg (by decide), if_neg (by decide), if_neg (by decide), if_neg (by decide), if_neg (by decide), if_neg (by decide), if_pos rfl]
    refine Prod.ext ?_ ?_
    · show (0 : Int) = if (126 : Int) = 45 ∧ trn 126 x = Int64.ofInt (-9223372036854775808) then 6 else 0
      rw [if_neg (fun z => absurd z.1 (by decide))]
    · rfl
set_option maxRecDepth 20000 in
theorem pm_X12_turned : mj_mmof pg_ms 284 = some ((⟨"ArrayCalculatorModel", "turned", "(IJ)J"⟩, prog_14_method_30_code, 3, (Option.some Jvm.ClassFile.FieldType.long)), 12, false, mj_dec prog_14_method_30_code) := rfl
theorem dm_X12_turned_0 : mj_dec prog_14_method_30_code 0 = some (.iload_n 0, 1) := by decide +kernel
theorem dm_X12_turned_1 : mj_dec prog_14_method_30_code 1 = some (.bipush 45, 2) := by decide +kernel
theorem dm_X12_turned_3 : mj_dec prog_14_method_30_code 3 = some (.if_icmp .ne 8, 3) := by decide +kernel
theorem dm_X12_turned_6 : mj_dec prog_14_method_30_code 6 = some (.lload_n 1, 1) := by decide +kernel
theorem dm_X12_turned_7 : mj_dec prog_14_method_30_code 7 = some (.lneg, 1) := by decide +kernel
theorem dm_X12_turned_8 : mj_dec prog_14_method_30_code 8 = some (.goto 46, 3) := by decide +kernel
theorem dm_X12_turned_11 : mj_dec prog_14_method_30_code 11 = some (.iload_n 0, 1) := by decide +kernel
theorem dm_X12_turned_12 : mj_dec prog_14_method_30_code 12 = some (.bipush 37, 2) := by decide +kernel
theorem dm_X12_turned_14 : mj_dec prog_14_method_30_code 14 = some (.if_icmp .ne 29, 3) := by decide +kernel
theorem dm_X12_turned_17 : mj_dec prog_14_method_30_code 17 = some (.lload_n 1, 1) := by decide +kernel
theorem dm_X12_turned_18 : mj_dec prog_14_method_30_code 18 = some (.lconst 0, 1) := by decide +kernel
theorem dm_X12_turned_19 : mj_dec prog_14_method_30_code 19 = some (.lcmp, 1) := by decide +kernel
theorem dm_X12_turned_20 : mj_dec prog_14_method_30_code 20 = some (.ifCond .le 7, 3) := by decide +kernel
theorem dm_X12_turned_23 : mj_dec prog_14_method_30_code 23 = some (.lconst 1, 1) := by decide +kernel
theorem dm_X12_turned_24 : mj_dec prog_14_method_30_code 24 = some (.goto 30, 3) := by decide +kernel
theorem dm_X12_turned_27 : mj_dec prog_14_method_30_code 27 = some (.lload_n 1, 1) := by decide +kernel
theorem dm_X12_turned_28 : mj_dec prog_14_method_30_code 28 = some (.lconst 0, 1) := by decide +kernel
theorem dm_X12_turned_29 : mj_dec prog_14_method_30_code 29 = some (.lcmp, 1) := by decide +kernel
theorem dm_X12_turned_30 : mj_dec prog_14_method_30_code 30 = some (.ifCond .ge 9, 3) := by decide +kernel
theorem dm_X12_turned_33 : mj_dec prog_14_method_30_code 33 = some (.ldc2_w 253, 3) := by decide +kernel
theorem dm_X12_turned_36 : mj_dec prog_14_method_30_code 36 = some (.goto 18, 3) := by decide +kernel
theorem dm_X12_turned_39 : mj_dec prog_14_method_30_code 39 = some (.lconst 0, 1) := by decide +kernel
theorem dm_X12_turned_40 : mj_dec prog_14_method_30_code 40 = some (.goto 14, 3) := by decide +kernel
theorem dm_X12_turned_43 : mj_dec prog_14_method_30_code 43 = some (.lload_n 1, 1) := by decide +kernel
theorem dm_X12_turned_44 : mj_dec prog_14_method_30_code 44 = some (.lconst 0, 1) := by decide +kernel
theorem dm_X12_turned_45 : mj_dec prog_14_method_30_code 45 = some (.lcmp, 1) := by decide +kernel
theorem dm_X12_turned_46 : mj_dec prog_14_method_30_code 46 = some (.ifCond .ne 7, 3) := by decide +kernel
theorem dm_X12_turned_49 : mj_dec prog_14_method_30_code 49 = some (.lconst 1, 1) := by decide +kernel
theorem dm_X12_turned_50 : mj_dec prog_14_method_30_code 50 = some (.goto 4, 3) := by decide +kernel
theorem dm_X12_turned_53 : mj_dec prog_14_method_30_code 53 = some (.lconst 0, 1) := by decide +kernel
theorem dm_X12_turned_54 : mj_dec prog_14_method_30_code 54 = some (.lreturn, 1) := by decide +kernel
theorem r_turned_ {xt : mj_X} {d : Nat} {h : mj_H} {vb : Int} {x : Int64} (hd1 : 1 ≤ d) (hvb : vb = 45 ∨ vb = 37 ∨ vb = 126) : pgP xt d 284 [ii vb, .long x] h (.long (trn vb x)) := by
  have h0 : (Int64.ofInt 0).toInt = 0 := by decide
  refine x_enter pm_X12_turned (L0 := [(0, ii vb), (1, .long x)]) rfl (Nat.le_of_ble_eq_true rfl) (by omega) ?_
  refine me1 (pc' := 1) (L' := [(0, ii vb), (1, .long x)]) (S' := [ii vb]) dm_X12_turned_0 rfl rfl rfl rfl ?_
  refine me0 (pc' := 3) (S' := [ii 45, ii vb]) dm_X12_turned_1 rfl rfl rfl rfl ?_
  refine y_2ne (a := vb) (b := 45) (t := 11) (pc' := 6) dm_X12_turned_3 rfl rfl (by omega) (fun hb1 => ?_) (fun hb1 => ?_)
  · refine me1 (pc' := 12) (L' := [(0, ii vb), (1, .long x)]) (S' := [ii vb]) dm_X12_turned_11 rfl rfl rfl rfl ?_
    refine me0 (pc' := 14) (S' := [ii 37, ii vb]) dm_X12_turned_12 rfl rfl rfl rfl ?_
    refine y_2ne (a := vb) (b := 37) (t := 43) (pc' := 17) dm_X12_turned_14 rfl rfl (by omega) (fun hb2 => ?_) (fun hb2 => ?_)
    · refine me1 (pc' := 44) (L' := [(0, ii vb), (1, .long x)]) (S' := [.long x]) dm_X12_turned_43 rfl rfl rfl rfl ?_
      refine me0 (pc' := 45) (S' := [.long (Int64.ofInt 0), .long x]) dm_X12_turned_44 rfl rfl rfl rfl ?_
      refine y_lne (x := x) (y := Int64.ofInt 0) (t := 53) (pc1 := 46) (pc' := 49) dm_X12_turned_45 rfl dm_X12_turned_46 rfl rfl (fun hb3 => ?_) (fun hb3 => ?_)
      · have hx0 : ¬ x.toInt = 0 := fun z => hb3 (Int64.toInt_inj.mp (z.trans h0.symm))
        refine me0 (pc' := 54) (S' := [.long (Int64.ofInt 0)]) dm_X12_turned_53 rfl rfl rfl rfl ?_
        refine y_ret (r := some (.long (Int64.ofInt 0))) dm_X12_turned_54 rfl rfl rfl ?_
        refine ⟨congrArg (fun z => some (Value.long z)) ?_, rfl⟩
        unfold trn
        first | (rw [if_pos (by omega)]; done) | (rw [if_neg (by omega), if_pos (by omega)]; first | (rw [if_pos (by omega)]; done) | (rw [if_neg (by omega), if_pos (by omega)]; done) | (rw [if_neg (by omega), if_neg (by omega)]; done)) | (rw [if_neg (by omega), if_neg (by omega)]; first | (rw [if_pos (by omega)]; done) | (rw [if_neg (by omega)]; done))
      · have hx0 : x.toInt = 0 := by rw [hb3]; exact h0
        refine me0 (pc' := 50) (S' := [.long (Int64.ofInt 1)]) dm_X12_turned_49 rfl rfl rfl rfl ?_
        refine me2 (pc' := 54) (S' := [.long (Int64.ofInt 1)]) dm_X12_turned_50 rfl rfl rfl ?_
        refine y_ret (r := some (.long (Int64.ofInt 1))) dm_X12_turned_54 rfl rfl rfl ?_
        refine ⟨congrArg (fun z => some (Value.long z)) ?_, rfl⟩
        unfold trn
        first | (rw [if_pos (by omega)]; done) | (rw [if_neg (by omega), if_pos (by omega)]; first | (rw [if_pos (by omega)]; done) | (rw [if_neg (by omega), if_pos (by omega)]; done) | (rw [if_neg (by omega), if_neg (by omega)]; done)) | (rw [if_neg (by omega), if_neg (by omega)]; first | (rw [if_pos (by omega)]; done) | (rw [if_neg (by omega)]; done))
    · refine me1 (pc' := 18) (L' := [(0, ii vb), (1, .long x)]) (S' := [.long x]) dm_X12_turned_17 rfl rfl rfl rfl ?_
      refine me0 (pc' := 19) (S' := [.long (Int64.ofInt 0), .long x]) dm_X12_turned_18 rfl rfl rfl rfl ?_
      refine y_lle (x := x) (y := Int64.ofInt 0) (t := 27) (pc1 := 20) (pc' := 23) dm_X12_turned_19 rfl dm_X12_turned_20 rfl rfl (fun hb4 => ?_) (fun hb4 => ?_)
      · rw [h0] at hb4
        refine me1 (pc' := 28) (L' := [(0, ii vb), (1, .long x)]) (S' := [.long x]) dm_X12_turned_27 rfl rfl rfl rfl ?_
        refine me0 (pc' := 29) (S' := [.long (Int64.ofInt 0), .long x]) dm_X12_turned_28 rfl rfl rfl rfl ?_
        refine y_lge (x := x) (y := Int64.ofInt 0) (t := 39) (pc1 := 30) (pc' := 33) dm_X12_turned_29 rfl dm_X12_turned_30 rfl rfl (fun hb5 => ?_) (fun hb5 => ?_)
        · rw [h0] at hb5
          refine me0 (pc' := 40) (S' := [.long (Int64.ofInt 0)]) dm_X12_turned_39 rfl rfl rfl rfl ?_
          refine me2 (pc' := 54) (S' := [.long (Int64.ofInt 0)]) dm_X12_turned_40 rfl rfl rfl ?_
          refine y_ret (r := some (.long (Int64.ofInt 0))) dm_X12_turned_54 rfl rfl rfl ?_
          refine ⟨congrArg (fun z => some (Value.long z)) ?_, rfl⟩
          unfold trn
          first | (rw [if_pos (by omega)]; done) | (rw [if_neg (by omega), if_pos (by omega)]; first | (rw [if_pos (by omega)]; done) | (rw [if_neg (by omega), if_pos (by omega)]; done) | (rw [if_neg (by omega), if_neg (by omega)]; done)) | (rw [if_neg (by omega), if_neg (by omega)]; first | (rw [if_pos (by omega)]; done) | (rw [if_neg (by omega)]; done))
        · rw [h0] at hb5
          refine me3 (pc' := 36) (S' := [.long (Int64.ofInt (-1))]) dm_X12_turned_33 rfl rfl rfl rfl ?_
          refine me2 (pc' := 54) (S' := [.long (Int64.ofInt (-1))]) dm_X12_turned_36 rfl rfl rfl ?_
          refine y_ret (r := some (.long (Int64.ofInt (-1)))) dm_X12_turned_54 rfl rfl rfl ?_
          refine ⟨congrArg (fun z => some (Value.long z)) ?_, rfl⟩
          unfold trn
          first | (rw [if_pos (by omega)]; done) | (rw [if_neg (by omega), if_pos (by omega)]; first | (rw [if_pos (by omega)]; done) | (rw [if_neg (by omega), if_pos (by omega)]; done) | (rw [if_neg (by omega), if_neg (by omega)]; done)) | (rw [if_neg (by omega), if_neg (by omega)]; first | (rw [if_pos (by omega)]; done) | (rw [if_neg (by omega)]; done))
      · rw [h0] at hb4
        refine me0 (pc' := 24) (S' := [.long (Int64.ofInt 1)]) dm_X12_turned_23 rfl rfl rfl rfl ?_
        refine me2 (pc' := 54) (S' := [.long (Int64.ofInt 1)]) dm_X12_turned_24 rfl rfl rfl ?_
        refine y_ret (r := some (.long (Int64.ofInt 1))) dm_X12_turned_54 rfl rfl rfl ?_
        refine ⟨congrArg (fun z => some (Value.long z)) ?_, rfl⟩
        unfold trn
        first | (rw [if_pos (by omega)]; done) | (rw [if_neg (by omega), if_pos (by omega)]; first | (rw [if_pos (by omega)]; done) | (rw [if_neg (by omega), if_pos (by omega)]; done) | (rw [if_neg (by omega), if_neg (by omega)]; done)) | (rw [if_neg (by omega), if_neg (by omega)]; first | (rw [if_pos (by omega)]; done) | (rw [if_neg (by omega)]; done))
  · refine me1 (pc' := 7) (L' := [(0, ii vb), (1, .long x)]) (S' := [.long x]) dm_X12_turned_6 rfl rfl rfl rfl ?_
    refine me0 (pc' := 8) (S' := [.long (-x)]) dm_X12_turned_7 rfl rfl rfl rfl ?_
    refine me2 (pc' := 54) (S' := [.long (-x)]) dm_X12_turned_8 rfl rfl rfl ?_
    refine y_ret (r := some (.long (-x))) dm_X12_turned_54 rfl rfl rfl ?_
    refine ⟨congrArg (fun z => some (Value.long z)) ?_, rfl⟩
    unfold trn
    first | (rw [if_pos (by omega)]; done) | (rw [if_neg (by omega), if_pos (by omega)]; first | (rw [if_pos (by omega)]; done) | (rw [if_neg (by omega), if_pos (by omega)]; done) | (rw [if_neg (by omega), if_neg (by omega)]; done)) | (rw [if_neg (by omega), if_neg (by omega)]; first | (rw [if_pos (by omega)]; done) | (rw [if_neg (by omega)]; done))
