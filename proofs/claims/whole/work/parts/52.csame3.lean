/-- SAME of an item and a value, the item one of a row or a one -/
theorem vsame_it {d i : Nat} {v w : VV} (hw : vw1 v) (h : vk v ≤ 5) (hi : vk v ≤ 1 ∨ i < vm v) : vsame (d + 1) (vit v i) w = (decide (vk w ≤ 1) && (decide ((vk v = 1 ∨ vk v = 3) ↔ (vk w = 1 ∨ vk w = 3)) && decide (vnum v (i : Int) = cnum w))) := by
  obtain ⟨a1, a2, a3⟩ := vit_one hw h hi
  by_cases b : vk w ≤ 1
  · by_cases c : (vk v = 1 ∨ vk v = 3) ↔ (vk w = 1 ∨ vk w = 3)
    · by_cases e : vnum v (i : Int) = cnum w
      · rw [vsame_1t a1 (by omega) (a3.trans e), decide_eq_true b, decide_eq_true c, decide_eq_true e]; rfl
      · rw [vsame_1n (Or.inl a1) (fun z => e (a3.symm.trans z)), decide_eq_false e, Bool.and_false, Bool.and_false]
    · rw [vsame_1k (Or.inl a1) (by omega), decide_eq_false c, Bool.false_and, Bool.and_false]
  · rw [vsame_1k (Or.inl a1) (by omega), decide_eq_false b, Bool.false_and]
/-- of a line of a table and a value -/
theorem vsame_ln {d i : Nat} {v w : VV} (h : vk v = 6) : vsame (d + 1) (vit v i) w = (decide ((vk w = 2 ∨ vk w = 4 ∨ vk w = 5) ∧ vm w = vc v ∧ vc w = 0) && allN (vc v) (fun k => decide (vn v (i * vc v + k) = vn w k))) := by
  rw [vit_6 h]
  by_cases b : (vk w = 2 ∨ vk w = 4 ∨ vk w = 5) ∧ vm w = vc v ∧ vc w = 0
  · rw [decide_eq_true b, Bool.true_and, vsame_yes (a := vrow 4 (vc v) (fun k => vn v (i * vc v + k))) (b := w) (by show 2 ≤ 4; omega) (by omega) (Or.inl ⟨Or.inr (Or.inl rfl), b.1⟩) b.2.1.symm b.2.2.symm, if_neg (by show ¬ 4 = 7; omega), vq_row (by omega)]
    rfl
  · rw [decide_eq_false b, Bool.false_and]
    by_cases c : vk w ≤ 1
    · exact vsame_1k (Or.inr c) (by show 4 ≠ vk w; omega)
    · refine vsame_no (by show 2 ≤ 4; omega) (by omega) ?_
      by_cases e : vk w = 2 ∨ vk w = 4 ∨ vk w = 5
      · by_cases f : vm w = vc v
        · exact Or.inr (Or.inr (Or.inr (fun z => b ⟨e, f, z.symm⟩)))
        · exact Or.inr (Or.inr (Or.inl (fun z => f z.symm)))
      · exact Or.inl ⟨Or.inr (Or.inl rfl), e⟩
theorem vsame_tn {d i j : Nat} {v w : VV} (hv : vw1 v) (hw : vw1 w) (h7 : vk v ≠ 7) (h8 : vk w ≠ 7) (hi : vk v ≤ 1 ∨ i < vm v) (hj : vk w ≤ 1 ∨ j < vm w) (ht : vk v = 6 ∨ vk w = 6) (hc : vc v ≠ vc w) : vsame (d + 1) (vit v i) (vit w j) = false := by
  have h1 := hv.1
  have h2 := hw.1
  by_cases a : vk v = 6
  · rw [vsame_ln a, decide_eq_false, Bool.false_and]
    intro z
    by_cases b : vk w = 6
    · rw [vit_6 b] at z
      exact hc z.2.1.symm
    · have := vit_one (i := j) hw (by omega) hj
      omega
  · rw [vsame_symm, vsame_ln (v := w) (by omega), decide_eq_false, Bool.false_and]
    intro z
    have := vit_one (i := i) hv (by omega) hi
    omega
theorem zd2 {b c : Bool} (h : b = c) : zz b = zz c := by rw [h]
theorem ixq {v : VV} {i : Nat} (h : vk v = 6) (hi : i < vm v) : i * vc v + vc v ≤ vq v := by
  unfold vq
  rw [if_pos h]
  have := Nat.mul_le_mul_right (vc v) hi
  rw [Nat.succ_mul] at this
  exact this
theorem c_itemAt7 {xt : mj_X} {d e p : Nat} {A : Nat → Prop} {h : mj_H} {v : VV} {i : Nat} (hd : 2 ≤ d) (hv : cv A h (e + 1) p v) (hk : vk v = 7) (hi : i < vm v) : ∃ q, cv A h e q (vd v i) ∧ pgP xt d 76 [.ref p, ii (i : Int)] h (.ref q) := by
  obtain ⟨row, fr, vals, hp, hp2, hpA, hvk, hvm, hvc, hvs, hvl⟩ := cv_val hv
  obtain ⟨q, hq, hcq⟩ := c_valueAt7 (xt := xt) (d := d - 1) (i := (i : Int)) (by omega) hv (by omega) (by omega) (by omega)
  refine ⟨q, hq, ?_⟩
  refine x_enter pm_X10_itemAt (L0 := [(0, .ref p), (1, ii (i : Int))]) rfl (Nat.le_of_ble_eq_true rfl) (by omega) ?_
  refine me1 (pc' := 1) (L' := [(0, .ref p), (1, ii (i : Int))]) (S' := [.ref p]) dm_X10_itemAt_0 rfl rfl rfl rfl ?_
  refine me3 (pc' := 4) (S' := [ii (vk v : Int)]) dm_X10_itemAt_1 (g_get (v := ii (vk v : Int)) hp rfl rfl (by omega)) rfl rfl rfl ?_
  refine me0 (pc' := 6) (S' := [ii 7, ii (vk v : Int)]) dm_X10_itemAt_4 rfl rfl rfl rfl ?_
  refine y_2ne (a := (vk v : Int)) (b := 7) (t := 15) (pc' := 9) dm_X10_itemAt_6 rfl rfl (by omega) (fun hb1 => ?_) (fun hb1 => ?_)
  · exfalso; omega
  · refine me1 (pc' := 10) (L' := [(0, .ref p), (1, ii (i : Int))]) (S' := [.ref p]) dm_X10_itemAt_9 rfl rfl rfl rfl ?_
    refine me1 (pc' := 11) (L' := [(0, .ref p), (1, ii (i : Int))]) (S' := [ii (i : Int), .ref p]) dm_X10_itemAt_10 rfl rfl rfl rfl ?_
    refine x_cp (pc' := 14) (v := .ref q) (rest := []) dm_X10_itemAt_11 rfl (g_inv (As := [ii (i : Int)]) (S := []) hp rfl rfl rfl (by omega)) rfl rfl rfl (hcq) ?_
    refine y_ret (r := some (.ref q)) dm_X10_itemAt_14 rfl rfl rfl ?_
    exact ⟨rfl, rfl⟩
set_option maxRecDepth 20000 in
theorem pm_X10_sameFlatItem : mj_mmof pg_ms 126 = some ((⟨"ArrayCalculator$Value", "sameFlatItem", "(LArrayCalculator$Value;ILArrayCalculator$Value;)Z"⟩, prog_12_method_31_code, 3, (Option.some Jvm.ClassFile.FieldType.boolean)), 10, false, mj_dec prog_12_method_31_code) := rfl
theorem dm_X10_sameFlatItem_0 : mj_dec prog_12_method_31_code 0 = some (.aload_n 0, 1) := by decide +kernel
theorem dm_X10_sameFlatItem_1 : mj_dec prog_12_method_31_code 1 = some (.getfield 9, 3) := by decide +kernel
theorem dm_X10_sameFlatItem_4 : mj_dec prog_12_method_31_code 4 = some (.bipush 6, 2) := by decide +kernel
theorem dm_X10_sameFlatItem_6 : mj_dec prog_12_method_31_code 6 = some (.if_icmp .ne 54, 3) := by decide +kernel
theorem dm_X10_sameFlatItem_9 : mj_dec prog_12_method_31_code 9 = some (.aload_n 2, 1) := by decide +kernel
theorem dm_X10_sameFlatItem_10 : mj_dec prog_12_method_31_code 10 = some (.invokevirtual 61, 3) := by decide +kernel
theorem dm_X10_sameFlatItem_13 : mj_dec prog_12_method_31_code 13 = some (.ifCond .eq 45, 3) := by decide +kernel
theorem dm_X10_sameFlatItem_16 : mj_dec prog_12_method_31_code 16 = some (.aload_n 2, 1) := by decide +kernel
theorem dm_X10_sameFlatItem_17 : mj_dec prog_12_method_31_code 17 = some (.getfield 9, 3) := by decide +kernel
theorem dm_X10_sameFlatItem_20 : mj_dec prog_12_method_31_code 20 = some (.iconst 3, 1) := by decide +kernel
theorem dm_X10_sameFlatItem_21 : mj_dec prog_12_method_31_code 21 = some (.if_icmp .eq 37, 3) := by decide +kernel
theorem dm_X10_sameFlatItem_24 : mj_dec prog_12_method_31_code 24 = some (.aload_n 2, 1) := by decide +kernel
theorem dm_X10_sameFlatItem_25 : mj_dec prog_12_method_31_code 25 = some (.getfield 30, 3) := by decide +kernel
theorem dm_X10_sameFlatItem_28 : mj_dec prog_12_method_31_code 28 = some (.aload_n 0, 1) := by decide +kernel
theorem dm_X10_sameFlatItem_29 : mj_dec prog_12_method_31_code 29 = some (.getfield 33, 3) := by decide +kernel
theorem dm_X10_sameFlatItem_32 : mj_dec prog_12_method_31_code 32 = some (.if_icmp .ne 26, 3) := by decide +kernel
theorem dm_X10_sameFlatItem_35 : mj_dec prog_12_method_31_code 35 = some (.aload_n 0, 1) := by decide +kernel
theorem dm_X10_sameFlatItem_36 : mj_dec prog_12_method_31_code 36 = some (.iload_n 1, 1) := by decide +kernel
theorem dm_X10_sameFlatItem_37 : mj_dec prog_12_method_31_code 37 = some (.aload_n 0, 1) := by decide +kernel
theorem dm_X10_sameFlatItem_38 : mj_dec prog_12_method_31_code 38 = some (.getfield 33, 3) := by decide +kernel
theorem dm_X10_sameFlatItem_41 : mj_dec prog_12_method_31_code 41 = some (.imul, 1) := by decide +kernel
theorem dm_X10_sameFlatItem_42 : mj_dec prog_12_method_31_code 42 = some (.aload_n 2, 1) := by decide +kernel
theorem dm_X10_sameFlatItem_43 : mj_dec prog_12_method_31_code 43 = some (.iconst 0, 1) := by decide +kernel
theorem dm_X10_sameFlatItem_44 : mj_dec prog_12_method_31_code 44 = some (.aload_n 0, 1) := by decide +kernel
theorem dm_X10_sameFlatItem_45 : mj_dec prog_12_method_31_code 45 = some (.getfield 33, 3) := by decide +kernel
theorem dm_X10_sameFlatItem_48 : mj_dec prog_12_method_31_code 48 = some (.invokestatic 100, 3) := by decide +kernel
theorem dm_X10_sameFlatItem_51 : mj_dec prog_12_method_31_code 51 = some (.ifCond .eq 7, 3) := by decide +kernel
theorem dm_X10_sameFlatItem_54 : mj_dec prog_12_method_31_code 54 = some (.iconst 1, 1) := by decide +kernel
theorem dm_X10_sameFlatItem_55 : mj_dec prog_12_method_31_code 55 = some (.goto 4, 3) := by decide +kernel
theorem dm_X10_sameFlatItem_58 : mj_dec prog_12_method_31_code 58 = some (.iconst 0, 1) := by decide +kernel
theorem dm_X10_sameFlatItem_59 : mj_dec prog_12_method_31_code 59 = some (.ireturn, 1) := by decide +kernel
theorem dm_X10_sameFlatItem_60 : mj_dec prog_12_method_31_code 60 = some (.aload_n 2, 1) := by decide +kernel
theorem dm_X10_sameFlatItem_61 : mj_dec prog_12_method_31_code 61 = some (.invokevirtual 69, 3) := by decide +kernel
theorem dm_X10_sameFlatItem_64 : mj_dec prog_12_method_31_code 64 = some (.ifCond .eq 31, 3) := by decide +kernel
theorem dm_X10_sameFlatItem_67 : mj_dec prog_12_method_31_code 67 = some (.aload_n 0, 1) := by decide +kernel
theorem dm_X10_sameFlatItem_68 : mj_dec prog_12_method_31_code 68 = some (.invokevirtual 93, 3) := by decide +kernel
theorem dm_X10_sameFlatItem_71 : mj_dec prog_12_method_31_code 71 = some (.aload_n 2, 1) := by decide +kernel
theorem dm_X10_sameFlatItem_72 : mj_dec prog_12_method_31_code 72 = some (.invokevirtual 93, 3) := by decide +kernel
theorem dm_X10_sameFlatItem_75 : mj_dec prog_12_method_31_code 75 = some (.if_icmp .ne 20, 3) := by decide +kernel
theorem dm_X10_sameFlatItem_78 : mj_dec prog_12_method_31_code 78 = some (.aload_n 0, 1) := by decide +kernel
theorem dm_X10_sameFlatItem_79 : mj_dec prog_12_method_31_code 79 = some (.iload_n 1, 1) := by decide +kernel
theorem dm_X10_sameFlatItem_80 : mj_dec prog_12_method_31_code 80 = some (.invokevirtual 72, 3) := by decide +kernel
theorem dm_X10_sameFlatItem_83 : mj_dec prog_12_method_31_code 83 = some (.aload_n 2, 1) := by decide +kernel
theorem dm_X10_sameFlatItem_84 : mj_dec prog_12_method_31_code 84 = some (.getfield 15, 3) := by decide +kernel
theorem dm_X10_sameFlatItem_87 : mj_dec prog_12_method_31_code 87 = some (.lcmp, 1) := by decide +kernel
theorem dm_X10_sameFlatItem_88 : mj_dec prog_12_method_31_code 88 = some (.ifCond .ne 7, 3) := by decide +kernel
theorem dm_X10_sameFlatItem_91 : mj_dec prog_12_method_31_code 91 = some (.iconst 1, 1) := by decide +kernel
theorem dm_X10_sameFlatItem_92 : mj_dec prog_12_method_31_code 92 = some (.goto 4, 3) := by decide +kernel
theorem dm_X10_sameFlatItem_95 : mj_dec prog_12_method_31_code 95 = some (.iconst 0, 1) := by decide +kernel
theorem dm_X10_sameFlatItem_96 : mj_dec prog_12_method_31_code 96 = some (.ireturn, 1) := by decide +kernel
theorem c_sameFlatItem {xt : mj_X} {d e p : Nat} {A : Nat → Prop} {h : mj_H} {v : VV} {q i : Nat} {w : VV} {f1 : Nat → Value} (hx1 : xt 1 = some (.long, 0, f1)) (hd : 2 ≤ d) (hv : cv A h (e + 1) p v) (hw : cv A h (e + 1) q w) (hk7 : vk v ≠ 7) (hi : vk v ≤ 1 ∨ i < vm v) (hi2 : i ≤ 100000) : pgP xt d 126 [.ref p, ii (i : Int), .ref q] h (zz (vsame (e + 1) (vit v i) w)) := by
  have hcv := vw1_c hv.1
  have hcw := vw1_c hw.1
  obtain ⟨row, fr, vals, hp, hp2, hpA, hvk, hvm, hvc, hvs, hvl⟩ := cv_val hv
  obtain ⟨row2, fr2, vals2, hq, hq2, hqA, hwk, hwm, hwc, hws, hwl⟩ := cv_val hw
  refine x_enter pm_X10_sameFlatItem (L0 := [(0, .ref p), (1, ii (i : Int)), (2, .ref q)]) rfl (Nat.le_of_ble_eq_true rfl) (by omega) ?_
  refine me1 (pc' := 1) (L' := [(0, .ref p), (1, ii (i : Int)), (2, .ref q)]) (S' := [.ref p]) dm_X10_sameFlatItem_0 rfl rfl rfl rfl ?_
  refine me3 (pc' := 4) (S' := [ii (vk v : Int)]) dm_X10_sameFlatItem_1 (g_get (v := ii (vk v : Int)) hp rfl rfl (by omega)) rfl rfl rfl ?_
  refine me0 (pc' := 6) (S' := [ii 6, ii (vk v : Int)]) dm_X10_sameFlatItem_4 rfl rfl rfl rfl ?_
  refine y_2ne (a := (vk v : Int)) (b := 6) (t := 60) (pc' := 9) dm_X10_sameFlatItem_6 rfl rfl (by omega) (fun hb1 => ?_) (fun hb1 => ?_)
  · refine me1 (pc' := 61) (L' := [(0, .ref p), (1, ii (i : Int)), (2, .ref q)]) (S' := [.ref q]) dm_X10_sameFlatItem_60 rfl rfl rfl rfl ?_
    refine x_cp (pc' := 64) (v := zz (decide (vk w ≤ 1))) (rest := []) dm_X10_sameFlatItem_61 rfl (g_inv (As := []) (S := []) hq rfl rfl rfl (by omega)) rfl rfl rfl (c_isOne (by omega) hw) ?_
    refine y_zeq (c := decide (vk w ≤ 1)) (t := 95) (pc' := 67) dm_X10_sameFlatItem_64 rfl rfl (fun hb2 => ?_) (fun hb2 => ?_)
    · replace hb2 := dF hb2
      refine me0 (pc' := 96) (S' := [ii 0]) dm_X10_sameFlatItem_95 rfl rfl rfl rfl ?_
      refine y_ret (r := some (ii 0)) dm_X10_sameFlatItem_96 rfl rfl rfl ?_
      refine ⟨congrArg some ?_, rfl⟩
      first | (rw [vsame_it hv.1 (by omega) hi, decide_eq_false (show ¬ vk w ≤ 1 by omega)]; rfl) | (rw [vsame_it hv.1 (by omega) hi, decide_eq_false (show ¬ ((vk v = 1 ∨ vk v = 3) ↔ (vk w = 1 ∨ vk w = 3)) by omega), Bool.false_and, Bool.and_false]; rfl) | (rw [vsame_it hv.1 (by omega) hi, decide_eq_false (show ¬ vnum v (i : Int) = cnum w by assumption), Bool.and_false, Bool.and_false]; rfl)
    · replace hb2 := dT hb2
      refine me1 (pc' := 68) (L' := [(0, .ref p), (1, ii (i : Int)), (2, .ref q)]) (S' := [.ref p]) dm_X10_sameFlatItem_67 rfl rfl rfl rfl ?_
      refine x_cp (pc' := 71) (v := zz (decide (vk v = 1 ∨ vk v = 3))) (rest := []) dm_X10_sameFlatItem_68 rfl (g_inv (As := []) (S := []) hp rfl rfl rfl (by omega)) rfl rfl rfl (c_ofSigns (by omega) hv) ?_
      refine me1 (pc' := 72) (L' := [(0, .ref p), (1, ii (i : Int)), (2, .ref q)]) (S' := [.ref q, zz (decide (vk v = 1 ∨ vk v = 3))]) dm_X10_sameFlatItem_71 rfl rfl rfl rfl ?_
      refine x_cp (pc' := 75) (v := zz (decide (vk w = 1 ∨ vk w = 3))) (rest := [zz (decide (vk v = 1 ∨ vk v = 3))]) dm_X10_sameFlatItem_72 rfl (g_inv (As := []) (S := [zz (decide (vk v = 1 ∨ vk v = 3))]) hq rfl rfl rfl (by omega)) rfl rfl rfl (c_ofSigns (by omega) hw) ?_
      refine y_z2ne (c := decide (vk v = 1 ∨ vk v = 3)) (e := decide (vk w = 1 ∨ vk w = 3)) (t := 95) (pc' := 78) dm_X10_sameFlatItem_75 rfl rfl (fun hb3 => ?_) (fun hb3 => ?_)
      · replace hb3 := dNe hb3
        refine me0 (pc' := 96) (S' := [ii 0]) dm_X10_sameFlatItem_95 rfl rfl rfl rfl ?_
        refine y_ret (r := some (ii 0)) dm_X10_sameFlatItem_96 rfl rfl rfl ?_
        refine ⟨congrArg some ?_, rfl⟩
        first | (rw [vsame_it hv.1 (by omega) hi, decide_eq_false (show ¬ vk w ≤ 1 by omega)]; rfl) | (rw [vsame_it hv.1 (by omega) hi, decide_eq_false (show ¬ ((vk v = 1 ∨ vk v = 3) ↔ (vk w = 1 ∨ vk w = 3)) by omega), Bool.false_and, Bool.and_false]; rfl) | (rw [vsame_it hv.1 (by omega) hi, decide_eq_false (show ¬ vnum v (i : Int) = cnum w by assumption), Bool.and_false, Bool.and_false]; rfl)
      · replace hb3 := dEq hb3
        refine me1 (pc' := 79) (L' := [(0, .ref p), (1, ii (i : Int)), (2, .ref q)]) (S' := [.ref p]) dm_X10_sameFlatItem_78 rfl rfl rfl rfl ?_
        refine me1 (pc' := 80) (L' := [(0, .ref p), (1, ii (i : Int)), (2, .ref q)]) (S' := [ii (i : Int), .ref p]) dm_X10_sameFlatItem_79 rfl rfl rfl rfl ?_
        refine x_cp (pc' := 83) (v := .long (vnum v (i : Int))) (rest := []) dm_X10_sameFlatItem_80 rfl (g_inv (As := [ii (i : Int)]) (S := []) hp rfl rfl rfl (by omega)) rfl rfl rfl (c_numberAt (i := (i : Int)) hx1 (by omega) hv (by omega)) ?_
        refine me1 (pc' := 84) (L' := [(0, .ref p), (1, ii (i : Int)), (2, .ref q)]) (S' := [.ref q, .long (vnum v (i : Int))]) dm_X10_sameFlatItem_83 rfl rfl rfl rfl ?_
        refine me3 (pc' := 87) (S' := [.long (cnum w), .long (vnum v (i : Int))]) dm_X10_sameFlatItem_84 (g_get (v := .long (cnum w)) hq rfl rfl (by omega)) rfl rfl rfl ?_
        refine y_lne (x := vnum v (i : Int)) (y := cnum w) (t := 95) (pc1 := 88) (pc' := 91) dm_X10_sameFlatItem_87 rfl dm_X10_sameFlatItem_88 rfl rfl (fun hb4 => ?_) (fun hb4 => ?_)
        · refine me0 (pc' := 96) (S' := [ii 0]) dm_X10_sameFlatItem_95 rfl rfl rfl rfl ?_
          refine y_ret (r := some (ii 0)) dm_X10_sameFlatItem_96 rfl rfl rfl ?_
          refine ⟨congrArg some ?_, rfl⟩
          first | (rw [vsame_it hv.1 (by omega) hi, decide_eq_false (show ¬ vk w ≤ 1 by omega)]; rfl) | (rw [vsame_it hv.1 (by omega) hi, decide_eq_false (show ¬ ((vk v = 1 ∨ vk v = 3) ↔ (vk w = 1 ∨ vk w = 3)) by omega), Bool.false_and, Bool.and_false]; rfl) | (rw [vsame_it hv.1 (by omega) hi, decide_eq_false (show ¬ vnum v (i : Int) = cnum w by assumption), Bool.and_false, Bool.and_false]; rfl)
        · refine me0 (pc' := 92) (S' := [ii 1]) dm_X10_sameFlatItem_91 rfl rfl rfl rfl ?_
          refine me2 (pc' := 96) (S' := [ii 1]) dm_X10_sameFlatItem_92 rfl rfl rfl ?_
          refine y_ret (r := some (ii 1)) dm_X10_sameFlatItem_96 rfl rfl rfl ?_
          refine ⟨congrArg some ?_, rfl⟩
          rw [vsame_it hv.1 (by omega) hi, decide_eq_true (by omega), decide_eq_true (by omega), decide_eq_true (by assumption)]; rfl
  · refine me1 (pc' := 10) (L' := [(0, .ref p), (1, ii (i : Int)), (2, .ref q)]) (S' := [.ref q]) dm_X10_sameFlatItem_9 rfl rfl rfl rfl ?_
    refine x_cp (pc' := 13) (v := zz (decide (2 ≤ vk w ∧ vk w ≤ 5))) (rest := []) dm_X10_sameFlatItem_10 rfl (g_inv (As := []) (S := []) hq rfl rfl rfl (by omega)) rfl rfl rfl (c_isRow (by omega) hw) ?_
    refine y_zeq (c := decide (2 ≤ vk w ∧ vk w ≤ 5)) (t := 58) (pc' := 16) dm_X10_sameFlatItem_13 rfl rfl (fun hb5 => ?_) (fun hb5 => ?_)
    · replace hb5 := dF hb5
      refine me0 (pc' := 59) (S' := [ii 0]) dm_X10_sameFlatItem_58 rfl rfl rfl rfl ?_
      refine y_ret (r := some (ii 0)) dm_X10_sameFlatItem_59 rfl rfl rfl ?_
      refine ⟨congrArg some ?_, rfl⟩
      first | (rw [vsame_ln (by omega), decide_eq_false (by omega)]; rfl) | (rw [vsame_ln (by omega), decide_eq_true (by omega)]; have hzz := hd; rw [allN_congr (g := fun k => decide (vn v (i * vc v + k) = vn w k)) (fun k _ => by rw [Nat.zero_add])] at hzz; rw [hzz]; rfl)
    · replace hb5 := dT hb5
      refine me1 (pc' := 17) (L' := [(0, .ref p), (1, ii (i : Int)), (2, .ref q)]) (S' := [.ref q]) dm_X10_sameFlatItem_16 rfl rfl rfl rfl ?_
      refine me3 (pc' := 20) (S' := [ii (vk w : Int)]) dm_X10_sameFlatItem_17 (g_get (v := ii (vk w : Int)) hq rfl rfl (by omega)) rfl rfl rfl ?_
      refine me0 (pc' := 21) (S' := [ii 3, ii (vk w : Int)]) dm_X10_sameFlatItem_20 rfl rfl rfl rfl ?_
      refine y_2eq (a := (vk w : Int)) (b := 3) (t := 58) (pc' := 24) dm_X10_sameFlatItem_21 rfl rfl (by omega) (fun hb6 => ?_) (fun hb6 => ?_)
      · refine me0 (pc' := 59) (S' := [ii 0]) dm_X10_sameFlatItem_58 rfl rfl rfl rfl ?_
        refine y_ret (r := some (ii 0)) dm_X10_sameFlatItem_59 rfl rfl rfl ?_
        refine ⟨congrArg some ?_, rfl⟩
        first | (rw [vsame_ln (by omega), decide_eq_false (by omega)]; rfl) | (rw [vsame_ln (by omega), decide_eq_true (by omega)]; have hzz := hd; rw [allN_congr (g := fun k => decide (vn v (i * vc v + k) = vn w k)) (fun k _ => by rw [Nat.zero_add])] at hzz; rw [hzz]; rfl)
      · refine me1 (pc' := 25) (L' := [(0, .ref p), (1, ii (i : Int)), (2, .ref q)]) (S' := [.ref q]) dm_X10_sameFlatItem_24 rfl rfl rfl rfl ?_
        refine me3 (pc' := 28) (S' := [ii (vm w : Int)]) dm_X10_sameFlatItem_25 (g_get (v := ii (vm w : Int)) hq rfl rfl (by omega)) rfl rfl rfl ?_
        refine me1 (pc' := 29) (L' := [(0, .ref p), (1, ii (i : Int)), (2, .ref q)]) (S' := [.ref p, ii (vm w : Int)]) dm_X10_sameFlatItem_28 rfl rfl rfl rfl ?_
        refine me3 (pc' := 32) (S' := [ii (vc v : Int), ii (vm w : Int)]) dm_X10_sameFlatItem_29 (g_get (v := ii (vc v : Int)) hp rfl rfl (by omega)) rfl rfl rfl ?_
        refine y_2ne (a := (vm w : Int)) (b := (vc v : Int)) (t := 58) (pc' := 35) dm_X10_sameFlatItem_32 rfl rfl (by omega) (fun hb7 => ?_) (fun hb7 => ?_)
        · refine me0 (pc' := 59) (S' := [ii 0]) dm_X10_sameFlatItem_58 rfl rfl rfl rfl ?_
          refine y_ret (r := some (ii 0)) dm_X10_sameFlatItem_59 rfl rfl rfl ?_
          refine ⟨congrArg some ?_, rfl⟩
          first | (rw [vsame_ln (by omega), decide_eq_false (by omega)]; rfl) | (rw [vsame_ln (by omega), decide_eq_true (by omega)]; have hzz := hd; rw [allN_congr (g := fun k => decide (vn v (i * vc v + k) = vn w k)) (fun k _ => by rw [Nat.zero_add])] at hzz; rw [hzz]; rfl)
        · have hix := ixq (i := i) (show vk v = 6 by omega) (by omega)
          have hwq : vq w = vm w := by unfold vq; rw [if_neg (by omega), if_neg (by omega)]
          refine me1 (pc' := 36) (L' := [(0, .ref p), (1, ii (i : Int)), (2, .ref q)]) (S' := [.ref p]) dm_X10_sameFlatItem_35 rfl rfl rfl rfl ?_
          refine me1 (pc' := 37) (L' := [(0, .ref p), (1, ii (i : Int)), (2, .ref q)]) (S' := [ii (i : Int), .ref p]) dm_X10_sameFlatItem_36 rfl rfl rfl rfl ?_
          refine me1 (pc' := 38) (L' := [(0, .ref p), (1, ii (i : Int)), (2, .ref q)]) (S' := [.ref p, ii (i : Int), .ref p]) dm_X10_sameFlatItem_37 rfl rfl rfl rfl ?_
          refine me3 (pc' := 41) (S' := [ii (vc v : Int), ii (i : Int), .ref p]) dm_X10_sameFlatItem_38 (g_get (v := ii (vc v : Int)) hp rfl rfl (by omega)) rfl rfl rfl ?_
          refine y_imul (a := (i : Int)) (b := (vc v : Int)) dm_X10_sameFlatItem_41 (pc' := 42) rfl ?_
          refine me1 (pc' := 43) (L' := [(0, .ref p), (1, ii (i : Int)), (2, .ref q)]) (S' := [.ref q, ii ((i : Int) * (vc v : Int)), .ref p]) dm_X10_sameFlatItem_42 rfl rfl rfl rfl ?_
          refine me0 (pc' := 44) (S' := [ii 0, .ref q, ii ((i : Int) * (vc v : Int)), .ref p]) dm_X10_sameFlatItem_43 rfl rfl rfl rfl ?_
          refine me1 (pc' := 45) (L' := [(0, .ref p), (1, ii (i : Int)), (2, .ref q)]) (S' := [.ref p, ii 0, .ref q, ii ((i : Int) * (vc v : Int)), .ref p]) dm_X10_sameFlatItem_44 rfl rfl rfl rfl ?_
          refine me3 (pc' := 48) (S' := [ii (vc v : Int), ii 0, .ref q, ii ((i : Int) * (vc v : Int)), .ref p]) dm_X10_sameFlatItem_45 (g_get (v := ii (vc v : Int)) hp rfl rfl (by omega)) rfl rfl rfl ?_
          refine x_cp (pc' := 51) (v := zz (allN (vc v) (fun k => decide (vn v (i * vc v + k) = vn w (0 + k))))) (rest := []) dm_X10_sameFlatItem_48 rfl (g_invs (As := [.ref p, ii ((i : Int) * (vc v : Int)), .ref q, ii 0, ii (vc v : Int)]) (S := []) rfl rfl rfl) rfl rfl rfl (c_sameRun (s1 := i * vc v) (s2 := 0) (n := vc v) hx1 (by omega) hv hw (by omega) (by omega) (by omega) (by omega) (by omega) (by omega)) ?_
          refine y_zeq (c := allN (vc v) (fun k => decide (vn v (i * vc v + k) = vn w (0 + k)))) (t := 58) (pc' := 54) dm_X10_sameFlatItem_51 rfl rfl (fun hb8 => ?_) (fun hb8 => ?_)
          · refine me0 (pc' := 59) (S' := [ii 0]) dm_X10_sameFlatItem_58 rfl rfl rfl rfl ?_
            refine y_ret (r := some (ii 0)) dm_X10_sameFlatItem_59 rfl rfl rfl ?_
            refine ⟨congrArg some ?_, rfl⟩
            first | (rw [vsame_ln (by omega), decide_eq_false (by omega)]; rfl) | (rw [vsame_ln (by omega), decide_eq_true (by omega)]; have hzz := hb8; rw [allN_congr (g := fun k => decide (vn v (i * vc v + k) = vn w k)) (fun k _ => by rw [Nat.zero_add])] at hzz; rw [hzz]; rfl)
          · refine me0 (pc' := 55) (S' := [ii 1]) dm_X10_sameFlatItem_54 rfl rfl rfl rfl ?_
            refine me2 (pc' := 59) (S' := [ii 1]) dm_X10_sameFlatItem_55 rfl rfl rfl ?_
            refine y_ret (r := some (ii 1)) dm_X10_sameFlatItem_59 rfl rfl rfl ?_
            refine ⟨congrArg some ?_, rfl⟩
            rw [vsame_ln (by omega), decide_eq_true (by omega)]
            have hzz := hb8
            rw [allN_congr (g := fun k => decide (vn v (i * vc v + k) = vn w k)) (fun k _ => by rw [Nat.zero_add])] at hzz
            rw [hzz]; rfl
set_option maxRecDepth 20000 in
theorem pm_X10_sameItem : mj_mmof pg_ms 150 = some ((⟨"ArrayCalculator$Value", "sameItem", "(LArrayCalculator$Value;ILArrayCalculator$Value;)Z"⟩, prog_12_method_30_code, 3, (Option.some Jvm.ClassFile.FieldType.boolean)), 10, false, mj_dec prog_12_method_30_code) := rfl
theorem dm_X10_sameItem_0 : mj_dec prog_12_method_30_code 0 = some (.aload_n 0, 1) := by decide +kernel
theorem dm_X10_sameItem_1 : mj_dec prog_12_method_30_code 1 = some (.getfield 9, 3) := by decide +kernel
theorem dm_X10_sameItem_4 : mj_dec prog_12_method_30_code 4 = some (.bipush 7, 2) := by decide +kernel
theorem dm_X10_sameItem_6 : mj_dec prog_12_method_30_code 6 = some (.if_icmp .ne 15, 3) := by decide +kernel
theorem dm_X10_sameItem_9 : mj_dec prog_12_method_30_code 9 = some (.aload_n 0, 1) := by decide +kernel
theorem dm_X10_sameItem_10 : mj_dec prog_12_method_30_code 10 = some (.iload_n 1, 1) := by decide +kernel
theorem dm_X10_sameItem_11 : mj_dec prog_12_method_30_code 11 = some (.invokevirtual 108, 3) := by decide +kernel
theorem dm_X10_sameItem_14 : mj_dec prog_12_method_30_code 14 = some (.aload_n 2, 1) := by decide +kernel
theorem dm_X10_sameItem_15 : mj_dec prog_12_method_30_code 15 = some (.invokestatic 104, 3) := by decide +kernel
theorem dm_X10_sameItem_18 : mj_dec prog_12_method_30_code 18 = some (.goto 9, 3) := by decide +kernel
theorem dm_X10_sameItem_21 : mj_dec prog_12_method_30_code 21 = some (.aload_n 0, 1) := by decide +kernel
theorem dm_X10_sameItem_22 : mj_dec prog_12_method_30_code 22 = some (.iload_n 1, 1) := by decide +kernel
theorem dm_X10_sameItem_23 : mj_dec prog_12_method_30_code 23 = some (.aload_n 2, 1) := by decide +kernel
theorem dm_X10_sameItem_24 : mj_dec prog_12_method_30_code 24 = some (.invokestatic 111, 3) := by decide +kernel
theorem dm_X10_sameItem_27 : mj_dec prog_12_method_30_code 27 = some (.ireturn, 1) := by decide +kernel
theorem c_sameItem {xt : mj_X} {d e p : Nat} {A : Nat → Prop} {h : mj_H} {v : VV} {q i : Nat} {w : VV} {f1 : Nat → Value} (hx1 : xt 1 = some (.long, 0, f1)) (hd : 4 * e + 12 ≤ d) (hv : cv A h (e + 1) p v) (hw : cv A h (e + 1) q w) (hi : vk v ≤ 1 ∨ i < vm v) (hi2 : i ≤ 100000) : pgP xt d 150 [.ref p, ii (i : Int), .ref q] h (zz (vsame (e + 1) (vit v i) w)) := by
  have hcv := vw1_c hv.1
  have hcw := vw1_c hw.1
  obtain ⟨row, fr, vals, hp, hp2, hpA, hvk, hvm, hvc, hvs, hvl⟩ := cv_val hv
  obtain ⟨row2, fr2, vals2, hq, hq2, hqA, hwk, hwm, hwc, hws, hwl⟩ := cv_val hw
  refine x_enter pm_X10_sameItem (L0 := [(0, .ref p), (1, ii (i : Int)), (2, .ref q)]) rfl (Nat.le_of_ble_eq_true rfl) (by omega) ?_
  refine me1 (pc' := 1) (L' := [(0, .ref p), (1, ii (i : Int)), (2, .ref q)]) (S' := [.ref p]) dm_X10_sameItem_0 rfl rfl rfl rfl ?_
  refine me3 (pc' := 4) (S' := [ii (vk v : Int)]) dm_X10_sameItem_1 (g_get (v := ii (vk v : Int)) hp rfl rfl (by omega)) rfl rfl rfl ?_
  refine me0 (pc' := 6) (S' := [ii 7, ii (vk v : Int)]) dm_X10_sameItem_4 rfl rfl rfl rfl ?_
  refine y_2ne (a := (vk v : Int)) (b := 7) (t := 21) (pc' := 9) dm_X10_sameItem_6 rfl rfl (by omega) (fun hb1 => ?_) (fun hb1 => ?_)
  · refine me1 (pc' := 22) (L' := [(0, .ref p), (1, ii (i : Int)), (2, .ref q)]) (S' := [.ref p]) dm_X10_sameItem_21 rfl rfl rfl rfl ?_
    refine me1 (pc' := 23) (L' := [(0, .ref p), (1, ii (i : Int)), (2, .ref q)]) (S' := [ii (i : Int), .ref p]) dm_X10_sameItem_22 rfl rfl rfl rfl ?_
    refine me1 (pc' := 24) (L' := [(0, .ref p), (1, ii (i : Int)), (2, .ref q)]) (S' := [.ref q, ii (i : Int), .ref p]) dm_X10_sameItem_23 rfl rfl rfl rfl ?_
    refine x_cp (pc' := 27) (v := zz (vsame (e + 1) (vit v i) w)) (rest := []) dm_X10_sameItem_24 rfl (g_invs (As := [.ref p, ii (i : Int), .ref q]) (S := []) rfl rfl rfl) rfl rfl rfl (c_sameFlatItem hx1 (by omega) hv hw (by omega) hi hi2) ?_
    refine y_ret (r := some (zz (vsame (e + 1) (vit v i) w))) dm_X10_sameItem_27 (y_retz _) rfl rfl ?_
    exact ⟨rfl, rfl⟩
  · obtain ⟨q1, hq1, hcq1⟩ := c_itemAt7 (xt := xt) (d := d - 1) (i := i) (by omega) hv (by omega) (by omega)
    refine me1 (pc' := 10) (L' := [(0, .ref p), (1, ii (i : Int)), (2, .ref q)]) (S' := [.ref p]) dm_X10_sameItem_9 rfl rfl rfl rfl ?_
    refine me1 (pc' := 11) (L' := [(0, .ref p), (1, ii (i : Int)), (2, .ref q)]) (S' := [ii (i : Int), .ref p]) dm_X10_sameItem_10 rfl rfl rfl rfl ?_
    refine x_cp (pc' := 14) (v := .ref q1) (rest := []) dm_X10_sameItem_11 rfl (g_inv (As := [ii (i : Int)]) (S := []) hp rfl rfl rfl (by omega)) rfl rfl rfl (hcq1) ?_
    refine me1 (pc' := 15) (L' := [(0, .ref p), (1, ii (i : Int)), (2, .ref q)]) (S' := [.ref q, .ref q1]) dm_X10_sameItem_14 rfl rfl rfl rfl ?_
    refine x_cp (pc' := 18) (v := zz (vsame (e + 1) (vd v i) w)) (rest := []) dm_X10_sameItem_15 rfl (g_invs (As := [.ref q1, .ref q]) (S := []) rfl rfl rfl) rfl rfl rfl (c_same hx1 (e + 1) (by omega) (cv_up hq1) hw) ?_
    refine me2 (pc' := 27) (S' := [zz (vsame (e + 1) (vd v i) w)]) dm_X10_sameItem_18 rfl rfl rfl ?_
    refine y_ret (r := some (zz (vsame (e + 1) (vd v i) w))) dm_X10_sameItem_27 (y_retz _) rfl rfl ?_
    exact ⟨congrArg some (zd2 (by rw [vit_7 (by omega)])), rfl⟩
set_option maxRecDepth 20000 in
theorem pm_X10_sameItems : mj_mmof pg_ms 123 = some ((⟨"ArrayCalculator$Value", "sameItems", "(LArrayCalculator$Value;ILArrayCalculator$Value;I)Z"⟩, prog_12_method_29_code, 5, (Option.some Jvm.ClassFile.FieldType.boolean)), 10, false, mj_dec prog_12_method_29_code) := rfl
theorem dm_X10_sameItems_0 : mj_dec prog_12_method_29_code 0 = some (.aload_n 0, 1) := by decide +kernel
theorem dm_X10_sameItems_1 : mj_dec prog_12_method_29_code 1 = some (.getfield 9, 3) := by decide +kernel
theorem dm_X10_sameItems_4 : mj_dec prog_12_method_29_code 4 = some (.bipush 7, 2) := by decide +kernel
theorem dm_X10_sameItems_6 : mj_dec prog_12_method_29_code 6 = some (.if_icmp .ne 40, 3) := by decide +kernel
theorem dm_X10_sameItems_9 : mj_dec prog_12_method_29_code 9 = some (.aload_n 0, 1) := by decide +kernel
theorem dm_X10_sameItems_10 : mj_dec prog_12_method_29_code 10 = some (.iload_n 1, 1) := by decide +kernel
theorem dm_X10_sameItems_11 : mj_dec prog_12_method_29_code 11 = some (.invokevirtual 108, 3) := by decide +kernel
theorem dm_X10_sameItems_14 : mj_dec prog_12_method_29_code 14 = some (.astore 4, 2) := by decide +kernel
theorem dm_X10_sameItems_16 : mj_dec prog_12_method_29_code 16 = some (.aload_n 2, 1) := by decide +kernel
theorem dm_X10_sameItems_17 : mj_dec prog_12_method_29_code 17 = some (.getfield 9, 3) := by decide +kernel
theorem dm_X10_sameItems_20 : mj_dec prog_12_method_29_code 20 = some (.bipush 7, 2) := by decide +kernel
theorem dm_X10_sameItems_22 : mj_dec prog_12_method_29_code 22 = some (.if_icmp .ne 16, 3) := by decide +kernel
theorem dm_X10_sameItems_25 : mj_dec prog_12_method_29_code 25 = some (.aload_n 2, 1) := by decide +kernel
theorem dm_X10_sameItems_26 : mj_dec prog_12_method_29_code 26 = some (.iload_n 3, 1) := by decide +kernel
theorem dm_X10_sameItems_27 : mj_dec prog_12_method_29_code 27 = some (.invokevirtual 108, 3) := by decide +kernel
theorem dm_X10_sameItems_30 : mj_dec prog_12_method_29_code 30 = some (.aload 4, 2) := by decide +kernel
theorem dm_X10_sameItems_32 : mj_dec prog_12_method_29_code 32 = some (.invokestatic 104, 3) := by decide +kernel
theorem dm_X10_sameItems_35 : mj_dec prog_12_method_29_code 35 = some (.goto 10, 3) := by decide +kernel
theorem dm_X10_sameItems_38 : mj_dec prog_12_method_29_code 38 = some (.aload_n 2, 1) := by decide +kernel
theorem dm_X10_sameItems_39 : mj_dec prog_12_method_29_code 39 = some (.iload_n 3, 1) := by decide +kernel
theorem dm_X10_sameItems_40 : mj_dec prog_12_method_29_code 40 = some (.aload 4, 2) := by decide +kernel
theorem dm_X10_sameItems_42 : mj_dec prog_12_method_29_code 42 = some (.invokestatic 111, 3) := by decide +kernel
theorem dm_X10_sameItems_45 : mj_dec prog_12_method_29_code 45 = some (.ireturn, 1) := by decide +kernel
theorem dm_X10_sameItems_46 : mj_dec prog_12_method_29_code 46 = some (.aload_n 2, 1) := by decide +kernel
theorem dm_X10_sameItems_47 : mj_dec prog_12_method_29_code 47 = some (.getfield 9, 3) := by decide +kernel
theorem dm_X10_sameItems_50 : mj_dec prog_12_method_29_code 50 = some (.bipush 7, 2) := by decide +kernel
theorem dm_X10_sameItems_52 : mj_dec prog_12_method_29_code 52 = some (.if_icmp .ne 14, 3) := by decide +kernel
theorem dm_X10_sameItems_55 : mj_dec prog_12_method_29_code 55 = some (.aload_n 0, 1) := by decide +kernel
theorem dm_X10_sameItems_56 : mj_dec prog_12_method_29_code 56 = some (.iload_n 1, 1) := by decide +kernel
theorem dm_X10_sameItems_57 : mj_dec prog_12_method_29_code 57 = some (.aload_n 2, 1) := by decide +kernel
theorem dm_X10_sameItems_58 : mj_dec prog_12_method_29_code 58 = some (.iload_n 3, 1) := by decide +kernel
theorem dm_X10_sameItems_59 : mj_dec prog_12_method_29_code 59 = some (.invokevirtual 108, 3) := by decide +kernel
theorem dm_X10_sameItems_62 : mj_dec prog_12_method_29_code 62 = some (.invokestatic 111, 3) := by decide +kernel
theorem dm_X10_sameItems_65 : mj_dec prog_12_method_29_code 65 = some (.ireturn, 1) := by decide +kernel
theorem dm_X10_sameItems_66 : mj_dec prog_12_method_29_code 66 = some (.aload_n 0, 1) := by decide +kernel
theorem dm_X10_sameItems_67 : mj_dec prog_12_method_29_code 67 = some (.getfield 9, 3) := by decide +kernel
theorem dm_X10_sameItems_70 : mj_dec prog_12_method_29_code 70 = some (.bipush 6, 2) := by decide +kernel
theorem dm_X10_sameItems_72 : mj_dec prog_12_method_29_code 72 = some (.if_icmp .eq 12, 3) := by decide +kernel
theorem dm_X10_sameItems_75 : mj_dec prog_12_method_29_code 75 = some (.aload_n 2, 1) := by decide +kernel
theorem dm_X10_sameItems_76 : mj_dec prog_12_method_29_code 76 = some (.getfield 9, 3) := by decide +kernel
theorem dm_X10_sameItems_79 : mj_dec prog_12_method_29_code 79 = some (.bipush 6, 2) := by decide +kernel
theorem dm_X10_sameItems_81 : mj_dec prog_12_method_29_code 81 = some (.if_icmp .ne 44, 3) := by decide +kernel
theorem dm_X10_sameItems_84 : mj_dec prog_12_method_29_code 84 = some (.aload_n 0, 1) := by decide +kernel
theorem dm_X10_sameItems_85 : mj_dec prog_12_method_29_code 85 = some (.getfield 33, 3) := by decide +kernel
theorem dm_X10_sameItems_88 : mj_dec prog_12_method_29_code 88 = some (.aload_n 2, 1) := by decide +kernel
theorem dm_X10_sameItems_89 : mj_dec prog_12_method_29_code 89 = some (.getfield 33, 3) := by decide +kernel
theorem dm_X10_sameItems_92 : mj_dec prog_12_method_29_code 92 = some (.if_icmp .ne 31, 3) := by decide +kernel
theorem dm_X10_sameItems_95 : mj_dec prog_12_method_29_code 95 = some (.aload_n 0, 1) := by decide +kernel
theorem dm_X10_sameItems_96 : mj_dec prog_12_method_29_code 96 = some (.iload_n 1, 1) := by decide +kernel
theorem dm_X10_sameItems_97 : mj_dec prog_12_method_29_code 97 = some (.aload_n 0, 1) := by decide +kernel
theorem dm_X10_sameItems_98 : mj_dec prog_12_method_29_code 98 = some (.getfield 33, 3) := by decide +kernel
theorem dm_X10_sameItems_101 : mj_dec prog_12_method_29_code 101 = some (.imul, 1) := by decide +kernel
theorem dm_X10_sameItems_102 : mj_dec prog_12_method_29_code 102 = some (.aload_n 2, 1) := by decide +kernel
theorem dm_X10_sameItems_103 : mj_dec prog_12_method_29_code 103 = some (.iload_n 3, 1) := by decide +kernel
theorem dm_X10_sameItems_104 : mj_dec prog_12_method_29_code 104 = some (.aload_n 2, 1) := by decide +kernel
theorem dm_X10_sameItems_105 : mj_dec prog_12_method_29_code 105 = some (.getfield 33, 3) := by decide +kernel
theorem dm_X10_sameItems_108 : mj_dec prog_12_method_29_code 108 = some (.imul, 1) := by decide +kernel
theorem dm_X10_sameItems_109 : mj_dec prog_12_method_29_code 109 = some (.aload_n 0, 1) := by decide +kernel
theorem dm_X10_sameItems_110 : mj_dec prog_12_method_29_code 110 = some (.getfield 33, 3) := by decide +kernel
theorem dm_X10_sameItems_113 : mj_dec prog_12_method_29_code 113 = some (.invokestatic 100, 3) := by decide +kernel
theorem dm_X10_sameItems_116 : mj_dec prog_12_method_29_code 116 = some (.ifCond .eq 7, 3) := by decide +kernel
theorem dm_X10_sameItems_119 : mj_dec prog_12_method_29_code 119 = some (.iconst 1, 1) := by decide +kernel
theorem dm_X10_sameItems_120 : mj_dec prog_12_method_29_code 120 = some (.goto 4, 3) := by decide +kernel
theorem dm_X10_sameItems_123 : mj_dec prog_12_method_29_code 123 = some (.iconst 0, 1) := by decide +kernel
theorem dm_X10_sameItems_124 : mj_dec prog_12_method_29_code 124 = some (.ireturn, 1) := by decide +kernel
theorem dm_X10_sameItems_125 : mj_dec prog_12_method_29_code 125 = some (.aload_n 0, 1) := by decide +kernel
theorem dm_X10_sameItems_126 : mj_dec prog_12_method_29_code 126 = some (.invokevirtual 93, 3) := by decide +kernel
theorem dm_X10_sameItems_129 : mj_dec prog_12_method_29_code 129 = some (.aload_n 2, 1) := by decide +kernel
theorem dm_X10_sameItems_130 : mj_dec prog_12_method_29_code 130 = some (.invokevirtual 93, 3) := by decide +kernel
theorem dm_X10_sameItems_133 : mj_dec prog_12_method_29_code 133 = some (.if_icmp .ne 21, 3) := by decide +kernel
theorem dm_X10_sameItems_136 : mj_dec prog_12_method_29_code 136 = some (.aload_n 0, 1) := by decide +kernel
theorem dm_X10_sameItems_137 : mj_dec prog_12_method_29_code 137 = some (.iload_n 1, 1) := by decide +kernel
theorem dm_X10_sameItems_138 : mj_dec prog_12_method_29_code 138 = some (.invokevirtual 72, 3) := by decide +kernel
theorem dm_X10_sameItems_141 : mj_dec prog_12_method_29_code 141 = some (.aload_n 2, 1) := by decide +kernel
theorem dm_X10_sameItems_142 : mj_dec prog_12_method_29_code 142 = some (.iload_n 3, 1) := by decide +kernel
theorem dm_X10_sameItems_143 : mj_dec prog_12_method_29_code 143 = some (.invokevirtual 72, 3) := by decide +kernel
theorem dm_X10_sameItems_146 : mj_dec prog_12_method_29_code 146 = some (.lcmp, 1) := by decide +kernel
theorem dm_X10_sameItems_147 : mj_dec prog_12_method_29_code 147 = some (.ifCond .ne 7, 3) := by decide +kernel
theorem dm_X10_sameItems_150 : mj_dec prog_12_method_29_code 150 = some (.iconst 1, 1) := by decide +kernel
theorem dm_X10_sameItems_151 : mj_dec prog_12_method_29_code 151 = some (.goto 4, 3) := by decide +kernel
theorem dm_X10_sameItems_154 : mj_dec prog_12_method_29_code 154 = some (.iconst 0, 1) := by decide +kernel
theorem dm_X10_sameItems_155 : mj_dec prog_12_method_29_code 155 = some (.ireturn, 1) := by decide +kernel
theorem c_sameItems {xt : mj_X} {d e p : Nat} {A : Nat → Prop} {h : mj_H} {v : VV} {q i j : Nat} {w : VV} {f1 : Nat → Value} (hx1 : xt 1 = some (.long, 0, f1)) (hd : 4 * e + 12 ≤ d) (hv : cv A h (e + 1) p v) (hw : cv A h (e + 1) q w) (hi : vk v ≤ 1 ∨ i < vm v) (hj : vk w ≤ 1 ∨ j < vm w) (hi2 : i ≤ 100000) (hj2 : j ≤ 100000) : pgP xt d 123 [.ref p, ii (i : Int), .ref q, ii (j : Int)] h (zz (vsame (e + 1) (vit v i) (vit w j))) := by
  have hcv := vw1_c hv.1
  have hcw := vw1_c hw.1
  obtain ⟨row, fr, vals, hp, hp2, hpA, hvk, hvm, hvc, hvs, hvl⟩ := cv_val hv
  obtain ⟨row2, fr2, vals2, hq, hq2, hqA, hwk, hwm, hwc, hws, hwl⟩ := cv_val hw
  refine x_enter pm_X10_sameItems (L0 := [(0, .ref p), (1, ii (i : Int)), (2, .ref q), (3, ii (j : Int))]) rfl (Nat.le_of_ble_eq_true rfl) (by omega) ?_
  refine me1 (pc' := 1) (L' := [(0, .ref p), (1, ii (i : Int)), (2, .ref q), (3, ii (j : Int))]) (S' := [.ref p]) dm_X10_sameItems_0 rfl rfl rfl rfl ?_
  refine me3 (pc' := 4) (S' := [ii (vk v : Int)]) dm_X10_sameItems_1 (g_get (v := ii (vk v : Int)) hp rfl rfl (by omega)) rfl rfl rfl ?_
  refine me0 (pc' := 6) (S' := [ii 7, ii (vk v : Int)]) dm_X10_sameItems_4 rfl rfl rfl rfl ?_
  refine y_2ne (a := (vk v : Int)) (b := 7) (t := 46) (pc' := 9) dm_X10_sameItems_6 rfl rfl (by omega) (fun hb1 => ?_) (fun hb1 => ?_)
  · refine me1 (pc' := 47) (L' := [(0, .ref p), (1, ii (i : Int)), (2, .ref q), (3, ii (j : Int))]) (S' := [.ref q]) dm_X10_sameItems_46 rfl rfl rfl rfl ?_
    refine me3 (pc' := 50) (S' := [ii (vk w : Int)]) dm_X10_sameItems_47 (g_get (v := ii (vk w : Int)) hq rfl rfl (by omega)) rfl rfl rfl ?_
    refine me0 (pc' := 52) (S' := [ii 7, ii (vk w : Int)]) dm_X10_sameItems_50 rfl rfl rfl rfl ?_
    refine y_2ne (a := (vk w : Int)) (b := 7) (t := 66) (pc' := 55) dm_X10_sameItems_52 rfl rfl (by omega) (fun hb2 => ?_) (fun hb2 => ?_)
    · refine me1 (pc' := 67) (L' := [(0, .ref p), (1, ii (i : Int)), (2, .ref q), (3, ii (j : Int))]) (S' := [.ref p]) dm_X10_sameItems_66 rfl rfl rfl rfl ?_
      refine me3 (pc' := 70) (S' := [ii (vk v : Int)]) dm_X10_sameItems_67 (g_get (v := ii (vk v : Int)) hp rfl rfl (by omega)) rfl rfl rfl ?_
      refine me0 (pc' := 72) (S' := [ii 6, ii (vk v : Int)]) dm_X10_sameItems_70 rfl rfl rfl rfl ?_
      refine y_2eq (a := (vk v : Int)) (b := 6) (t := 84) (pc' := 75) dm_X10_sameItems_72 rfl rfl (by omega) (fun hb3 => ?_) (fun hb3 => ?_)
      · refine me1 (pc' := 85) (L' := [(0, .ref p), (1, ii (i : Int)), (2, .ref q), (3, ii (j : Int))]) (S' := [.ref p]) dm_X10_sameItems_84 rfl rfl rfl rfl ?_
        refine me3 (pc' := 88) (S' := [ii (vc v : Int)]) dm_X10_sameItems_85 (g_get (v := ii (vc v : Int)) hp rfl rfl (by omega)) rfl rfl rfl ?_
        refine me1 (pc' := 89) (L' := [(0, .ref p), (1, ii (i : Int)), (2, .ref q), (3, ii (j : Int))]) (S' := [.ref q, ii (vc v : Int)]) dm_X10_sameItems_88 rfl rfl rfl rfl ?_
        refine me3 (pc' := 92) (S' := [ii (vc w : Int), ii (vc v : Int)]) dm_X10_sameItems_89 (g_get (v := ii (vc w : Int)) hq rfl rfl (by omega)) rfl rfl rfl ?_
        refine y_2ne (a := (vc v : Int)) (b := (vc w : Int)) (t := 123) (pc' := 95) dm_X10_sameItems_92 rfl rfl (by omega) (fun hb4 => ?_) (fun hb4 => ?_)
        · refine me0 (pc' := 124) (S' := [ii 0]) dm_X10_sameItems_123 rfl rfl rfl rfl ?_
          refine y_ret (r := some (ii 0)) dm_X10_sameItems_124 rfl rfl rfl ?_
          refine ⟨congrArg some ?_, rfl⟩
          first | (rw [vsame_tn hv.1 hw.1 (by omega) (by omega) hi hj (by omega) (by omega)]; rfl) | (rw [vit_6 (v := w) (by omega), vsame_ln (by omega), decide_eq_true ⟨Or.inr (Or.inl rfl), (by show vc w = vc v; omega), rfl⟩, Bool.true_and]; exact (zd2 (show _ = false from hd)).symm)
        · refine me1 (pc' := 96) (L' := [(0, .ref p), (1, ii (i : Int)), (2, .ref q), (3, ii (j : Int))]) (S' := [.ref p]) dm_X10_sameItems_95 rfl rfl rfl rfl ?_
          refine me1 (pc' := 97) (L' := [(0, .ref p), (1, ii (i : Int)), (2, .ref q), (3, ii (j : Int))]) (S' := [ii (i : Int), .ref p]) dm_X10_sameItems_96 rfl rfl rfl rfl ?_
          refine me1 (pc' := 98) (L' := [(0, .ref p), (1, ii (i : Int)), (2, .ref q), (3, ii (j : Int))]) (S' := [.ref p, ii (i : Int), .ref p]) dm_X10_sameItems_97 rfl rfl rfl rfl ?_
          refine me3 (pc' := 101) (S' := [ii (vc v : Int), ii (i : Int), .ref p]) dm_X10_sameItems_98 (g_get (v := ii (vc v : Int)) hp rfl rfl (by omega)) rfl rfl rfl ?_
          refine y_imul (a := (i : Int)) (b := (vc v : Int)) dm_X10_sameItems_101 (pc' := 102) rfl ?_
          refine me1 (pc' := 103) (L' := [(0, .ref p), (1, ii (i : Int)), (2, .ref q), (3, ii (j : Int))]) (S' := [.ref q, ii ((i : Int) * (vc v : Int)), .ref p]) dm_X10_sameItems_102 rfl rfl rfl rfl ?_
          refine me1 (pc' := 104) (L' := [(0, .ref p), (1, ii (i : Int)), (2, .ref q), (3, ii (j : Int))]) (S' := [ii (j : Int), .ref q, ii ((i : Int) * (vc v : Int)), .ref p]) dm_X10_sameItems_103 rfl rfl rfl rfl ?_
          refine me1 (pc' := 105) (L' := [(0, .ref p), (1, ii (i : Int)), (2, .ref q), (3, ii (j : Int))]) (S' := [.ref q, ii (j : Int), .ref q, ii ((i : Int) * (vc v : Int)), .ref p]) dm_X10_sameItems_104 rfl rfl rfl rfl ?_
          refine me3 (pc' := 108) (S' := [ii (vc w : Int), ii (j : Int), .ref q, ii ((i : Int) * (vc v : Int)), .ref p]) dm_X10_sameItems_105 (g_get (v := ii (vc w : Int)) hq rfl rfl (by omega)) rfl rfl rfl ?_
          refine y_imul (a := (j : Int)) (b := (vc w : Int)) dm_X10_sameItems_108 (pc' := 109) rfl ?_
          refine me1 (pc' := 110) (L' := [(0, .ref p), (1, ii (i : Int)), (2, .ref q), (3, ii (j : Int))]) (S' := [.ref p, ii ((j : Int) * (vc w : Int)), .ref q, ii ((i : Int) * (vc v : Int)), .ref p]) dm_X10_sameItems_109 rfl rfl rfl rfl ?_
          refine me3 (pc' := 113) (S' := [ii (vc v : Int), ii ((j : Int) * (vc w : Int)), .ref q, ii ((i : Int) * (vc v : Int)), .ref p]) dm_X10_sameItems_110 (g_get (v := ii (vc v : Int)) hp rfl rfl (by omega)) rfl rfl rfl ?_
          have hix := ixq (i := i) (show vk v = 6 by omega) (by omega)
          have hjx := ixq (i := j) (show vk w = 6 by omega) (by omega)
          have hvw : vc v = vc w := by omega
          refine x_cp (pc' := 116) (v := zz (allN (vc v) (fun k => decide (vn v (i * vc v + k) = vn w (j * vc w + k))))) (rest := []) dm_X10_sameItems_113 rfl (g_invs (As := [.ref p, ii ((i : Int) * (vc v : Int)), .ref q, ii ((j : Int) * (vc w : Int)), ii (vc v : Int)]) (S := []) rfl rfl rfl) rfl rfl rfl (c_sameRun (s1 := i * vc v) (s2 := j * vc w) (n := vc v) hx1 (by omega) hv hw (by omega) (by omega) (by omega) (by omega) (by omega) (by omega)) ?_
          refine y_zeq (c := allN (vc v) (fun k => decide (vn v (i * vc v + k) = vn w (j * vc w + k)))) (t := 123) (pc' := 119) dm_X10_sameItems_116 rfl rfl (fun hb5 => ?_) (fun hb5 => ?_)
          · refine me0 (pc' := 124) (S' := [ii 0]) dm_X10_sameItems_123 rfl rfl rfl rfl ?_
            refine y_ret (r := some (ii 0)) dm_X10_sameItems_124 rfl rfl rfl ?_
            refine ⟨congrArg some ?_, rfl⟩
            first | (rw [vsame_tn hv.1 hw.1 (by omega) (by omega) hi hj (by omega) (by omega)]; rfl) | (rw [vit_6 (v := w) (by omega), vsame_ln (by omega), decide_eq_true ⟨Or.inr (Or.inl rfl), (by show vc w = vc v; omega), rfl⟩, Bool.true_and]; exact (zd2 (show _ = false from hb5)).symm)
          · refine me0 (pc' := 120) (S' := [ii 1]) dm_X10_sameItems_119 rfl rfl rfl rfl ?_
            refine me2 (pc' := 124) (S' := [ii 1]) dm_X10_sameItems_120 rfl rfl rfl ?_
            refine y_ret (r := some (ii 1)) dm_X10_sameItems_124 rfl rfl rfl ?_
            refine ⟨congrArg some ?_, rfl⟩
            rw [vit_6 (v := w) (by omega), vsame_ln (by omega), decide_eq_true ⟨Or.inr (Or.inl rfl), (by show vc w = vc v; omega), rfl⟩, Bool.true_and]
            exact (zd2 (show _ = true from hb5)).symm
      · refine me1 (pc' := 76) (L' := [(0, .ref p), (1, ii (i : Int)), (2, .ref q), (3, ii (j : Int))]) (S' := [.ref q]) dm_X10_sameItems_75 rfl rfl rfl rfl ?_
        refine me3 (pc' := 79) (S' := [ii (vk w : Int)]) dm_X10_sameItems_76 (g_get (v := ii (vk w : Int)) hq rfl rfl (by omega)) rfl rfl rfl ?_
        refine me0 (pc' := 81) (S' := [ii 6, ii (vk w : Int)]) dm_X10_sameItems_79 rfl rfl rfl rfl ?_
        refine y_2ne (a := (vk w : Int)) (b := 6) (t := 125) (pc' := 84) dm_X10_sameItems_81 rfl rfl (by omega) (fun hb6 => ?_) (fun hb6 => ?_)
        · refine me1 (pc' := 126) (L' := [(0, .ref p), (1, ii (i : Int)), (2, .ref q), (3, ii (j : Int))]) (S' := [.ref p]) dm_X10_sameItems_125 rfl rfl rfl rfl ?_
          refine x_cp (pc' := 129) (v := zz (decide (vk v = 1 ∨ vk v = 3))) (rest := []) dm_X10_sameItems_126 rfl (g_inv (As := []) (S := []) hp rfl rfl rfl (by omega)) rfl rfl rfl (c_ofSigns (by omega) hv) ?_
          refine me1 (pc' := 130) (L' := [(0, .ref p), (1, ii (i : Int)), (2, .ref q), (3, ii (j : Int))]) (S' := [.ref q, zz (decide (vk v = 1 ∨ vk v = 3))]) dm_X10_sameItems_129 rfl rfl rfl rfl ?_
          refine x_cp (pc' := 133) (v := zz (decide (vk w = 1 ∨ vk w = 3))) (rest := [zz (decide (vk v = 1 ∨ vk v = 3))]) dm_X10_sameItems_130 rfl (g_inv (As := []) (S := [zz (decide (vk v = 1 ∨ vk v = 3))]) hq rfl rfl rfl (by omega)) rfl rfl rfl (c_ofSigns (by omega) hw) ?_
          refine y_z2ne (c := decide (vk v = 1 ∨ vk v = 3)) (e := decide (vk w = 1 ∨ vk w = 3)) (t := 154) (pc' := 136) dm_X10_sameItems_133 rfl rfl (fun hb7 => ?_) (fun hb7 => ?_)
          · replace hb7 := dNe hb7
            refine me0 (pc' := 155) (S' := [ii 0]) dm_X10_sameItems_154 rfl rfl rfl rfl ?_
            refine y_ret (r := some (ii 0)) dm_X10_sameItems_155 rfl rfl rfl ?_
            obtain ⟨b1, b2, b3⟩ := vit_one (i := j) hw.1 (by omega) hj
            refine ⟨congrArg some ?_, rfl⟩
            first | (rw [vsame_it hv.1 (by omega) hi, decide_eq_false (show ¬ ((vk v = 1 ∨ vk v = 3) ↔ (vk (vit w j) = 1 ∨ vk (vit w j) = 3)) by omega), Bool.false_and, Bool.and_false]; rfl) | (rw [vsame_it hv.1 (by omega) hi, decide_eq_false (show ¬ vnum v (i : Int) = cnum (vit w j) by rw [b3]; assumption), Bool.and_false, Bool.and_false]; rfl)
          · replace hb7 := dEq hb7
            refine me1 (pc' := 137) (L' := [(0, .ref p), (1, ii (i : Int)), (2, .ref q), (3, ii (j : Int))]) (S' := [.ref p]) dm_X10_sameItems_136 rfl rfl rfl rfl ?_
            refine me1 (pc' := 138) (L' := [(0, .ref p), (1, ii (i : Int)), (2, .ref q), (3, ii (j : Int))]) (S' := [ii (i : Int), .ref p]) dm_X10_sameItems_137 rfl rfl rfl rfl ?_
            refine x_cp (pc' := 141) (v := .long (vnum v (i : Int))) (rest := []) dm_X10_sameItems_138 rfl (g_inv (As := [ii (i : Int)]) (S := []) hp rfl rfl rfl (by omega)) rfl rfl rfl (c_numberAt (i := (i : Int)) hx1 (by omega) hv (by omega)) ?_
            refine me1 (pc' := 142) (L' := [(0, .ref p), (1, ii (i : Int)), (2, .ref q), (3, ii (j : Int))]) (S' := [.ref q, .long (vnum v (i : Int))]) dm_X10_sameItems_141 rfl rfl rfl rfl ?_
            refine me1 (pc' := 143) (L' := [(0, .ref p), (1, ii (i : Int)), (2, .ref q), (3, ii (j : Int))]) (S' := [ii (j : Int), .ref q, .long (vnum v (i : Int))]) dm_X10_sameItems_142 rfl rfl rfl rfl ?_
            refine x_cp (pc' := 146) (v := .long (vnum w (j : Int))) (rest := [.long (vnum v (i : Int))]) dm_X10_sameItems_143 rfl (g_inv (As := [ii (j : Int)]) (S := [.long (vnum v (i : Int))]) hq rfl rfl rfl (by omega)) rfl rfl rfl (c_numberAt (i := (j : Int)) hx1 (by omega) hw (by omega)) ?_
            refine y_lne (x := vnum v (i : Int)) (y := vnum w (j : Int)) (t := 154) (pc1 := 147) (pc' := 150) dm_X10_sameItems_146 rfl dm_X10_sameItems_147 rfl rfl (fun hb8 => ?_) (fun hb8 => ?_)
            · refine me0 (pc' := 155) (S' := [ii 0]) dm_X10_sameItems_154 rfl rfl rfl rfl ?_
              refine y_ret (r := some (ii 0)) dm_X10_sameItems_155 rfl rfl rfl ?_
              obtain ⟨b1, b2, b3⟩ := vit_one (i := j) hw.1 (by omega) hj
              refine ⟨congrArg some ?_, rfl⟩
              first | (rw [vsame_it hv.1 (by omega) hi, decide_eq_false (show ¬ ((vk v = 1 ∨ vk v = 3) ↔ (vk (vit w j) = 1 ∨ vk (vit w j) = 3)) by omega), Bool.false_and, Bool.and_false]; rfl) | (rw [vsame_it hv.1 (by omega) hi, decide_eq_false (show ¬ vnum v (i : Int) = cnum (vit w j) by rw [b3]; assumption), Bool.and_false, Bool.and_false]; rfl)
            · refine me0 (pc' := 151) (S' := [ii 1]) dm_X10_sameItems_150 rfl rfl rfl rfl ?_
              refine me2 (pc' := 155) (S' := [ii 1]) dm_X10_sameItems_151 rfl rfl rfl ?_
              refine y_ret (r := some (ii 1)) dm_X10_sameItems_155 rfl rfl rfl ?_
              obtain ⟨b1, b2, b3⟩ := vit_one (i := j) hw.1 (by omega) hj
              refine ⟨congrArg some ?_, rfl⟩
              rw [vsame_it hv.1 (by omega) hi, decide_eq_true b1, decide_eq_true (by omega), decide_eq_true (by rw [b3]; assumption)]; rfl
        · refine me1 (pc' := 85) (L' := [(0, .ref p), (1, ii (i : Int)), (2, .ref q), (3, ii (j : Int))]) (S' := [.ref p]) dm_X10_sameItems_84 rfl rfl rfl rfl ?_
          refine me3 (pc' := 88) (S' := [ii (vc v : Int)]) dm_X10_sameItems_85 (g_get (v := ii (vc v : Int)) hp rfl rfl (by omega)) rfl rfl rfl ?_
          refine me1 (pc' := 89) (L' := [(0, .ref p), (1, ii (i : Int)), (2, .ref q), (3, ii (j : Int))]) (S' := [.ref q, ii (vc v : Int)]) dm_X10_sameItems_88 rfl rfl rfl rfl ?_
          refine me3 (pc' := 92) (S' := [ii (vc w : Int), ii (vc v : Int)]) dm_X10_sameItems_89 (g_get (v := ii (vc w : Int)) hq rfl rfl (by omega)) rfl rfl rfl ?_
          refine y_2ne (a := (vc v : Int)) (b := (vc w : Int)) (t := 123) (pc' := 95) dm_X10_sameItems_92 rfl rfl (by omega) (fun hb9 => ?_) (fun hb9 => ?_)
          · refine me0 (pc' := 124) (S' := [ii 0]) dm_X10_sameItems_123 rfl rfl rfl rfl ?_
            refine y_ret (r := some (ii 0)) dm_X10_sameItems_124 rfl rfl rfl ?_
            refine ⟨congrArg some ?_, rfl⟩
            first | (rw [vsame_tn hv.1 hw.1 (by omega) (by omega) hi hj (by omega) (by omega)]; rfl) | (rw [vit_6 (v := w) (by omega), vsame_ln (by omega), decide_eq_true ⟨Or.inr (Or.inl rfl), (by show vc w = vc v; omega), rfl⟩, Bool.true_and]; exact (zd2 (show _ = false from hb5)).symm)
          · refine me1 (pc' := 96) (L' := [(0, .ref p), (1, ii (i : Int)), (2, .ref q), (3, ii (j : Int))]) (S' := [.ref p]) dm_X10_sameItems_95 rfl rfl rfl rfl ?_
            refine me1 (pc' := 97) (L' := [(0, .ref p), (1, ii (i : Int)), (2, .ref q), (3, ii (j : Int))]) (S' := [ii (i : Int), .ref p]) dm_X10_sameItems_96 rfl rfl rfl rfl ?_
            refine me1 (pc' := 98) (L' := [(0, .ref p), (1, ii (i : Int)), (2, .ref q), (3, ii (j : Int))]) (S' := [.ref p, ii (i : Int), .ref p]) dm_X10_sameItems_97 rfl rfl rfl rfl ?_
            refine me3 (pc' := 101) (S' := [ii (vc v : Int), ii (i : Int), .ref p]) dm_X10_sameItems_98 (g_get (v := ii (vc v : Int)) hp rfl rfl (by omega)) rfl rfl rfl ?_
            refine y_imul (a := (i : Int)) (b := (vc v : Int)) dm_X10_sameItems_101 (pc' := 102) rfl ?_
            refine me1 (pc' := 103) (L' := [(0, .ref p), (1, ii (i : Int)), (2, .ref q), (3, ii (j : Int))]) (S' := [.ref q, ii ((i : Int) * (vc v : Int)), .ref p]) dm_X10_sameItems_102 rfl rfl rfl rfl ?_
            refine me1 (pc' := 104) (L' := [(0, .ref p), (1, ii (i : Int)), (2, .ref q), (3, ii (j : Int))]) (S' := [ii (j : Int), .ref q, ii ((i : Int) * (vc v : Int)), .ref p]) dm_X10_sameItems_103 rfl rfl rfl rfl ?_
            refine me1 (pc' := 105) (L' := [(0, .ref p), (1, ii (i : Int)), (2, .ref q), (3, ii (j : Int))]) (S' := [.ref q, ii (j : Int), .ref q, ii ((i : Int) * (vc v : Int)), .ref p]) dm_X10_sameItems_104 rfl rfl rfl rfl ?_
            refine me3 (pc' := 108) (S' := [ii (vc w : Int), ii (j : Int), .ref q, ii ((i : Int) * (vc v : Int)), .ref p]) dm_X10_sameItems_105 (g_get (v := ii (vc w : Int)) hq rfl rfl (by omega)) rfl rfl rfl ?_
            refine y_imul (a := (j : Int)) (b := (vc w : Int)) dm_X10_sameItems_108 (pc' := 109) rfl ?_
            refine me1 (pc' := 110) (L' := [(0, .ref p), (1, ii (i : Int)), (2, .ref q), (3, ii (j : Int))]) (S' := [.ref p, ii ((j : Int) * (vc w : Int)), .ref q, ii ((i : Int) * (vc v : Int)), .ref p]) dm_X10_sameItems_109 rfl rfl rfl rfl ?_
            refine me3 (pc' := 113) (S' := [ii (vc v : Int), ii ((j : Int) * (vc w : Int)), .ref q, ii ((i : Int) * (vc v : Int)), .ref p]) dm_X10_sameItems_110 (g_get (v := ii (vc v : Int)) hp rfl rfl (by omega)) rfl rfl rfl ?_
            have hix := ixq (i := i) (show vk v = 6 by omega) (by omega)
            have hjx := ixq (i := j) (show vk w = 6 by omega) (by omega)
            have hvw : vc v = vc w := by omega
            refine x_cp (pc' := 116) (v := zz (allN (vc v) (fun k => decide (vn v (i * vc v + k) = vn w (j * vc w + k))))) (rest := []) dm_X10_sameItems_113 rfl (g_invs (As := [.ref p, ii ((i : Int) * (vc v : Int)), .ref q, ii ((j : Int) * (vc w : Int)), ii (vc v : Int)]) (S := []) rfl rfl rfl) rfl rfl rfl (c_sameRun (s1 := i * vc v) (s2 := j * vc w) (n := vc v) hx1 (by omega) hv hw (by omega) (by omega) (by omega) (by omega) (by omega) (by omega)) ?_
            refine y_zeq (c := allN (vc v) (fun k => decide (vn v (i * vc v + k) = vn w (j * vc w + k)))) (t := 123) (pc' := 119) dm_X10_sameItems_116 rfl rfl (fun hb10 => ?_) (fun hb10 => ?_)
            · refine me0 (pc' := 124) (S' := [ii 0]) dm_X10_sameItems_123 rfl rfl rfl rfl ?_
              refine y_ret (r := some (ii 0)) dm_X10_sameItems_124 rfl rfl rfl ?_
              refine ⟨congrArg some ?_, rfl⟩
              first | (rw [vsame_tn hv.1 hw.1 (by omega) (by omega) hi hj (by omega) (by omega)]; rfl) | (rw [vit_6 (v := w) (by omega), vsame_ln (by omega), decide_eq_true ⟨Or.inr (Or.inl rfl), (by show vc w = vc v; omega), rfl⟩, Bool.true_and]; exact (zd2 (show _ = false from hb10)).symm)
            · refine me0 (pc' := 120) (S' := [ii 1]) dm_X10_sameItems_119 rfl rfl rfl rfl ?_
              refine me2 (pc' := 124) (S' := [ii 1]) dm_X10_sameItems_120 rfl rfl rfl ?_
              refine y_ret (r := some (ii 1)) dm_X10_sameItems_124 rfl rfl rfl ?_
              refine ⟨congrArg some ?_, rfl⟩
              rw [vit_6 (v := w) (by omega), vsame_ln (by omega), decide_eq_true ⟨Or.inr (Or.inl rfl), (by show vc w = vc v; omega), rfl⟩, Bool.true_and]
              exact (zd2 (show _ = true from hb10)).symm
    · refine me1 (pc' := 56) (L' := [(0, .ref p), (1, ii (i : Int)), (2, .ref q), (3, ii (j : Int))]) (S' := [.ref p]) dm_X10_sameItems_55 rfl rfl rfl rfl ?_
      refine me1 (pc' := 57) (L' := [(0, .ref p), (1, ii (i : Int)), (2, .ref q), (3, ii (j : Int))]) (S' := [ii (i : Int), .ref p]) dm_X10_sameItems_56 rfl rfl rfl rfl ?_
      refine me1 (pc' := 58) (L' := [(0, .ref p), (1, ii (i : Int)), (2, .ref q), (3, ii (j : Int))]) (S' := [.ref q, ii (i : Int), .ref p]) dm_X10_sameItems_57 rfl rfl rfl rfl ?_
      refine me1 (pc' := 59) (L' := [(0, .ref p), (1, ii (i : Int)), (2, .ref q), (3, ii (j : Int))]) (S' := [ii (j : Int), .ref q, ii (i : Int), .ref p]) dm_X10_sameItems_58 rfl rfl rfl rfl ?_
      obtain ⟨q3, hq3, hcq3⟩ := c_itemAt7 (xt := xt) (d := d - 1) (i := j) (by omega) hw (by omega) (by omega)
      refine x_cp (pc' := 62) (v := .ref q3) (rest := [ii (i : Int), .ref p]) dm_X10_sameItems_59 rfl (g_inv (As := [ii (j : Int)]) (S := [ii (i : Int), .ref p]) hq rfl rfl rfl (by omega)) rfl rfl rfl (hcq3) ?_
      refine x_cp (pc' := 65) (v := zz (vsame (e + 1) (vit v i) (vd w j))) (rest := []) dm_X10_sameItems_62 rfl (g_invs (As := [.ref p, ii (i : Int), .ref q3]) (S := []) rfl rfl rfl) rfl rfl rfl (c_sameFlatItem hx1 (by omega) hv (cv_up hq3) (by omega) hi hi2) ?_
      refine y_ret (r := some (zz (vsame (e + 1) (vit v i) (vd w j)))) dm_X10_sameItems_65 (y_retz _) rfl rfl ?_
      exact ⟨congrArg some (zd2 (by rw [vit_7 (v := w) (by omega)])), rfl⟩
  · refine me1 (pc' := 10) (L' := [(0, .ref p), (1, ii (i : Int)), (2, .ref q), (3, ii (j : Int))]) (S' := [.ref p]) dm_X10_sameItems_9 rfl rfl rfl rfl ?_
    refine me1 (pc' := 11) (L' := [(0, .ref p), (1, ii (i : Int)), (2, .ref q), (3, ii (j : Int))]) (S' := [ii (i : Int), .ref p]) dm_X10_sameItems_10 rfl rfl rfl rfl ?_
    obtain ⟨q1, hq1, hcq1⟩ := c_itemAt7 (xt := xt) (d := d - 1) (i := i) (by omega) hv (by omega) (by omega)
    refine x_cp (pc' := 14) (v := .ref q1) (rest := []) dm_X10_sameItems_11 rfl (g_inv (As := [ii (i : Int)]) (S := []) hp rfl rfl rfl (by omega)) rfl rfl rfl (hcq1) ?_
    refine me1 (pc' := 16) (L' := [(4, .ref q1), (0, .ref p), (1, ii (i : Int)), (2, .ref q), (3, ii (j : Int))]) (S' := []) dm_X10_sameItems_14 rfl rfl rfl rfl ?_
    refine me1 (pc' := 17) (L' := [(4, .ref q1), (0, .ref p), (1, ii (i : Int)), (2, .ref q), (3, ii (j : Int))]) (S' := [.ref q]) dm_X10_sameItems_16 rfl rfl rfl rfl ?_
    refine me3 (pc' := 20) (S' := [ii (vk w : Int)]) dm_X10_sameItems_17 (g_get (v := ii (vk w : Int)) hq rfl rfl (by omega)) rfl rfl rfl ?_
    refine me0 (pc' := 22) (S' := [ii 7, ii (vk w : Int)]) dm_X10_sameItems_20 rfl rfl rfl rfl ?_
    refine y_2ne (a := (vk w : Int)) (b := 7) (t := 38) (pc' := 25) dm_X10_sameItems_22 rfl rfl (by omega) (fun hb11 => ?_) (fun hb11 => ?_)
    · refine me1 (pc' := 39) (L' := [(4, .ref q1), (0, .ref p), (1, ii (i : Int)), (2, .ref q), (3, ii (j : Int))]) (S' := [.ref q]) dm_X10_sameItems_38 rfl rfl rfl rfl ?_
      refine me1 (pc' := 40) (L' := [(4, .ref q1), (0, .ref p), (1, ii (i : Int)), (2, .ref q), (3, ii (j : Int))]) (S' := [ii (j : Int), .ref q]) dm_X10_sameItems_39 rfl rfl rfl rfl ?_
      refine me1 (pc' := 42) (L' := [(4, .ref q1), (0, .ref p), (1, ii (i : Int)), (2, .ref q), (3, ii (j : Int))]) (S' := [.ref q1, ii (j : Int), .ref q]) dm_X10_sameItems_40 rfl rfl rfl rfl ?_
      refine x_cp (pc' := 45) (v := zz (vsame (e + 1) (vit w j) (vd v i))) (rest := []) dm_X10_sameItems_42 rfl (g_invs (As := [.ref q, ii (j : Int), .ref q1]) (S := []) rfl rfl rfl) rfl rfl rfl (c_sameFlatItem hx1 (by omega) hw (cv_up hq1) (by omega) hj hj2) ?_
      refine y_ret (r := some (zz (vsame (e + 1) (vit w j) (vd v i)))) dm_X10_sameItems_45 (y_retz _) rfl rfl ?_
      exact ⟨congrArg some (zd2 (by rw [vsame_symm, vit_7 (v := v) (by omega)])), rfl⟩
    · refine me1 (pc' := 26) (L' := [(4, .ref q1), (0, .ref p), (1, ii (i : Int)), (2, .ref q), (3, ii (j : Int))]) (S' := [.ref q]) dm_X10_sameItems_25 rfl rfl rfl rfl ?_
      refine me1 (pc' := 27) (L' := [(4, .ref q1), (0, .ref p), (1, ii (i : Int)), (2, .ref q), (3, ii (j : Int))]) (S' := [ii (j : Int), .ref q]) dm_X10_sameItems_26 rfl rfl rfl rfl ?_
      obtain ⟨q3, hq3, hcq3⟩ := c_itemAt7 (xt := xt) (d := d - 1) (i := j) (by omega) hw (by omega) (by omega)
      refine x_cp (pc' := 30) (v := .ref q3) (rest := []) dm_X10_sameItems_27 rfl (g_inv (As := [ii (j : Int)]) (S := []) hq rfl rfl rfl (by omega)) rfl rfl rfl (hcq3) ?_
      refine me1 (pc' := 32) (L' := [(4, .ref q1), (0, .ref p), (1, ii (i : Int)), (2, .ref q), (3, ii (j : Int))]) (S' := [.ref q1, .ref q3]) dm_X10_sameItems_30 rfl rfl rfl rfl ?_
      refine x_cp (pc' := 35) (v := zz (vsame (e + 1) (vd w j) (vd v i))) (rest := []) dm_X10_sameItems_32 rfl (g_invs (As := [.ref q3, .ref q1]) (S := []) rfl rfl rfl) rfl rfl rfl (c_same hx1 (e + 1) (by omega) (cv_up hq3) (cv_up hq1)) ?_
      refine me2 (pc' := 45) (S' := [zz (vsame (e + 1) (vd w j) (vd v i))]) dm_X10_sameItems_35 rfl rfl rfl ?_
      refine y_ret (r := some (zz (vsame (e + 1) (vd w j) (vd v i)))) dm_X10_sameItems_45 (y_retz _) rfl rfl ?_
      exact ⟨congrArg some (zd2 (by rw [vsame_symm, vit_7 (v := v) (by omega), vit_7 (v := w) (by omega)])), rfl⟩
