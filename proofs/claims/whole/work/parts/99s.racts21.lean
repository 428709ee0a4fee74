set_option maxRecDepth 20000 in
theorem pm_X12_given : mj_mmof pg_ms 303 = some ((⟨"ArrayCalculatorModel", "given", "(IIII)I"⟩, prog_14_method_100_code, 5, (Option.some Jvm.ClassFile.FieldType.int)), 12, false, mj_dec prog_14_method_100_code) := rfl
theorem dm_X12_given_0 : mj_dec prog_14_method_100_code 0 = some (.aload_n 0, 1) := by decide +kernel
theorem dm_X12_given_1 : mj_dec prog_14_method_100_code 1 = some (.iload_n 1, 1) := by decide +kernel
theorem dm_X12_given_2 : mj_dec prog_14_method_100_code 2 = some (.invokevirtual 162, 3) := by decide +kernel
theorem dm_X12_given_5 : mj_dec prog_14_method_100_code 5 = some (.ifCond .ne 11, 3) := by decide +kernel
theorem dm_X12_given_8 : mj_dec prog_14_method_100_code 8 = some (.aload_n 0, 1) := by decide +kernel
theorem dm_X12_given_9 : mj_dec prog_14_method_100_code 9 = some (.iload_n 2, 1) := by decide +kernel
theorem dm_X12_given_10 : mj_dec prog_14_method_100_code 10 = some (.invokevirtual 162, 3) := by decide +kernel
theorem dm_X12_given_13 : mj_dec prog_14_method_100_code 13 = some (.ifCond .eq 7, 3) := by decide +kernel
theorem dm_X12_given_16 : mj_dec prog_14_method_100_code 16 = some (.iload_n 2, 1) := by decide +kernel
theorem dm_X12_given_17 : mj_dec prog_14_method_100_code 17 = some (.goto 11, 3) := by decide +kernel
theorem dm_X12_given_20 : mj_dec prog_14_method_100_code 20 = some (.aload_n 0, 1) := by decide +kernel
theorem dm_X12_given_21 : mj_dec prog_14_method_100_code 21 = some (.iload_n 2, 1) := by decide +kernel
theorem dm_X12_given_22 : mj_dec prog_14_method_100_code 22 = some (.iload_n 3, 1) := by decide +kernel
theorem dm_X12_given_23 : mj_dec prog_14_method_100_code 23 = some (.iload 4, 2) := by decide +kernel
theorem dm_X12_given_25 : mj_dec prog_14_method_100_code 25 = some (.invokevirtual 159, 3) := by decide +kernel
theorem dm_X12_given_28 : mj_dec prog_14_method_100_code 28 = some (.ireturn, 1) := by decide +kernel
theorem r_given_ {xt : mj_X} {d e hd2 k : Nat} {pre post : mj_H} {s : RS} {w : VV} (hm : pre.length = 102) (hd1 : 3 ≤ d) (hB : rB s) (hw : rv s (e + 1) hd2 w) {hd3 : Nat} {u : VV} (hu : rv s (e + 1) hd3 u) (hh5 : 3 ≤ hd3) (hk2 : k ≤ 120) (hk : (vk w ≤ 1 ∨ vk u ≤ 1) ∨ k < vm u) : pgV xt d 303 [.ref 102, ii (hd2 : Int), ii (hd3 : Int), ii (k : Int), ii 0] (rS pre post s) (fun x h' => ∃ q s1, x = ii ((q : Nat) : Int) ∧ h' = rS pre post s1 ∧ rv s1 (e + 1) q (gvF w u k) ∧ vwS s 0 s1 ∧ (3 ≤ q ∨ q = 0)) := by
  have hB0 := hB
  obtain ⟨hB1, hB2, hB3, hB4⟩ := hB
  obtain ⟨fw, hfw, hshw, hltw, hclw, hwk, hwm, hwc, hwq, hwcl⟩ := rv_val hw
  obtain ⟨fu, hfu, hshu, hltu, hclu, huk, hum, huc, huq, hucl⟩ := rv_val hu
  refine x_enter pm_X12_given (L0 := [(0, .ref 102), (1, ii (hd2 : Int)), (2, ii (hd3 : Int)), (3, ii (k : Int)), (4, ii 0)]) rfl (Nat.le_of_ble_eq_true rfl) (by omega) ?_
  refine me1 (pc' := 1) (L' := [(0, .ref 102), (1, ii (hd2 : Int)), (2, ii (hd3 : Int)), (3, ii (k : Int)), (4, ii 0)]) (S' := [.ref 102]) dm_X12_given_0 rfl rfl rfl rfl ?_
  refine me1 (pc' := 2) (L' := [(0, .ref 102), (1, ii (hd2 : Int)), (2, ii (hd3 : Int)), (3, ii (k : Int)), (4, ii 0)]) (S' := [ii (hd2 : Int), .ref 102]) dm_X12_given_1 rfl rfl rfl rfl ?_
  refine x_cp (pc' := 5) (v := zz (decide (vk w ≤ 1))) (rest := []) dm_X12_given_2 rfl (q_inv (As := [ii (hd2 : Int)]) (S := []) hm rfl rfl rfl) rfl rfl rfl (r_isOne_ hm (by omega) hB0 hw) ?_
  refine y_zne (c := decide (vk w ≤ 1)) (t := 16) (pc' := 8) dm_X12_given_5 rfl rfl (fun hb1 => ?_) (fun hb1 => ?_)
  · replace hb1 := dT hb1
    refine me1 (pc' := 17) (L' := [(0, .ref 102), (1, ii (hd2 : Int)), (2, ii (hd3 : Int)), (3, ii (k : Int)), (4, ii 0)]) (S' := [ii (hd3 : Int)]) dm_X12_given_16 rfl rfl rfl rfl ?_
    refine me2 (pc' := 28) (S' := [ii (hd3 : Int)]) dm_X12_given_17 rfl rfl rfl ?_
    refine y_ret (r := some (ii (hd3 : Int))) dm_X12_given_28 rfl rfl rfl ?_
    exact ⟨_, rfl, hd3, s, rfl, rfl, by unfold gvF; rw [if_pos (by omega)]; exact hu, vwS_rf s 0, Or.inl hh5⟩
  · replace hb1 := dF hb1
    refine me1 (pc' := 9) (L' := [(0, .ref 102), (1, ii (hd2 : Int)), (2, ii (hd3 : Int)), (3, ii (k : Int)), (4, ii 0)]) (S' := [.ref 102]) dm_X12_given_8 rfl rfl rfl rfl ?_
    refine me1 (pc' := 10) (L' := [(0, .ref 102), (1, ii (hd2 : Int)), (2, ii (hd3 : Int)), (3, ii (k : Int)), (4, ii 0)]) (S' := [ii (hd3 : Int), .ref 102]) dm_X12_given_9 rfl rfl rfl rfl ?_
    refine x_cp (pc' := 13) (v := zz (decide (vk u ≤ 1))) (rest := []) dm_X12_given_10 rfl (q_inv (As := [ii (hd3 : Int)]) (S := []) hm rfl rfl rfl) rfl rfl rfl (r_isOne_ hm (by omega) hB0 hu) ?_
    refine y_zeq (c := decide (vk u ≤ 1)) (t := 20) (pc' := 16) dm_X12_given_13 rfl rfl (fun hb2 => ?_) (fun hb2 => ?_)
    · replace hb2 := dF hb2
      refine me1 (pc' := 21) (L' := [(0, .ref 102), (1, ii (hd2 : Int)), (2, ii (hd3 : Int)), (3, ii (k : Int)), (4, ii 0)]) (S' := [.ref 102]) dm_X12_given_20 rfl rfl rfl rfl ?_
      refine me1 (pc' := 22) (L' := [(0, .ref 102), (1, ii (hd2 : Int)), (2, ii (hd3 : Int)), (3, ii (k : Int)), (4, ii 0)]) (S' := [ii (hd3 : Int), .ref 102]) dm_X12_given_21 rfl rfl rfl rfl ?_
      refine me1 (pc' := 23) (L' := [(0, .ref 102), (1, ii (hd2 : Int)), (2, ii (hd3 : Int)), (3, ii (k : Int)), (4, ii 0)]) (S' := [ii (k : Int), ii (hd3 : Int), .ref 102]) dm_X12_given_22 rfl rfl rfl rfl ?_
      refine me1 (pc' := 25) (L' := [(0, .ref 102), (1, ii (hd2 : Int)), (2, ii (hd3 : Int)), (3, ii (k : Int)), (4, ii 0)]) (S' := [ii 0, ii (k : Int), ii (hd3 : Int), .ref 102]) dm_X12_given_23 rfl rfl rfl rfl ?_
      refine x_cv (pc' := 28) (rest := []) dm_X12_given_25 rfl (q_inv (As := [ii (hd3 : Int), ii (k : Int), ii 0]) (S := []) hm rfl rfl rfl) rfl rfl rfl (r_itemAt_ (t := 0) (k := k) hm (by omega) hB0 hu (by omega) (by omega) (by omega)) ?_
      rintro _ _ ⟨p1, s1, rfl, rfl, hpv1, hws1, hp1⟩
      refine y_ret (r := some (ii (p1 : Int))) dm_X12_given_28 rfl rfl rfl ?_
      exact ⟨_, rfl, p1, s1, rfl, rfl, by unfold gvF; rw [if_neg (by omega)]; exact hpv1, hws1, by omega⟩
    · replace hb2 := dT hb2
      refine me1 (pc' := 17) (L' := [(0, .ref 102), (1, ii (hd2 : Int)), (2, ii (hd3 : Int)), (3, ii (k : Int)), (4, ii 0)]) (S' := [ii (hd3 : Int)]) dm_X12_given_16 rfl rfl rfl rfl ?_
      refine me2 (pc' := 28) (S' := [ii (hd3 : Int)]) dm_X12_given_17 rfl rfl rfl ?_
      refine y_ret (r := some (ii (hd3 : Int))) dm_X12_given_28 rfl rfl rfl ?_
      exact ⟨_, rfl, hd3, s, rfl, rfl, by unfold gvF; rw [if_pos (by omega)]; exact hu, vwS_rf s 0, Or.inl hh5⟩
