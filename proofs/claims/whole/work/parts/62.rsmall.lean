/-- how many cells a value's own items take in the reference -/
def vcl (v : VV) : Nat := if vk v = 7 then vm v else vq v
/-- what a handle of the reference means -/
def rv (s : RS) : Nat → Nat → VV → Prop
  | 0, _, _ => False
  | d + 1, hd, v => vw1 v ∧ (hd : Int) < s.1 4 ∧ s.2.2.1 2 hd = (vk v : Int) + 8 * (vm v : Int) + 2048 * (vc v : Int) ∧ ∃ fr : Nat, s.2.2.1 1 hd = (fr : Int) ∧ (fr : Int) + (vcl v : Int) ≤ s.1 3 ∧ (vk v ≠ 7 → ∀ k, k < vq v → s.2.2.2 0 (fr + k) = vn v k) ∧ (vk v = 7 → ∀ k, k < vm v → ∃ q : Nat, 3 ≤ q ∧ s.2.2.2 0 (fr + k) = Int64.ofInt (q : Int) ∧ rv s d q (vd v k))
/-- the bounds of the reference's stores -/
def rB (s : RS) : Prop := 3 ≤ s.1 4 ∧ s.1 4 ≤ 310000 ∧ 0 ≤ s.1 3 ∧ s.1 3 ≤ 820000
/-- more values, those that were there as they were -/
def rext (s s' : RS) : Prop := s.1 4 ≤ s'.1 4 ∧ s.1 3 ≤ s'.1 3 ∧ (∀ hd : Nat, 3 ≤ hd → (hd : Int) < s.1 4 → s'.2.2.1 1 hd = s.2.2.1 1 hd ∧ s'.2.2.1 2 hd = s.2.2.1 2 hd) ∧ (∀ k : Nat, (k : Int) < s.1 3 → s'.2.2.2 0 k = s.2.2.2 0 k)
theorem rext_rf (s : RS) : rext s s := ⟨Int.le_refl _, Int.le_refl _, fun _ _ _ => ⟨rfl, rfl⟩, fun _ _ => rfl⟩
theorem rext_tr {s t u : RS} (h1 : rext s t) (h2 : rext t u) : rext s u := by
  obtain ⟨a1, a2, a3, a4⟩ := h1
  obtain ⟨b1, b2, b3, b4⟩ := h2
  refine ⟨by omega, by omega, fun hd g1 g2 => ?_, fun k hk => ?_⟩
  · obtain ⟨c1, c2⟩ := a3 hd g1 g2
    obtain ⟨d1, d2⟩ := b3 hd g1 (by omega)
    exact ⟨d1.trans c1, d2.trans c2⟩
  · exact (b4 k (by omega)).trans (a4 k hk)
theorem rv_wf {s : RS} {d : Nat} : ∀ {hd : Nat} {v : VV}, rv s d hd v → vwf d v := by
  induction d with
  | zero => intro hd v h; cases h
  | succ d ih =>
    intro hd v h
    obtain ⟨hw, h1, h2, fr, h3, h4, h5, h6⟩ := h
    refine ⟨hw, fun h8 k hk => ?_⟩
    obtain ⟨q, -, -, hq⟩ := h6 h8 k hk
    exact ih hq
theorem vcl_le {v : VV} (h : vw1 v) : vcl v ≤ 144 := by
  have := vq_le h
  have := vw1_m h
  unfold vcl
  split <;> omega
theorem rv_val {s : RS} {d hd : Nat} {v : VV} (h : rv s (d + 1) hd v) : ∃ fr : Nat, s.2.2.1 1 hd = (fr : Int) ∧ s.2.2.1 2 hd = (vk v : Int) + 8 * (vm v : Int) + 2048 * (vc v : Int) ∧ (hd : Int) < s.1 4 ∧ (fr : Int) + (vcl v : Int) ≤ s.1 3 ∧ vk v ≤ 7 ∧ vm v ≤ 120 ∧ vc v ≤ 12 ∧ vq v ≤ 144 ∧ vcl v ≤ 144 := by
  obtain ⟨hw, h1, h2, fr, h3, h4, h5, h6⟩ := h
  have := vw1_m hw
  exact ⟨fr, h3, h2, h1, h4, this.2.2, this.1, this.2.1, vq_le hw, vcl_le hw⟩
theorem rv_ext {s s' : RS} (he : rext s s') {d : Nat} : ∀ {hd : Nat} {v : VV}, 3 ≤ hd → rv s d hd v → rv s' d hd v := by
  induction d with
  | zero => intro hd v _ h; cases h
  | succ d ih =>
    intro hd v h3 h
    obtain ⟨hw, h1, h2, fr, h4, h5, h6, h7⟩ := h
    obtain ⟨a1, a2, a3, a4⟩ := he
    obtain ⟨c1, c2⟩ := a3 hd h3 h1
    refine ⟨hw, by omega, c2.trans h2, fr, c1.trans h4, by omega, fun g k hk => ?_, fun g k hk => ?_⟩
    · have : vcl v = vq v := by unfold vcl; rw [if_neg g]
      rw [a4 (fr + k) (by omega)]
      exact h6 g k hk
    · obtain ⟨q, q1, q2, q3⟩ := h7 g k hk
      have : vcl v = vm v := by unfold vcl; rw [if_pos g]
      exact ⟨q, q1, (a4 (fr + k) (by omega)).trans q2, ih q1 q3⟩
theorem rv_up {s : RS} {d : Nat} : ∀ {hd : Nat} {v : VV}, rv s d hd v → rv s (d + 1) hd v := by
  induction d with
  | zero => intro hd v h; cases h
  | succ d ih =>
    intro hd v h
    obtain ⟨hw, h1, h2, fr, h4, h5, h6, h7⟩ := h
    refine ⟨hw, h1, h2, fr, h4, h5, h6, fun g k hk => ?_⟩
    obtain ⟨q, q1, q2, q3⟩ := h7 g k hk
    exact ⟨q, q1, q2, ih q3⟩
set_option maxRecDepth 20000 in
theorem pm_X12_kindOf : mj_mmof pg_ms 245 = some ((⟨"ArrayCalculatorModel", "kindOf", "(I)I"⟩, prog_14_method_2_code, 2, (Option.some Jvm.ClassFile.FieldType.int)), 12, false, mj_dec prog_14_method_2_code) := rfl
theorem dm_X12_kindOf_0 : mj_dec prog_14_method_2_code 0 = some (.aload_n 0, 1) := by decide +kernel
theorem dm_X12_kindOf_1 : mj_dec prog_14_method_2_code 1 = some (.getfield 19, 3) := by decide +kernel
theorem dm_X12_kindOf_4 : mj_dec prog_14_method_2_code 4 = some (.iload_n 1, 1) := by decide +kernel
theorem dm_X12_kindOf_5 : mj_dec prog_14_method_2_code 5 = some (.iaload, 1) := by decide +kernel
theorem dm_X12_kindOf_6 : mj_dec prog_14_method_2_code 6 = some (.bipush 7, 2) := by decide +kernel
theorem dm_X12_kindOf_8 : mj_dec prog_14_method_2_code 8 = some (.iand, 1) := by decide +kernel
theorem dm_X12_kindOf_9 : mj_dec prog_14_method_2_code 9 = some (.ireturn, 1) := by decide +kernel
theorem r_kindOf_ {xt : mj_X} {d e hd : Nat} {pre post : mj_H} {s : RS} {v : VV} (hm : pre.length = 102)  (hd1 : 1 ≤ d) (hB : rB s) (hv : rv s (e + 1) hd v)  : pgP xt d 245 [.ref 102, ii (hd : Int)] (rS pre post s) (ii (vk v : Int)) := by
  obtain ⟨hB1, hB2, hB3, hB4⟩ := hB
  obtain ⟨fr, hfr, hsh, hlt, hcl, hvk, hvm, hvc, hvq, hvcl⟩ := rv_val hv
  refine x_enter pm_X12_kindOf (L0 := [(0, .ref 102), (1, ii (hd : Int))]) rfl (Nat.le_of_ble_eq_true rfl) (by omega) ?_
  refine me1 (pc' := 1) (L' := [(0, .ref 102), (1, ii (hd : Int))]) (S' := [.ref 102]) dm_X12_kindOf_0 rfl rfl rfl rfl ?_
  refine me3 (pc' := 4) (S' := [.ref (102 + 3)]) dm_X12_kindOf_1 (q_getr hm rfl (fun m i l => rg_2 m i l)) rfl rfl rfl ?_
  refine me1 (pc' := 5) (L' := [(0, .ref 102), (1, ii (hd : Int))]) (S' := [ii (hd : Int), .ref (102 + 3)]) dm_X12_kindOf_4 rfl rfl rfl rfl ?_
  refine me3 (pc' := 6) (S' := [ii ((s.2.2.1 2) hd)]) dm_X12_kindOf_5 (q_iald (v := (s.2.2.1 2) hd) (k := 2) (n := 310000) hm (fun m i l I J => rc_2 m i l I J) (by omega) (by omega) (by decide) rfl) rfl rfl rfl ?_
  refine me0 (pc' := 8) (S' := [ii 7, ii ((s.2.2.1 2) hd)]) dm_X12_kindOf_6 rfl rfl rfl rfl ?_
  refine y_and7 (a := (s.2.2.1 2) hd) dm_X12_kindOf_8 (pc' := 9) rfl (by omega) (by omega) ?_
  refine y_ret (r := some (ii (((s.2.2.1 2) hd) % 8))) dm_X12_kindOf_9 rfl rfl rfl ?_
  exact ⟨congrArg some (n_ii (by omega)), rfl⟩
set_option maxRecDepth 20000 in
theorem pm_X12_many : mj_mmof pg_ms 225 = some ((⟨"ArrayCalculatorModel", "many", "(I)I"⟩, prog_14_method_3_code, 2, (Option.some Jvm.ClassFile.FieldType.int)), 12, false, mj_dec prog_14_method_3_code) := rfl
theorem dm_X12_many_0 : mj_dec prog_14_method_3_code 0 = some (.aload_n 0, 1) := by decide +kernel
theorem dm_X12_many_1 : mj_dec prog_14_method_3_code 1 = some (.getfield 19, 3) := by decide +kernel
theorem dm_X12_many_4 : mj_dec prog_14_method_3_code 4 = some (.iload_n 1, 1) := by decide +kernel
theorem dm_X12_many_5 : mj_dec prog_14_method_3_code 5 = some (.iaload, 1) := by decide +kernel
theorem dm_X12_many_6 : mj_dec prog_14_method_3_code 6 = some (.iconst 3, 1) := by decide +kernel
theorem dm_X12_many_7 : mj_dec prog_14_method_3_code 7 = some (.ishr, 1) := by decide +kernel
theorem dm_X12_many_8 : mj_dec prog_14_method_3_code 8 = some (.sipush 255, 3) := by decide +kernel
theorem dm_X12_many_11 : mj_dec prog_14_method_3_code 11 = some (.iand, 1) := by decide +kernel
theorem dm_X12_many_12 : mj_dec prog_14_method_3_code 12 = some (.ireturn, 1) := by decide +kernel
theorem r_many_ {xt : mj_X} {d e hd : Nat} {pre post : mj_H} {s : RS} {v : VV} (hm : pre.length = 102)  (hd1 : 1 ≤ d) (hB : rB s) (hv : rv s (e + 1) hd v)  : pgP xt d 225 [.ref 102, ii (hd : Int)] (rS pre post s) (ii (vm v : Int)) := by
  obtain ⟨hB1, hB2, hB3, hB4⟩ := hB
  obtain ⟨fr, hfr, hsh, hlt, hcl, hvk, hvm, hvc, hvq, hvcl⟩ := rv_val hv
  refine x_enter pm_X12_many (L0 := [(0, .ref 102), (1, ii (hd : Int))]) rfl (Nat.le_of_ble_eq_true rfl) (by omega) ?_
  refine me1 (pc' := 1) (L' := [(0, .ref 102), (1, ii (hd : Int))]) (S' := [.ref 102]) dm_X12_many_0 rfl rfl rfl rfl ?_
  refine me3 (pc' := 4) (S' := [.ref (102 + 3)]) dm_X12_many_1 (q_getr hm rfl (fun m i l => rg_2 m i l)) rfl rfl rfl ?_
  refine me1 (pc' := 5) (L' := [(0, .ref 102), (1, ii (hd : Int))]) (S' := [ii (hd : Int), .ref (102 + 3)]) dm_X12_many_4 rfl rfl rfl rfl ?_
  refine me3 (pc' := 6) (S' := [ii ((s.2.2.1 2) hd)]) dm_X12_many_5 (q_iald (v := (s.2.2.1 2) hd) (k := 2) (n := 310000) hm (fun m i l I J => rc_2 m i l I J) (by omega) (by omega) (by decide) rfl) rfl rfl rfl ?_
  refine me0 (pc' := 7) (S' := [ii 3, ii ((s.2.2.1 2) hd)]) dm_X12_many_6 rfl rfl rfl rfl ?_
  refine y_shr (a := (s.2.2.1 2) hd) (k := 3) dm_X12_many_7 (pc' := 8) rfl (by omega) (by omega) (by decide) ?_
  refine me0 (pc' := 11) (S' := [ii 255, ii (((s.2.2.1 2) hd) / 8)]) dm_X12_many_8 rfl rfl rfl rfl ?_
  refine y_and255 (a := ((s.2.2.1 2) hd) / 8) dm_X12_many_11 (pc' := 12) rfl (by omega) (by omega) ?_
  refine y_ret (r := some (ii ((((s.2.2.1 2) hd) / 8) % 256))) dm_X12_many_12 rfl rfl rfl ?_
  exact ⟨congrArg some (n_ii (by omega)), rfl⟩
set_option maxRecDepth 20000 in
theorem pm_X12_columns : mj_mmof pg_ms 249 = some ((⟨"ArrayCalculatorModel", "columns", "(I)I"⟩, prog_14_method_4_code, 2, (Option.some Jvm.ClassFile.FieldType.int)), 12, false, mj_dec prog_14_method_4_code) := rfl
theorem dm_X12_columns_0 : mj_dec prog_14_method_4_code 0 = some (.aload_n 0, 1) := by decide +kernel
theorem dm_X12_columns_1 : mj_dec prog_14_method_4_code 1 = some (.getfield 19, 3) := by decide +kernel
theorem dm_X12_columns_4 : mj_dec prog_14_method_4_code 4 = some (.iload_n 1, 1) := by decide +kernel
theorem dm_X12_columns_5 : mj_dec prog_14_method_4_code 5 = some (.iaload, 1) := by decide +kernel
theorem dm_X12_columns_6 : mj_dec prog_14_method_4_code 6 = some (.bipush 11, 2) := by decide +kernel
theorem dm_X12_columns_8 : mj_dec prog_14_method_4_code 8 = some (.ishr, 1) := by decide +kernel
theorem dm_X12_columns_9 : mj_dec prog_14_method_4_code 9 = some (.ireturn, 1) := by decide +kernel
theorem r_columns_ {xt : mj_X} {d e hd : Nat} {pre post : mj_H} {s : RS} {v : VV} (hm : pre.length = 102)  (hd1 : 1 ≤ d) (hB : rB s) (hv : rv s (e + 1) hd v)  : pgP xt d 249 [.ref 102, ii (hd : Int)] (rS pre post s) (ii (vc v : Int)) := by
  obtain ⟨hB1, hB2, hB3, hB4⟩ := hB
  obtain ⟨fr, hfr, hsh, hlt, hcl, hvk, hvm, hvc, hvq, hvcl⟩ := rv_val hv
  refine x_enter pm_X12_columns (L0 := [(0, .ref 102), (1, ii (hd : Int))]) rfl (Nat.le_of_ble_eq_true rfl) (by omega) ?_
  refine me1 (pc' := 1) (L' := [(0, .ref 102), (1, ii (hd : Int))]) (S' := [.ref 102]) dm_X12_columns_0 rfl rfl rfl rfl ?_
  refine me3 (pc' := 4) (S' := [.ref (102 + 3)]) dm_X12_columns_1 (q_getr hm rfl (fun m i l => rg_2 m i l)) rfl rfl rfl ?_
  refine me1 (pc' := 5) (L' := [(0, .ref 102), (1, ii (hd : Int))]) (S' := [ii (hd : Int), .ref (102 + 3)]) dm_X12_columns_4 rfl rfl rfl rfl ?_
  refine me3 (pc' := 6) (S' := [ii ((s.2.2.1 2) hd)]) dm_X12_columns_5 (q_iald (v := (s.2.2.1 2) hd) (k := 2) (n := 310000) hm (fun m i l I J => rc_2 m i l I J) (by omega) (by omega) (by decide) rfl) rfl rfl rfl ?_
  refine me0 (pc' := 8) (S' := [ii 11, ii ((s.2.2.1 2) hd)]) dm_X12_columns_6 rfl rfl rfl rfl ?_
  refine y_shr (a := (s.2.2.1 2) hd) (k := 11) dm_X12_columns_8 (pc' := 9) rfl (by omega) (by omega) (by decide) ?_
  refine y_ret (r := some (ii (((s.2.2.1 2) hd) / 2048))) dm_X12_columns_9 rfl rfl rfl ?_
  exact ⟨congrArg some (n_ii (by omega)), rfl⟩
set_option maxRecDepth 20000 in
theorem pm_X12_number : mj_mmof pg_ms 226 = some ((⟨"ArrayCalculatorModel", "number", "(II)J"⟩, prog_14_method_5_code, 3, (Option.some Jvm.ClassFile.FieldType.long)), 12, false, mj_dec prog_14_method_5_code) := rfl
theorem dm_X12_number_0 : mj_dec prog_14_method_5_code 0 = some (.aload_n 0, 1) := by decide +kernel
theorem dm_X12_number_1 : mj_dec prog_14_method_5_code 1 = some (.getfield 8, 3) := by decide +kernel
theorem dm_X12_number_4 : mj_dec prog_14_method_5_code 4 = some (.aload_n 0, 1) := by decide +kernel
theorem dm_X12_number_5 : mj_dec prog_14_method_5_code 5 = some (.getfield 15, 3) := by decide +kernel
theorem dm_X12_number_8 : mj_dec prog_14_method_5_code 8 = some (.iload_n 1, 1) := by decide +kernel
theorem dm_X12_number_9 : mj_dec prog_14_method_5_code 9 = some (.iaload, 1) := by decide +kernel
theorem dm_X12_number_10 : mj_dec prog_14_method_5_code 10 = some (.iload_n 2, 1) := by decide +kernel
theorem dm_X12_number_11 : mj_dec prog_14_method_5_code 11 = some (.iadd, 1) := by decide +kernel
theorem dm_X12_number_12 : mj_dec prog_14_method_5_code 12 = some (.laload, 1) := by decide +kernel
theorem dm_X12_number_13 : mj_dec prog_14_method_5_code 13 = some (.lreturn, 1) := by decide +kernel
theorem r_number_ {xt : mj_X} {d e hd : Nat} {pre post : mj_H} {s : RS} {v : VV} (hm : pre.length = 102) {k : Nat} (hd1 : 1 ≤ d) (hB : rB s) (hv : rv s (e + 1) hd v) (hk7 : vk v ≠ 7) (hk : k < vq v) : pgP xt d 226 [.ref 102, ii (hd : Int), ii (k : Int)] (rS pre post s) (.long (vn v k)) := by
  obtain ⟨hB1, hB2, hB3, hB4⟩ := hB
  obtain ⟨fr, hfr, hsh, hlt, hcl, hvk, hvm, hvc, hvq, hvcl⟩ := rv_val hv
  have hvc2 : vcl v = vq v := by unfold vcl; rw [if_neg hk7]
  obtain ⟨fr2, hfr2, hnum⟩ : ∃ fr2 : Nat, s.2.2.1 1 hd = (fr2 : Int) ∧ s.2.2.2 0 (fr2 + k) = vn v k := by
    obtain ⟨-, -, -, fr2, h1, -, h2, -⟩ := hv
    exact ⟨fr2, h1, h2 hk7 k hk⟩
  refine x_enter pm_X12_number (L0 := [(0, .ref 102), (1, ii (hd : Int)), (2, ii (k : Int))]) rfl (Nat.le_of_ble_eq_true rfl) (by omega) ?_
  refine me1 (pc' := 1) (L' := [(0, .ref 102), (1, ii (hd : Int)), (2, ii (k : Int))]) (S' := [.ref 102]) dm_X12_number_0 rfl rfl rfl rfl ?_
  refine me3 (pc' := 4) (S' := [.ref (102 + 1)]) dm_X12_number_1 (q_getr hm rfl (fun m i l => rg_0 m i l)) rfl rfl rfl ?_
  refine me1 (pc' := 5) (L' := [(0, .ref 102), (1, ii (hd : Int)), (2, ii (k : Int))]) (S' := [.ref 102, .ref (102 + 1)]) dm_X12_number_4 rfl rfl rfl rfl ?_
  refine me3 (pc' := 8) (S' := [.ref (102 + 2), .ref (102 + 1)]) dm_X12_number_5 (q_getr hm rfl (fun m i l => rg_1 m i l)) rfl rfl rfl ?_
  refine me1 (pc' := 9) (L' := [(0, .ref 102), (1, ii (hd : Int)), (2, ii (k : Int))]) (S' := [ii (hd : Int), .ref (102 + 2), .ref (102 + 1)]) dm_X12_number_8 rfl rfl rfl rfl ?_
  refine me3 (pc' := 10) (S' := [ii ((s.2.2.1 1) hd), .ref (102 + 1)]) dm_X12_number_9 (q_iald (v := (s.2.2.1 1) hd) (k := 1) (n := 310000) hm (fun m i l I J => rc_1 m i l I J) (by omega) (by omega) (by decide) rfl) rfl rfl rfl ?_
  refine me1 (pc' := 11) (L' := [(0, .ref 102), (1, ii (hd : Int)), (2, ii (k : Int))]) (S' := [ii (k : Int), ii ((s.2.2.1 1) hd), .ref (102 + 1)]) dm_X12_number_10 rfl rfl rfl rfl ?_
  refine y_iadd (a := (s.2.2.1 1) hd) (b := (k : Int)) dm_X12_number_11 (pc' := 12) rfl ?_
  refine me3 (pc' := 13) (S' := [.long ((s.2.2.2 0) ((((s.2.2.1 1) hd) + (k : Int)).toNat))]) dm_X12_number_12 (q_lald (v := (s.2.2.2 0) ((((s.2.2.1 1) hd) + (k : Int)).toNat)) (k := 0) (n := 820000) hm (fun m i l I J => rc_0 m i l I J) (by omega) (by omega) (by decide) rfl) rfl rfl rfl ?_
  refine y_ret (r := some (.long ((s.2.2.2 0) ((((s.2.2.1 1) hd) + (k : Int)).toNat)))) dm_X12_number_13 rfl rfl rfl ?_
  refine ⟨congrArg some (congrArg Value.long ?_), rfl⟩
  rw [hfr2, show ((fr2 : Int) + (k : Int)).toNat = fr2 + k by omega]
  exact hnum
set_option maxRecDepth 20000 in
theorem pm_X12_value : mj_mmof pg_ms 250 = some ((⟨"ArrayCalculatorModel", "value", "(II)I"⟩, prog_14_method_6_code, 3, (Option.some Jvm.ClassFile.FieldType.int)), 12, false, mj_dec prog_14_method_6_code) := rfl
theorem dm_X12_value_0 : mj_dec prog_14_method_6_code 0 = some (.aload_n 0, 1) := by decide +kernel
theorem dm_X12_value_1 : mj_dec prog_14_method_6_code 1 = some (.getfield 8, 3) := by decide +kernel
theorem dm_X12_value_4 : mj_dec prog_14_method_6_code 4 = some (.aload_n 0, 1) := by decide +kernel
theorem dm_X12_value_5 : mj_dec prog_14_method_6_code 5 = some (.getfield 15, 3) := by decide +kernel
theorem dm_X12_value_8 : mj_dec prog_14_method_6_code 8 = some (.iload_n 1, 1) := by decide +kernel
theorem dm_X12_value_9 : mj_dec prog_14_method_6_code 9 = some (.iaload, 1) := by decide +kernel
theorem dm_X12_value_10 : mj_dec prog_14_method_6_code 10 = some (.iload_n 2, 1) := by decide +kernel
theorem dm_X12_value_11 : mj_dec prog_14_method_6_code 11 = some (.iadd, 1) := by decide +kernel
theorem dm_X12_value_12 : mj_dec prog_14_method_6_code 12 = some (.laload, 1) := by decide +kernel
theorem dm_X12_value_13 : mj_dec prog_14_method_6_code 13 = some (.l2i, 1) := by decide +kernel
theorem dm_X12_value_14 : mj_dec prog_14_method_6_code 14 = some (.ireturn, 1) := by decide +kernel
theorem r_value_ {xt : mj_X} {d e hd : Nat} {pre post : mj_H} {s : RS} {v : VV} (hm : pre.length = 102) {k : Nat} (hd1 : 1 ≤ d) (hB : rB s) (hv : rv s (e + 1) hd v) (hk7 : vk v = 7) (hk : k < vm v) : ∃ q : Nat, 3 ≤ q ∧ (q : Int) < s.1 4 ∧ rv s e q (vd v k) ∧ pgP xt d 250 [.ref 102, ii (hd : Int), ii (k : Int)] (rS pre post s) (ii (q : Int)) := by
  obtain ⟨hB1, hB2, hB3, hB4⟩ := hB
  obtain ⟨fr, hfr, hsh, hlt, hcl, hvk, hvm, hvc, hvq, hvcl⟩ := rv_val hv
  have hvc2 : vcl v = vm v := by unfold vcl; rw [if_pos hk7]
  obtain ⟨fr2, q, hfr2, hq3, hnum, hqv⟩ : ∃ fr2 q : Nat, s.2.2.1 1 hd = (fr2 : Int) ∧ 3 ≤ q ∧ s.2.2.2 0 (fr2 + k) = Int64.ofInt (q : Int) ∧ rv s e q (vd v k) := by
    obtain ⟨-, -, -, fr2, h1, -, -, h2⟩ := hv
    obtain ⟨q, q1, q2, q3⟩ := h2 hk7 k hk
    exact ⟨fr2, q, h1, q1, q2, q3⟩
  have hq4 : (q : Int) < s.1 4 := by
    cases e with
    | zero => exact hqv.elim
    | succ e => exact hqv.2.1
  refine ⟨q, hq3, hq4, hqv, ?_⟩
  refine x_enter pm_X12_value (L0 := [(0, .ref 102), (1, ii (hd : Int)), (2, ii (k : Int))]) rfl (Nat.le_of_ble_eq_true rfl) (by omega) ?_
  refine me1 (pc' := 1) (L' := [(0, .ref 102), (1, ii (hd : Int)), (2, ii (k : Int))]) (S' := [.ref 102]) dm_X12_value_0 rfl rfl rfl rfl ?_
  refine me3 (pc' := 4) (S' := [.ref (102 + 1)]) dm_X12_value_1 (q_getr hm rfl (fun m i l => rg_0 m i l)) rfl rfl rfl ?_
  refine me1 (pc' := 5) (L' := [(0, .ref 102), (1, ii (hd : Int)), (2, ii (k : Int))]) (S' := [.ref 102, .ref (102 + 1)]) dm_X12_value_4 rfl rfl rfl rfl ?_
  refine me3 (pc' := 8) (S' := [.ref (102 + 2), .ref (102 + 1)]) dm_X12_value_5 (q_getr hm rfl (fun m i l => rg_1 m i l)) rfl rfl rfl ?_
  refine me1 (pc' := 9) (L' := [(0, .ref 102), (1, ii (hd : Int)), (2, ii (k : Int))]) (S' := [ii (hd : Int), .ref (102 + 2), .ref (102 + 1)]) dm_X12_value_8 rfl rfl rfl rfl ?_
  refine me3 (pc' := 10) (S' := [ii ((s.2.2.1 1) hd), .ref (102 + 1)]) dm_X12_value_9 (q_iald (v := (s.2.2.1 1) hd) (k := 1) (n := 310000) hm (fun m i l I J => rc_1 m i l I J) (by omega) (by omega) (by decide) rfl) rfl rfl rfl ?_
  refine me1 (pc' := 11) (L' := [(0, .ref 102), (1, ii (hd : Int)), (2, ii (k : Int))]) (S' := [ii (k : Int), ii ((s.2.2.1 1) hd), .ref (102 + 1)]) dm_X12_value_10 rfl rfl rfl rfl ?_
  refine y_iadd (a := (s.2.2.1 1) hd) (b := (k : Int)) dm_X12_value_11 (pc' := 12) rfl ?_
  refine me3 (pc' := 13) (S' := [.long ((s.2.2.2 0) ((((s.2.2.1 1) hd) + (k : Int)).toNat))]) dm_X12_value_12 (q_lald (v := (s.2.2.2 0) ((((s.2.2.1 1) hd) + (k : Int)).toNat)) (k := 0) (n := 820000) hm (fun m i l I J => rc_0 m i l I J) (by omega) (by omega) (by decide) rfl) rfl rfl rfl ?_
  refine y_l2i (a := (q : Int)) dm_X12_value_13 (pc' := 14) rfl (by rw [hfr2, show ((fr2 : Int) + (k : Int)).toNat = fr2 + k by omega, hnum, Int64.toInt32_ofInt]) ?_
  refine y_ret (r := some (ii (q : Int))) dm_X12_value_14 rfl rfl rfl ?_
  exact ⟨congrArg some (n_ii (by omega)), rfl⟩
set_option maxRecDepth 20000 in
theorem pm_X12_fits : mj_mmof pg_ms 227 = some ((⟨"ArrayCalculatorModel", "fits", "(J)Z"⟩, prog_14_method_12_code, 2, (Option.some Jvm.ClassFile.FieldType.boolean)), 12, false, mj_dec prog_14_method_12_code) := rfl
theorem dm_X12_fits_0 : mj_dec prog_14_method_12_code 0 = some (.lload_n 0, 1) := by decide +kernel
theorem dm_X12_fits_1 : mj_dec prog_14_method_12_code 1 = some (.ldc2_w 130, 3) := by decide +kernel
theorem dm_X12_fits_4 : mj_dec prog_14_method_12_code 4 = some (.lcmp, 1) := by decide +kernel
theorem dm_X12_fits_5 : mj_dec prog_14_method_12_code 5 = some (.ifCond .lt 15, 3) := by decide +kernel
theorem dm_X12_fits_8 : mj_dec prog_14_method_12_code 8 = some (.lload_n 0, 1) := by decide +kernel
theorem dm_X12_fits_9 : mj_dec prog_14_method_12_code 9 = some (.ldc2_w 132, 3) := by decide +kernel
theorem dm_X12_fits_12 : mj_dec prog_14_method_12_code 12 = some (.lcmp, 1) := by decide +kernel
theorem dm_X12_fits_13 : mj_dec prog_14_method_12_code 13 = some (.ifCond .gt 7, 3) := by decide +kernel
theorem dm_X12_fits_16 : mj_dec prog_14_method_12_code 16 = some (.iconst 1, 1) := by decide +kernel
theorem dm_X12_fits_17 : mj_dec prog_14_method_12_code 17 = some (.goto 4, 3) := by decide +kernel
theorem dm_X12_fits_20 : mj_dec prog_14_method_12_code 20 = some (.iconst 0, 1) := by decide +kernel
theorem dm_X12_fits_21 : mj_dec prog_14_method_12_code 21 = some (.ireturn, 1) := by decide +kernel
theorem r_fits_ {xt : mj_X} {d : Nat} {h : mj_H} {x : Int64} (hd : 1 ≤ d) : pgP xt d 227 [.long x] h (zz (fitsB x)) := by
  have hmin : (Int64.ofInt (-2147483648)).toInt = -2147483648 := by decide
  have hmax : (Int64.ofInt 2147483647).toInt = 2147483647 := by decide
  refine x_enter pm_X12_fits (L0 := [(0, .long x)]) rfl (Nat.le_of_ble_eq_true rfl) (by omega) ?_
  refine me1 (pc' := 1) (L' := [(0, .long x)]) (S' := [.long x]) dm_X12_fits_0 rfl rfl rfl rfl ?_
  refine me3 (pc' := 4) (S' := [.long (Int64.ofInt (-2147483648)), .long x]) dm_X12_fits_1 rfl rfl rfl rfl ?_
  refine y_llt (x := x) (y := Int64.ofInt (-2147483648)) (t := 20) (pc1 := 5) (pc' := 8) dm_X12_fits_4 rfl dm_X12_fits_5 rfl rfl (fun hb1 => ?_) (fun hb1 => ?_)
  · refine me0 (pc' := 21) (S' := [ii 0]) dm_X12_fits_20 rfl rfl rfl rfl ?_
    refine y_ret (r := some (ii 0)) dm_X12_fits_21 rfl rfl rfl ?_
    exact ⟨congrArg some (zf (by rw [hmin, hmax] at *; omega)), rfl⟩
  · refine me1 (pc' := 9) (L' := [(0, .long x)]) (S' := [.long x]) dm_X12_fits_8 rfl rfl rfl rfl ?_
    refine me3 (pc' := 12) (S' := [.long (Int64.ofInt 2147483647), .long x]) dm_X12_fits_9 rfl rfl rfl rfl ?_
    refine y_lgt (x := x) (y := Int64.ofInt 2147483647) (t := 20) (pc1 := 13) (pc' := 16) dm_X12_fits_12 rfl dm_X12_fits_13 rfl rfl (fun hb2 => ?_) (fun hb2 => ?_)
    · refine me0 (pc' := 21) (S' := [ii 0]) dm_X12_fits_20 rfl rfl rfl rfl ?_
      refine y_ret (r := some (ii 0)) dm_X12_fits_21 rfl rfl rfl ?_
      exact ⟨congrArg some (zf (by rw [hmin, hmax] at *; omega)), rfl⟩
    · refine me0 (pc' := 17) (S' := [ii 1]) dm_X12_fits_16 rfl rfl rfl rfl ?_
      refine me2 (pc' := 21) (S' := [ii 1]) dm_X12_fits_17 rfl rfl rfl ?_
      refine y_ret (r := some (ii 1)) dm_X12_fits_21 rfl rfl rfl ?_
      exact ⟨congrArg some (zt (by rw [hmin, hmax] at *; omega)), rfl⟩
set_option maxRecDepth 20000 in
theorem pm_X12_isOne : mj_mmof pg_ms 248 = some ((⟨"ArrayCalculatorModel", "isOne", "(I)Z"⟩, prog_14_method_14_code, 2, (Option.some Jvm.ClassFile.FieldType.boolean)), 12, false, mj_dec prog_14_method_14_code) := rfl
theorem dm_X12_isOne_0 : mj_dec prog_14_method_14_code 0 = some (.aload_n 0, 1) := by decide +kernel
theorem dm_X12_isOne_1 : mj_dec prog_14_method_14_code 1 = some (.iload_n 1, 1) := by decide +kernel
theorem dm_X12_isOne_2 : mj_dec prog_14_method_14_code 2 = some (.invokevirtual 146, 3) := by decide +kernel
theorem dm_X12_isOne_5 : mj_dec prog_14_method_14_code 5 = some (.iconst 1, 1) := by decide +kernel
theorem dm_X12_isOne_6 : mj_dec prog_14_method_14_code 6 = some (.if_icmp .gt 7, 3) := by decide +kernel
theorem dm_X12_isOne_9 : mj_dec prog_14_method_14_code 9 = some (.iconst 1, 1) := by decide +kernel
theorem dm_X12_isOne_10 : mj_dec prog_14_method_14_code 10 = some (.goto 4, 3) := by decide +kernel
theorem dm_X12_isOne_13 : mj_dec prog_14_method_14_code 13 = some (.iconst 0, 1) := by decide +kernel
theorem dm_X12_isOne_14 : mj_dec prog_14_method_14_code 14 = some (.ireturn, 1) := by decide +kernel
theorem r_isOne_ {xt : mj_X} {d e hd : Nat} {pre post : mj_H} {s : RS} {v : VV} (hm : pre.length = 102)  (hd1 : 2 ≤ d) (hB : rB s) (hv : rv s (e + 1) hd v)  : pgP xt d 248 [.ref 102, ii (hd : Int)] (rS pre post s) (zz (decide (vk v ≤ 1))) := by
  have hB0 := hB
  obtain ⟨hB1, hB2, hB3, hB4⟩ := hB
  obtain ⟨fr, hfr, hsh, hlt, hcl, hvk, hvm, hvc, hvq, hvcl⟩ := rv_val hv
  refine x_enter pm_X12_isOne (L0 := [(0, .ref 102), (1, ii (hd : Int))]) rfl (Nat.le_of_ble_eq_true rfl) (by omega) ?_
  refine me1 (pc' := 1) (L' := [(0, .ref 102), (1, ii (hd : Int))]) (S' := [.ref 102]) dm_X12_isOne_0 rfl rfl rfl rfl ?_
  refine me1 (pc' := 2) (L' := [(0, .ref 102), (1, ii (hd : Int))]) (S' := [ii (hd : Int), .ref 102]) dm_X12_isOne_1 rfl rfl rfl rfl ?_
  refine x_cp (pc' := 5) (v := ii (vk v : Int)) (rest := []) dm_X12_isOne_2 rfl (q_inv (As := [ii (hd : Int)]) (S := []) hm rfl rfl rfl) rfl rfl rfl (r_kindOf_ hm (by omega) hB0 hv) ?_
  refine me0 (pc' := 6) (S' := [ii 1, ii (vk v : Int)]) dm_X12_isOne_5 rfl rfl rfl rfl ?_
  refine y_2gt (a := (vk v : Int)) (b := 1) (t := 13) (pc' := 9) dm_X12_isOne_6 rfl rfl (by omega) (fun hb1 => ?_) (fun hb1 => ?_)
  · refine me0 (pc' := 14) (S' := [ii 0]) dm_X12_isOne_13 rfl rfl rfl rfl ?_
    refine y_ret (r := some (ii 0)) dm_X12_isOne_14 rfl rfl rfl ?_
    exact ⟨congrArg some (zf (by omega)), rfl⟩
  · refine me0 (pc' := 10) (S' := [ii 1]) dm_X12_isOne_9 rfl rfl rfl rfl ?_
    refine me2 (pc' := 14) (S' := [ii 1]) dm_X12_isOne_10 rfl rfl rfl ?_
    refine y_ret (r := some (ii 1)) dm_X12_isOne_14 rfl rfl rfl ?_
    exact ⟨congrArg some (zt (by omega)), rfl⟩
set_option maxRecDepth 20000 in
theorem pm_X12_isRow : mj_mmof pg_ms 258 = some ((⟨"ArrayCalculatorModel", "isRow", "(I)Z"⟩, prog_14_method_15_code, 2, (Option.some Jvm.ClassFile.FieldType.boolean)), 12, false, mj_dec prog_14_method_15_code) := rfl
theorem dm_X12_isRow_0 : mj_dec prog_14_method_15_code 0 = some (.aload_n 0, 1) := by decide +kernel
theorem dm_X12_isRow_1 : mj_dec prog_14_method_15_code 1 = some (.iload_n 1, 1) := by decide +kernel
theorem dm_X12_isRow_2 : mj_dec prog_14_method_15_code 2 = some (.invokevirtual 146, 3) := by decide +kernel
theorem dm_X12_isRow_5 : mj_dec prog_14_method_15_code 5 = some (.iconst 2, 1) := by decide +kernel
theorem dm_X12_isRow_6 : mj_dec prog_14_method_15_code 6 = some (.if_icmp .lt 16, 3) := by decide +kernel
theorem dm_X12_isRow_9 : mj_dec prog_14_method_15_code 9 = some (.aload_n 0, 1) := by decide +kernel
theorem dm_X12_isRow_10 : mj_dec prog_14_method_15_code 10 = some (.iload_n 1, 1) := by decide +kernel
theorem dm_X12_isRow_11 : mj_dec prog_14_method_15_code 11 = some (.invokevirtual 146, 3) := by decide +kernel
theorem dm_X12_isRow_14 : mj_dec prog_14_method_15_code 14 = some (.iconst 5, 1) := by decide +kernel
theorem dm_X12_isRow_15 : mj_dec prog_14_method_15_code 15 = some (.if_icmp .gt 7, 3) := by decide +kernel
theorem dm_X12_isRow_18 : mj_dec prog_14_method_15_code 18 = some (.iconst 1, 1) := by decide +kernel
theorem dm_X12_isRow_19 : mj_dec prog_14_method_15_code 19 = some (.goto 4, 3) := by decide +kernel
theorem dm_X12_isRow_22 : mj_dec prog_14_method_15_code 22 = some (.iconst 0, 1) := by decide +kernel
theorem dm_X12_isRow_23 : mj_dec prog_14_method_15_code 23 = some (.ireturn, 1) := by decide +kernel
theorem r_isRow_ {xt : mj_X} {d e hd : Nat} {pre post : mj_H} {s : RS} {v : VV} (hm : pre.length = 102)  (hd1 : 2 ≤ d) (hB : rB s) (hv : rv s (e + 1) hd v)  : pgP xt d 258 [.ref 102, ii (hd : Int)] (rS pre post s) (zz (decide (2 ≤ vk v ∧ vk v ≤ 5))) := by
  have hB0 := hB
  obtain ⟨hB1, hB2, hB3, hB4⟩ := hB
  obtain ⟨fr, hfr, hsh, hlt, hcl, hvk, hvm, hvc, hvq, hvcl⟩ := rv_val hv
  refine x_enter pm_X12_isRow (L0 := [(0, .ref 102), (1, ii (hd : Int))]) rfl (Nat.le_of_ble_eq_true rfl) (by omega) ?_
  refine me1 (pc' := 1) (L' := [(0, .ref 102), (1, ii (hd : Int))]) (S' := [.ref 102]) dm_X12_isRow_0 rfl rfl rfl rfl ?_
  refine me1 (pc' := 2) (L' := [(0, .ref 102), (1, ii (hd : Int))]) (S' := [ii (hd : Int), .ref 102]) dm_X12_isRow_1 rfl rfl rfl rfl ?_
  refine x_cp (pc' := 5) (v := ii (vk v : Int)) (rest := []) dm_X12_isRow_2 rfl (q_inv (As := [ii (hd : Int)]) (S := []) hm rfl rfl rfl) rfl rfl rfl (r_kindOf_ hm (by omega) hB0 hv) ?_
  refine me0 (pc' := 6) (S' := [ii 2, ii (vk v : Int)]) dm_X12_isRow_5 rfl rfl rfl rfl ?_
  refine y_2lt (a := (vk v : Int)) (b := 2) (t := 22) (pc' := 9) dm_X12_isRow_6 rfl rfl (by omega) (fun hb1 => ?_) (fun hb1 => ?_)
  · refine me0 (pc' := 23) (S' := [ii 0]) dm_X12_isRow_22 rfl rfl rfl rfl ?_
    refine y_ret (r := some (ii 0)) dm_X12_isRow_23 rfl rfl rfl ?_
    exact ⟨congrArg some (zf (by omega)), rfl⟩
  · refine me1 (pc' := 10) (L' := [(0, .ref 102), (1, ii (hd : Int))]) (S' := [.ref 102]) dm_X12_isRow_9 rfl rfl rfl rfl ?_
    refine me1 (pc' := 11) (L' := [(0, .ref 102), (1, ii (hd : Int))]) (S' := [ii (hd : Int), .ref 102]) dm_X12_isRow_10 rfl rfl rfl rfl ?_
    refine x_cp (pc' := 14) (v := ii (vk v : Int)) (rest := []) dm_X12_isRow_11 rfl (q_inv (As := [ii (hd : Int)]) (S := []) hm rfl rfl rfl) rfl rfl rfl (r_kindOf_ hm (by omega) hB0 hv) ?_
    refine me0 (pc' := 15) (S' := [ii 5, ii (vk v : Int)]) dm_X12_isRow_14 rfl rfl rfl rfl ?_
    refine y_2gt (a := (vk v : Int)) (b := 5) (t := 22) (pc' := 18) dm_X12_isRow_15 rfl rfl (by omega) (fun hb2 => ?_) (fun hb2 => ?_)
    · refine me0 (pc' := 23) (S' := [ii 0]) dm_X12_isRow_22 rfl rfl rfl rfl ?_
      refine y_ret (r := some (ii 0)) dm_X12_isRow_23 rfl rfl rfl ?_
      exact ⟨congrArg some (zf (by omega)), rfl⟩
    · refine me0 (pc' := 19) (S' := [ii 1]) dm_X12_isRow_18 rfl rfl rfl rfl ?_
      refine me2 (pc' := 23) (S' := [ii 1]) dm_X12_isRow_19 rfl rfl rfl ?_
      refine y_ret (r := some (ii 1)) dm_X12_isRow_23 rfl rfl rfl ?_
      exact ⟨congrArg some (zt (by omega)), rfl⟩
set_option maxRecDepth 20000 in
theorem pm_X12_isNumbers : mj_mmof pg_ms 257 = some ((⟨"ArrayCalculatorModel", "isNumbers", "(I)Z"⟩, prog_14_method_16_code, 2, (Option.some Jvm.ClassFile.FieldType.boolean)), 12, false, mj_dec prog_14_method_16_code) := rfl
theorem dm_X12_isNumbers_0 : mj_dec prog_14_method_16_code 0 = some (.aload_n 0, 1) := by decide +kernel
theorem dm_X12_isNumbers_1 : mj_dec prog_14_method_16_code 1 = some (.iload_n 1, 1) := by decide +kernel
theorem dm_X12_isNumbers_2 : mj_dec prog_14_method_16_code 2 = some (.invokevirtual 149, 3) := by decide +kernel
theorem dm_X12_isNumbers_5 : mj_dec prog_14_method_16_code 5 = some (.ifCond .eq 16, 3) := by decide +kernel
theorem dm_X12_isNumbers_8 : mj_dec prog_14_method_16_code 8 = some (.aload_n 0, 1) := by decide +kernel
theorem dm_X12_isNumbers_9 : mj_dec prog_14_method_16_code 9 = some (.iload_n 1, 1) := by decide +kernel
theorem dm_X12_isNumbers_10 : mj_dec prog_14_method_16_code 10 = some (.invokevirtual 146, 3) := by decide +kernel
theorem dm_X12_isNumbers_13 : mj_dec prog_14_method_16_code 13 = some (.iconst 3, 1) := by decide +kernel
theorem dm_X12_isNumbers_14 : mj_dec prog_14_method_16_code 14 = some (.if_icmp .eq 7, 3) := by decide +kernel
theorem dm_X12_isNumbers_17 : mj_dec prog_14_method_16_code 17 = some (.iconst 1, 1) := by decide +kernel
theorem dm_X12_isNumbers_18 : mj_dec prog_14_method_16_code 18 = some (.goto 4, 3) := by decide +kernel
theorem dm_X12_isNumbers_21 : mj_dec prog_14_method_16_code 21 = some (.iconst 0, 1) := by decide +kernel
theorem dm_X12_isNumbers_22 : mj_dec prog_14_method_16_code 22 = some (.ireturn, 1) := by decide +kernel
theorem r_isNumbers_ {xt : mj_X} {d e hd : Nat} {pre post : mj_H} {s : RS} {v : VV} (hm : pre.length = 102)  (hd1 : 3 ≤ d) (hB : rB s) (hv : rv s (e + 1) hd v)  : pgP xt d 257 [.ref 102, ii (hd : Int)] (rS pre post s) (zz (decide (vk v = 2 ∨ vk v = 4 ∨ vk v = 5))) := by
  have hB0 := hB
  obtain ⟨hB1, hB2, hB3, hB4⟩ := hB
  obtain ⟨fr, hfr, hsh, hlt, hcl, hvk, hvm, hvc, hvq, hvcl⟩ := rv_val hv
  refine x_enter pm_X12_isNumbers (L0 := [(0, .ref 102), (1, ii (hd : Int))]) rfl (Nat.le_of_ble_eq_true rfl) (by omega) ?_
  refine me1 (pc' := 1) (L' := [(0, .ref 102), (1, ii (hd : Int))]) (S' := [.ref 102]) dm_X12_isNumbers_0 rfl rfl rfl rfl ?_
  refine me1 (pc' := 2) (L' := [(0, .ref 102), (1, ii (hd : Int))]) (S' := [ii (hd : Int), .ref 102]) dm_X12_isNumbers_1 rfl rfl rfl rfl ?_
  refine x_cp (pc' := 5) (v := zz (decide (2 ≤ vk v ∧ vk v ≤ 5))) (rest := []) dm_X12_isNumbers_2 rfl (q_inv (As := [ii (hd : Int)]) (S := []) hm rfl rfl rfl) rfl rfl rfl (r_isRow_ hm (by omega) hB0 hv) ?_
  refine y_zeq (c := decide (2 ≤ vk v ∧ vk v ≤ 5)) (t := 21) (pc' := 8) dm_X12_isNumbers_5 rfl rfl (fun hb1 => ?_) (fun hb1 => ?_)
  · replace hb1 := dF hb1
    refine me0 (pc' := 22) (S' := [ii 0]) dm_X12_isNumbers_21 rfl rfl rfl rfl ?_
    refine y_ret (r := some (ii 0)) dm_X12_isNumbers_22 rfl rfl rfl ?_
    exact ⟨congrArg some (zf (by omega)), rfl⟩
  · replace hb1 := dT hb1
    refine me1 (pc' := 9) (L' := [(0, .ref 102), (1, ii (hd : Int))]) (S' := [.ref 102]) dm_X12_isNumbers_8 rfl rfl rfl rfl ?_
    refine me1 (pc' := 10) (L' := [(0, .ref 102), (1, ii (hd : Int))]) (S' := [ii (hd : Int), .ref 102]) dm_X12_isNumbers_9 rfl rfl rfl rfl ?_
    refine x_cp (pc' := 13) (v := ii (vk v : Int)) (rest := []) dm_X12_isNumbers_10 rfl (q_inv (As := [ii (hd : Int)]) (S := []) hm rfl rfl rfl) rfl rfl rfl (r_kindOf_ hm (by omega) hB0 hv) ?_
    refine me0 (pc' := 14) (S' := [ii 3, ii (vk v : Int)]) dm_X12_isNumbers_13 rfl rfl rfl rfl ?_
    refine y_2eq (a := (vk v : Int)) (b := 3) (t := 21) (pc' := 17) dm_X12_isNumbers_14 rfl rfl (by omega) (fun hb2 => ?_) (fun hb2 => ?_)
    · refine me0 (pc' := 22) (S' := [ii 0]) dm_X12_isNumbers_21 rfl rfl rfl rfl ?_
      refine y_ret (r := some (ii 0)) dm_X12_isNumbers_22 rfl rfl rfl ?_
      exact ⟨congrArg some (zf (by omega)), rfl⟩
    · refine me0 (pc' := 18) (S' := [ii 1]) dm_X12_isNumbers_17 rfl rfl rfl rfl ?_
      refine me2 (pc' := 22) (S' := [ii 1]) dm_X12_isNumbers_18 rfl rfl rfl ?_
      refine y_ret (r := some (ii 1)) dm_X12_isNumbers_22 rfl rfl rfl ?_
      exact ⟨congrArg some (zt (by omega)), rfl⟩
