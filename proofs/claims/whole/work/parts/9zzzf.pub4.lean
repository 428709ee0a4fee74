/-! what item answers -/
def itN (v : VV) : Nat := if vk v = 7 then 0 else if vk v = 6 then vm v * vc v else vm v
def itF (v : VV) (k : Int) : Int64 := if 0 ≤ k ∧ k < (itN v : Int) then vn v k.toNat else Int64.ofInt 0
theorem itN_7 {v : VV} (h : vk v = 7) : (0 : Int) = ((itN v : Nat) : Int) := by unfold itN; rw [if_pos h]; rfl
theorem itN_6 {v : VV} (h : vk v = 6) : (vm v : Int) * (vc v : Int) = ((itN v : Nat) : Int) := by unfold itN; rw [if_neg (by omega), if_pos h]; push_cast; rfl
theorem itN_x {v : VV} (h : vk v ≠ 7) (h6 : vk v ≠ 6) : (vm v : Int) = ((itN v : Nat) : Int) := by unfold itN; rw [if_neg h, if_neg h6]
theorem itm_mc {v : VV} (h : vw1 v) : itN v ≤ 144 ∧ ((vk v = 7 ∧ itN v = 0) ∨ (vk v ≠ 7 ∧ itN v = vq v)) := by
  have a := vq_le h
  by_cases h7 : vk v = 7
  · have e : itN v = 0 := by unfold itN; rw [if_pos h7]
    exact ⟨by omega, Or.inl ⟨h7, e⟩⟩
  · have e : itN v = vq v := by
      unfold itN vq
      rw [if_neg h7, if_neg h7]
    exact ⟨by omega, Or.inr ⟨h7, e⟩⟩
theorem itm_q {v : VV} {k : Int} (h0 : 0 ≤ k) (h1 : k < ((itN v : Nat) : Int)) (e : itN v = vq v) : k.toNat < vq v := by omega
theorem itm_0 {v : VV} {k : Int} (h : k < 0 ∨ ((itN v : Nat) : Int) ≤ k) : itF v k = Int64.ofInt 0 := if_neg (by omega)
theorem itm_1 {v : VV} {k : Int} (h0 : 0 ≤ k) (h1 : k < ((itN v : Nat) : Int)) : itF v k = vn v k.toNat := if_pos ⟨h0, h1⟩
theorem nms_knows {xt : mj_X} {d n m : Nat} {h : mj_H} {kf jf : Nat → Int64} {vf of : Nat → Option Nat} {key : Int64} (hd : 3 ≤ d) (hN : NMS h n m kf jf vf of) : pgP xt d 64 [.ref 4, .long key] h (zz (decide (fndK kf n key < n ∨ fndK jf m key < m))) := by
  obtain ⟨n4, n5, n6, n7, n8, hn4, hm4, hvn, hon⟩ := hN
  have c1 := fndR_c kf n key
  have c2 := fndR_c jf m key
  by_cases z : fndK kf n key < n
  · obtain ⟨q, hq⟩ := hvn _ z
    exact n_knowsY hd n4 n5 n6 n7 n8 (by decide) hn4 hm4 z hq
  · have z2 : fndK kf n key = n := by omega
    by_cases y : fndK jf m key < m
    · obtain ⟨q, hq⟩ := hon _ y
      exact n_knowsF hd n4 n5 n6 n7 n8 (by decide) hn4 hm4 z2 y hq
    · exact n_knowsN hd n4 n5 n6 n7 n8 (by decide) hn4 hm4 z2 (by omega)
set_option maxRecDepth 20000 in
theorem pm_X12_kind : mj_mmof pg_ms 307 = some ((⟨"ArrayCalculatorModel", "kind", "()I"⟩, prog_14_method_114_code, 1, (Option.some Jvm.ClassFile.FieldType.int)), 12, false, mj_dec prog_14_method_114_code) := rfl
theorem dm_X12_kind_0 : mj_dec prog_14_method_114_code 0 = some (.aload_n 0, 1) := by decide +kernel
theorem dm_X12_kind_1 : mj_dec prog_14_method_114_code 1 = some (.aload_n 0, 1) := by decide +kernel
theorem dm_X12_kind_2 : mj_dec prog_14_method_114_code 2 = some (.getfield 112, 3) := by decide +kernel
theorem dm_X12_kind_5 : mj_dec prog_14_method_114_code 5 = some (.invokevirtual 146, 3) := by decide +kernel
theorem dm_X12_kind_8 : mj_dec prog_14_method_114_code 8 = some (.ireturn, 1) := by decide +kernel
theorem r_kind_ {xt : mj_X} {d q : Nat} {pre post : mj_H} {s : RS} {v : VV} (hm : pre.length = 102) (hd : 40 ≤ d) (hB : rB s) (h31 : s.1 31 = (q : Int)) (hv : rv s 7 q v)  : pgP xt d 307 [.ref 102] (rS pre post s) (ii (vk v : Int)) := by
  have hB0 := hB
  obtain ⟨hB1, hB2, hB3, hB4⟩ := hB
  obtain ⟨fr, hfr, hsh, hlt, hcl, hvk, hvm, hvc, hvq, hvcl⟩ := rv_val hv
  refine x_enter pm_X12_kind (L0 := [(0, .ref 102)]) rfl (Nat.le_of_ble_eq_true rfl) (by omega) ?_
  refine me1 (pc' := 1) (L' := [(0, .ref 102)]) (S' := [.ref 102]) dm_X12_kind_0 rfl rfl rfl rfl ?_
  refine me1 (pc' := 2) (L' := [(0, .ref 102)]) (S' := [.ref 102, .ref 102]) dm_X12_kind_1 rfl rfl rfl rfl ?_
  refine me3 (pc' := 5) (S' := [ii (s.1 31), .ref 102]) dm_X12_kind_2 (q_geti (v := s.1 31) hm rfl (fun m i l => rg_31 m i l) rfl) rfl rfl rfl ?_
  refine pg_st0 (S' := [ii (q : Int), .ref 102]) (congrArg (fun z => ii z :: [.ref 102]) (h31)) ?_
  refine x_cp (pc' := 8) (v := ii (vk v : Int)) (rest := []) dm_X12_kind_5 rfl (q_inv (As := [ii (q : Int)]) (S := []) hm rfl rfl rfl) rfl rfl rfl (r_kindOf_ (e := 6) hm (by omega) hB0 hv) ?_
  refine y_ret (r := some (ii (vk v : Int))) dm_X12_kind_8 rfl rfl rfl ?_
  exact ⟨rfl, rfl⟩
set_option maxRecDepth 20000 in
theorem pm_X12_count : mj_mmof pg_ms 308 = some ((⟨"ArrayCalculatorModel", "count", "(I)I"⟩, prog_14_method_115_code, 2, (Option.some Jvm.ClassFile.FieldType.int)), 12, false, mj_dec prog_14_method_115_code) := rfl
theorem dm_X12_count_0 : mj_dec prog_14_method_115_code 0 = some (.iload_n 1, 1) := by decide +kernel
theorem dm_X12_count_1 : mj_dec prog_14_method_115_code 1 = some (.tableswitch 71 0 2 #[27, 36, 62], 27) := by decide +kernel
theorem dm_X12_count_28 : mj_dec prog_14_method_115_code 28 = some (.aload_n 0, 1) := by decide +kernel
theorem dm_X12_count_29 : mj_dec prog_14_method_115_code 29 = some (.aload_n 0, 1) := by decide +kernel
theorem dm_X12_count_30 : mj_dec prog_14_method_115_code 30 = some (.getfield 112, 3) := by decide +kernel
theorem dm_X12_count_33 : mj_dec prog_14_method_115_code 33 = some (.invokevirtual 134, 3) := by decide +kernel
theorem dm_X12_count_36 : mj_dec prog_14_method_115_code 36 = some (.ireturn, 1) := by decide +kernel
theorem dm_X12_count_37 : mj_dec prog_14_method_115_code 37 = some (.aload_n 0, 1) := by decide +kernel
theorem dm_X12_count_38 : mj_dec prog_14_method_115_code 38 = some (.aload_n 0, 1) := by decide +kernel
theorem dm_X12_count_39 : mj_dec prog_14_method_115_code 39 = some (.getfield 112, 3) := by decide +kernel
theorem dm_X12_count_42 : mj_dec prog_14_method_115_code 42 = some (.invokevirtual 146, 3) := by decide +kernel
theorem dm_X12_count_45 : mj_dec prog_14_method_115_code 45 = some (.bipush 6, 2) := by decide +kernel
theorem dm_X12_count_47 : mj_dec prog_14_method_115_code 47 = some (.if_icmp .ne 14, 3) := by decide +kernel
theorem dm_X12_count_50 : mj_dec prog_14_method_115_code 50 = some (.aload_n 0, 1) := by decide +kernel
theorem dm_X12_count_51 : mj_dec prog_14_method_115_code 51 = some (.aload_n 0, 1) := by decide +kernel
theorem dm_X12_count_52 : mj_dec prog_14_method_115_code 52 = some (.getfield 112, 3) := by decide +kernel
theorem dm_X12_count_55 : mj_dec prog_14_method_115_code 55 = some (.invokevirtual 156, 3) := by decide +kernel
theorem dm_X12_count_58 : mj_dec prog_14_method_115_code 58 = some (.goto 4, 3) := by decide +kernel
theorem dm_X12_count_61 : mj_dec prog_14_method_115_code 61 = some (.iconst (-1), 1) := by decide +kernel
theorem dm_X12_count_62 : mj_dec prog_14_method_115_code 62 = some (.ireturn, 1) := by decide +kernel
theorem dm_X12_count_63 : mj_dec prog_14_method_115_code 63 = some (.aload_n 0, 1) := by decide +kernel
theorem dm_X12_count_64 : mj_dec prog_14_method_115_code 64 = some (.aload_n 0, 1) := by decide +kernel
theorem dm_X12_count_65 : mj_dec prog_14_method_115_code 65 = some (.getfield 112, 3) := by decide +kernel
theorem dm_X12_count_68 : mj_dec prog_14_method_115_code 68 = some (.invokevirtual 168, 3) := by decide +kernel
theorem dm_X12_count_71 : mj_dec prog_14_method_115_code 71 = some (.ireturn, 1) := by decide +kernel
theorem dm_X12_count_72 : mj_dec prog_14_method_115_code 72 = some (.iconst (-1), 1) := by decide +kernel
theorem dm_X12_count_73 : mj_dec prog_14_method_115_code 73 = some (.ireturn, 1) := by decide +kernel
theorem r_count_ {xt : mj_X} {d q : Nat} {pre post : mj_H} {s : RS} {v : VV} (hm : pre.length = 102) (hd : 40 ≤ d) (hB : rB s) (h31 : s.1 31 = (q : Int)) (hv : rv s 7 q v) {what : Int} (hwh : -2147483648 ≤ what ∧ what ≤ 2147483647) : pgP xt d 308 [.ref 102, ii what] (rS pre post s) (ii (cntF what 6 v)) := by
  have hB0 := hB
  obtain ⟨hB1, hB2, hB3, hB4⟩ := hB
  obtain ⟨fr, hfr, hsh, hlt, hcl, hvk, hvm, hvc, hvq, hvcl⟩ := rv_val hv
  refine x_enter pm_X12_count (L0 := [(0, .ref 102), (1, ii what)]) rfl (Nat.le_of_ble_eq_true rfl) (by omega) ?_
  refine me1 (pc' := 1) (L' := [(0, .ref 102), (1, ii what)]) (S' := [ii what]) dm_X12_count_0 rfl rfl rfl rfl ?_
  refine y_sw (a := what) (0) (t := 28) (i := .tableswitch 71 0 2 #[27, 36, 62]) (len := 27) dm_X12_count_1 rfl rfl rfl (by omega) (by decide) (fun hb1 => ?_) (fun hb1 => ?_)
  · refine me1 (pc' := 29) (L' := [(0, .ref 102), (1, ii what)]) (S' := [.ref 102]) dm_X12_count_28 rfl rfl rfl rfl ?_
    refine me1 (pc' := 30) (L' := [(0, .ref 102), (1, ii what)]) (S' := [.ref 102, .ref 102]) dm_X12_count_29 rfl rfl rfl rfl ?_
    refine me3 (pc' := 33) (S' := [ii (s.1 31), .ref 102]) dm_X12_count_30 (q_geti (v := s.1 31) hm rfl (fun m i l => rg_31 m i l) rfl) rfl rfl rfl ?_
    refine pg_st0 (S' := [ii (q : Int), .ref 102]) (congrArg (fun z => ii z :: [.ref 102]) (h31)) ?_
    refine x_cp (pc' := 36) (v := ii (vm v : Int)) (rest := []) dm_X12_count_33 rfl (q_inv (As := [ii (q : Int)]) (S := []) hm rfl rfl rfl) rfl rfl rfl (r_many_ (e := 6) hm (by omega) hB0 hv) ?_
    refine y_ret (r := some (ii (vm v : Int))) dm_X12_count_36 rfl rfl rfl ?_
    first | (exfalso; omega) | (refine ⟨congrArg (fun z => some (ii z)) ?_, rfl⟩; unfold cntF; repeat (first | rw [if_pos (by omega)] | rw [if_neg (by omega)]))
  refine y_sw (a := what) (1) (t := 37) (i := .tableswitch 71 0 2 #[27, 36, 62]) (len := 27) dm_X12_count_1 rfl rfl rfl (by omega) (by decide) (fun hb2 => ?_) (fun hb2 => ?_)
  · refine me1 (pc' := 38) (L' := [(0, .ref 102), (1, ii what)]) (S' := [.ref 102]) dm_X12_count_37 rfl rfl rfl rfl ?_
    refine me1 (pc' := 39) (L' := [(0, .ref 102), (1, ii what)]) (S' := [.ref 102, .ref 102]) dm_X12_count_38 rfl rfl rfl rfl ?_
    refine me3 (pc' := 42) (S' := [ii (s.1 31), .ref 102]) dm_X12_count_39 (q_geti (v := s.1 31) hm rfl (fun m i l => rg_31 m i l) rfl) rfl rfl rfl ?_
    refine pg_st0 (S' := [ii (q : Int), .ref 102]) (congrArg (fun z => ii z :: [.ref 102]) (h31)) ?_
    refine x_cp (pc' := 45) (v := ii (vk v : Int)) (rest := []) dm_X12_count_42 rfl (q_inv (As := [ii (q : Int)]) (S := []) hm rfl rfl rfl) rfl rfl rfl (r_kindOf_ (e := 6) hm (by omega) hB0 hv) ?_
    refine me0 (pc' := 47) (S' := [ii 6, ii (vk v : Int)]) dm_X12_count_45 rfl rfl rfl rfl ?_
    refine y_2ne (a := (vk v : Int)) (b := 6) (t := 61) (pc' := 50) dm_X12_count_47 rfl rfl (by omega) (fun hb3 => ?_) (fun hb3 => ?_)
    · refine me0 (pc' := 62) (S' := [ii (-1)]) dm_X12_count_61 rfl rfl rfl rfl ?_
      refine y_ret (r := some (ii (-1))) dm_X12_count_62 rfl rfl rfl ?_
      first | (exfalso; omega) | (refine ⟨congrArg (fun z => some (ii z)) ?_, rfl⟩; unfold cntF; repeat (first | rw [if_pos (by omega)] | rw [if_neg (by omega)]))
    · refine me1 (pc' := 51) (L' := [(0, .ref 102), (1, ii what)]) (S' := [.ref 102]) dm_X12_count_50 rfl rfl rfl rfl ?_
      refine me1 (pc' := 52) (L' := [(0, .ref 102), (1, ii what)]) (S' := [.ref 102, .ref 102]) dm_X12_count_51 rfl rfl rfl rfl ?_
      refine me3 (pc' := 55) (S' := [ii (s.1 31), .ref 102]) dm_X12_count_52 (q_geti (v := s.1 31) hm rfl (fun m i l => rg_31 m i l) rfl) rfl rfl rfl ?_
      refine pg_st0 (S' := [ii (q : Int), .ref 102]) (congrArg (fun z => ii z :: [.ref 102]) (h31)) ?_
      refine x_cp (pc' := 58) (v := ii (vc v : Int)) (rest := []) dm_X12_count_55 rfl (q_inv (As := [ii (q : Int)]) (S := []) hm rfl rfl rfl) rfl rfl rfl (r_columns_ (e := 6) hm (by omega) hB0 hv) ?_
      refine me2 (pc' := 62) (S' := [ii (vc v : Int)]) dm_X12_count_58 rfl rfl rfl ?_
      refine y_ret (r := some (ii (vc v : Int))) dm_X12_count_62 rfl rfl rfl ?_
      first | (exfalso; omega) | (refine ⟨congrArg (fun z => some (ii z)) ?_, rfl⟩; unfold cntF; repeat (first | rw [if_pos (by omega)] | rw [if_neg (by omega)]))
  refine y_sw (a := what) (2) (t := 63) (i := .tableswitch 71 0 2 #[27, 36, 62]) (len := 27) dm_X12_count_1 rfl rfl rfl (by omega) (by decide) (fun hb4 => ?_) (fun hb4 => ?_)
  · refine me1 (pc' := 64) (L' := [(0, .ref 102), (1, ii what)]) (S' := [.ref 102]) dm_X12_count_63 rfl rfl rfl rfl ?_
    refine me1 (pc' := 65) (L' := [(0, .ref 102), (1, ii what)]) (S' := [.ref 102, .ref 102]) dm_X12_count_64 rfl rfl rfl rfl ?_
    refine me3 (pc' := 68) (S' := [ii (s.1 31), .ref 102]) dm_X12_count_65 (q_geti (v := s.1 31) hm rfl (fun m i l => rg_31 m i l) rfl) rfl rfl rfl ?_
    refine pg_st0 (S' := [ii (q : Int), .ref 102]) (congrArg (fun z => ii z :: [.ref 102]) (h31)) ?_
    refine x_cp (pc' := 71) (v := ii (vlv 7 v : Int)) (rest := []) dm_X12_count_68 rfl (q_inv (As := [ii (q : Int)]) (S := []) hm rfl rfl rfl) rfl rfl rfl (r_levelsOf_ hm hB0 7 (by omega) (by omega) hv) ?_
    refine y_ret (r := some (ii (vlv 7 v : Int))) dm_X12_count_71 rfl rfl rfl ?_
    first | (exfalso; omega) | (refine ⟨congrArg (fun z => some (ii z)) ?_, rfl⟩; unfold cntF; repeat (first | rw [if_pos (by omega)] | rw [if_neg (by omega)]))
  refine me2 (pc' := 72) (S' := []) dm_X12_count_1 (sw_tdef [Int32.ofInt 0, Int32.ofInt 1, Int32.ofInt 2] rfl rfl rfl ⟨y_no (by omega) (by decide) hb1, y_no (by omega) (by decide) hb2, y_no (by omega) (by decide) hb4, trivial⟩) rfl rfl ?_
  refine me0 (pc' := 73) (S' := [ii (-1)]) dm_X12_count_72 rfl rfl rfl rfl ?_
  refine y_ret (r := some (ii (-1))) dm_X12_count_73 rfl rfl rfl ?_
  first | (exfalso; omega) | (refine ⟨congrArg (fun z => some (ii z)) ?_, rfl⟩; unfold cntF; repeat (first | rw [if_pos (by omega)] | rw [if_neg (by omega)]))
set_option maxRecDepth 20000 in
theorem pm_X12_octet : mj_mmof pg_ms 311 = some ((⟨"ArrayCalculatorModel", "octet", "(I)I"⟩, prog_14_method_118_code, 2, (Option.some Jvm.ClassFile.FieldType.int)), 12, false, mj_dec prog_14_method_118_code) := rfl
theorem dm_X12_octet_0 : mj_dec prog_14_method_118_code 0 = some (.iload_n 1, 1) := by decide +kernel
theorem dm_X12_octet_1 : mj_dec prog_14_method_118_code 1 = some (.ifCond .lt 11, 3) := by decide +kernel
theorem dm_X12_octet_4 : mj_dec prog_14_method_118_code 4 = some (.iload_n 1, 1) := by decide +kernel
theorem dm_X12_octet_5 : mj_dec prog_14_method_118_code 5 = some (.aload_n 0, 1) := by decide +kernel
theorem dm_X12_octet_6 : mj_dec prog_14_method_118_code 6 = some (.getfield 577, 3) := by decide +kernel
theorem dm_X12_octet_9 : mj_dec prog_14_method_118_code 9 = some (.if_icmp .lt 7, 3) := by decide +kernel
theorem dm_X12_octet_12 : mj_dec prog_14_method_118_code 12 = some (.iconst (-1), 1) := by decide +kernel
theorem dm_X12_octet_13 : mj_dec prog_14_method_118_code 13 = some (.goto 9, 3) := by decide +kernel
theorem dm_X12_octet_16 : mj_dec prog_14_method_118_code 16 = some (.aload_n 0, 1) := by decide +kernel
theorem dm_X12_octet_17 : mj_dec prog_14_method_118_code 17 = some (.getfield 40, 3) := by decide +kernel
theorem dm_X12_octet_20 : mj_dec prog_14_method_118_code 20 = some (.iload_n 1, 1) := by decide +kernel
theorem dm_X12_octet_21 : mj_dec prog_14_method_118_code 21 = some (.baload, 1) := by decide +kernel
theorem dm_X12_octet_22 : mj_dec prog_14_method_118_code 22 = some (.ireturn, 1) := by decide +kernel
theorem r_octet_ {xt : mj_X} {d n : Nat} {pre post : mj_H} {s : RS} {k : Int} (hm : pre.length = 102) (hd : 1 ≤ d) (hk : -2147483648 ≤ k ∧ k ≤ 2147483647) (h18 : s.1 18 = (n : Int)) (hn : n ≤ 400) : pgP xt d 311 [.ref 102, ii k] (rS pre post s) (ii (if 0 ≤ k ∧ k < (n : Int) then s.2.2.1 16 k.toNat else -1)) := by
  refine x_enter pm_X12_octet (L0 := [(0, .ref 102), (1, ii k)]) rfl (Nat.le_of_ble_eq_true rfl) (by omega) ?_
  refine me1 (pc' := 1) (L' := [(0, .ref 102), (1, ii k)]) (S' := [ii k]) dm_X12_octet_0 rfl rfl rfl rfl ?_
  refine y_1lt (a := k) (t := 12) (pc' := 4) dm_X12_octet_1 rfl rfl (by omega) (fun hb1 => ?_) (fun hb1 => ?_)
  · refine me0 (pc' := 13) (S' := [ii (-1)]) dm_X12_octet_12 rfl rfl rfl rfl ?_
    refine me2 (pc' := 22) (S' := [ii (-1)]) dm_X12_octet_13 rfl rfl rfl ?_
    refine y_ret (r := some (ii (-1))) dm_X12_octet_22 rfl rfl rfl ?_
    first | (exfalso; omega) | (refine ⟨congrArg (fun z => some (ii z)) ?_, rfl⟩; first | (rw [if_neg (by omega)]) | (rw [if_pos (by omega)]))
  · refine me1 (pc' := 5) (L' := [(0, .ref 102), (1, ii k)]) (S' := [ii k]) dm_X12_octet_4 rfl rfl rfl rfl ?_
    refine me1 (pc' := 6) (L' := [(0, .ref 102), (1, ii k)]) (S' := [.ref 102, ii k]) dm_X12_octet_5 rfl rfl rfl rfl ?_
    refine me3 (pc' := 9) (S' := [ii (s.1 18), ii k]) dm_X12_octet_6 (q_geti (v := s.1 18) hm rfl (fun m i l => rg_18 m i l) rfl) rfl rfl rfl ?_
    refine y_2lt (a := k) (b := s.1 18) (t := 16) (pc' := 12) dm_X12_octet_9 rfl rfl (by omega) (fun hb2 => ?_) (fun hb2 => ?_)
    · refine me1 (pc' := 17) (L' := [(0, .ref 102), (1, ii k)]) (S' := [.ref 102]) dm_X12_octet_16 rfl rfl rfl rfl ?_
      refine me3 (pc' := 20) (S' := [.ref (102 + 7)]) dm_X12_octet_17 (q_getr hm rfl (fun m i l => rg_16 m i l)) rfl rfl rfl ?_
      refine me1 (pc' := 21) (L' := [(0, .ref 102), (1, ii k)]) (S' := [ii k, .ref (102 + 7)]) dm_X12_octet_20 rfl rfl rfl rfl ?_
      refine me3 (pc' := 22) (S' := [ii ((s.2.2.1 16) k.toNat)]) dm_X12_octet_21 (q_bald (v := (s.2.2.1 16) k.toNat) (k := 16) (n := 400) hm (fun m i l I J => rc_16 m i l I J) (by omega) (by omega) (by decide) rfl) rfl rfl rfl ?_
      refine y_ret (r := some (ii ((s.2.2.1 16) k.toNat))) dm_X12_octet_22 rfl rfl rfl ?_
      first | (exfalso; omega) | (refine ⟨congrArg (fun z => some (ii z)) ?_, rfl⟩; first | (rw [if_neg (by omega)]) | (rw [if_pos (by omega)]))
    · refine me0 (pc' := 13) (S' := [ii (-1)]) dm_X12_octet_12 rfl rfl rfl rfl ?_
      refine me2 (pc' := 22) (S' := [ii (-1)]) dm_X12_octet_13 rfl rfl rfl ?_
      refine y_ret (r := some (ii (-1))) dm_X12_octet_22 rfl rfl rfl ?_
      first | (exfalso; omega) | (refine ⟨congrArg (fun z => some (ii z)) ?_, rfl⟩; first | (rw [if_neg (by omega)]) | (rw [if_pos (by omega)]))
set_option maxRecDepth 20000 in
theorem pm_X12_item : mj_mmof pg_ms 309 = some ((⟨"ArrayCalculatorModel", "item", "(I)J"⟩, prog_14_method_116_code, 4, (Option.some Jvm.ClassFile.FieldType.long)), 12, false, mj_dec prog_14_method_116_code) := rfl
theorem dm_X12_item_0 : mj_dec prog_14_method_116_code 0 = some (.aload_n 0, 1) := by decide +kernel
theorem dm_X12_item_1 : mj_dec prog_14_method_116_code 1 = some (.aload_n 0, 1) := by decide +kernel
theorem dm_X12_item_2 : mj_dec prog_14_method_116_code 2 = some (.getfield 112, 3) := by decide +kernel
theorem dm_X12_item_5 : mj_dec prog_14_method_116_code 5 = some (.invokevirtual 146, 3) := by decide +kernel
theorem dm_X12_item_8 : mj_dec prog_14_method_116_code 8 = some (.istore_n 2, 1) := by decide +kernel
theorem dm_X12_item_9 : mj_dec prog_14_method_116_code 9 = some (.iload_n 2, 1) := by decide +kernel
theorem dm_X12_item_10 : mj_dec prog_14_method_116_code 10 = some (.bipush 7, 2) := by decide +kernel
theorem dm_X12_item_12 : mj_dec prog_14_method_116_code 12 = some (.if_icmp .ne 7, 3) := by decide +kernel
theorem dm_X12_item_15 : mj_dec prog_14_method_116_code 15 = some (.iconst 0, 1) := by decide +kernel
theorem dm_X12_item_16 : mj_dec prog_14_method_116_code 16 = some (.goto 37, 3) := by decide +kernel
theorem dm_X12_item_19 : mj_dec prog_14_method_116_code 19 = some (.iload_n 2, 1) := by decide +kernel
theorem dm_X12_item_20 : mj_dec prog_14_method_116_code 20 = some (.bipush 6, 2) := by decide +kernel
theorem dm_X12_item_22 : mj_dec prog_14_method_116_code 22 = some (.if_icmp .ne 23, 3) := by decide +kernel
theorem dm_X12_item_25 : mj_dec prog_14_method_116_code 25 = some (.aload_n 0, 1) := by decide +kernel
theorem dm_X12_item_26 : mj_dec prog_14_method_116_code 26 = some (.aload_n 0, 1) := by decide +kernel
theorem dm_X12_item_27 : mj_dec prog_14_method_116_code 27 = some (.getfield 112, 3) := by decide +kernel
theorem dm_X12_item_30 : mj_dec prog_14_method_116_code 30 = some (.invokevirtual 134, 3) := by decide +kernel
theorem dm_X12_item_33 : mj_dec prog_14_method_116_code 33 = some (.aload_n 0, 1) := by decide +kernel
theorem dm_X12_item_34 : mj_dec prog_14_method_116_code 34 = some (.aload_n 0, 1) := by decide +kernel
theorem dm_X12_item_35 : mj_dec prog_14_method_116_code 35 = some (.getfield 112, 3) := by decide +kernel
theorem dm_X12_item_38 : mj_dec prog_14_method_116_code 38 = some (.invokevirtual 156, 3) := by decide +kernel
theorem dm_X12_item_41 : mj_dec prog_14_method_116_code 41 = some (.imul, 1) := by decide +kernel
theorem dm_X12_item_42 : mj_dec prog_14_method_116_code 42 = some (.goto 11, 3) := by decide +kernel
theorem dm_X12_item_45 : mj_dec prog_14_method_116_code 45 = some (.aload_n 0, 1) := by decide +kernel
theorem dm_X12_item_46 : mj_dec prog_14_method_116_code 46 = some (.aload_n 0, 1) := by decide +kernel
theorem dm_X12_item_47 : mj_dec prog_14_method_116_code 47 = some (.getfield 112, 3) := by decide +kernel
theorem dm_X12_item_50 : mj_dec prog_14_method_116_code 50 = some (.invokevirtual 134, 3) := by decide +kernel
theorem dm_X12_item_53 : mj_dec prog_14_method_116_code 53 = some (.istore_n 3, 1) := by decide +kernel
theorem dm_X12_item_54 : mj_dec prog_14_method_116_code 54 = some (.iload_n 1, 1) := by decide +kernel
theorem dm_X12_item_55 : mj_dec prog_14_method_116_code 55 = some (.ifCond .lt 8, 3) := by decide +kernel
theorem dm_X12_item_58 : mj_dec prog_14_method_116_code 58 = some (.iload_n 1, 1) := by decide +kernel
theorem dm_X12_item_59 : mj_dec prog_14_method_116_code 59 = some (.iload_n 3, 1) := by decide +kernel
theorem dm_X12_item_60 : mj_dec prog_14_method_116_code 60 = some (.if_icmp .lt 7, 3) := by decide +kernel
theorem dm_X12_item_63 : mj_dec prog_14_method_116_code 63 = some (.lconst 0, 1) := by decide +kernel
theorem dm_X12_item_64 : mj_dec prog_14_method_116_code 64 = some (.goto 12, 3) := by decide +kernel
theorem dm_X12_item_67 : mj_dec prog_14_method_116_code 67 = some (.aload_n 0, 1) := by decide +kernel
theorem dm_X12_item_68 : mj_dec prog_14_method_116_code 68 = some (.aload_n 0, 1) := by decide +kernel
theorem dm_X12_item_69 : mj_dec prog_14_method_116_code 69 = some (.getfield 112, 3) := by decide +kernel
theorem dm_X12_item_72 : mj_dec prog_14_method_116_code 72 = some (.iload_n 1, 1) := by decide +kernel
theorem dm_X12_item_73 : mj_dec prog_14_method_116_code 73 = some (.invokevirtual 138, 3) := by decide +kernel
theorem dm_X12_item_76 : mj_dec prog_14_method_116_code 76 = some (.lreturn, 1) := by decide +kernel
theorem r_item_ {xt : mj_X} {d q : Nat} {pre post : mj_H} {s : RS} {v : VV} (hm : pre.length = 102) (hd : 40 ≤ d) (hB : rB s) (h31 : s.1 31 = (q : Int)) (hv : rv s 7 q v) {k : Int} (hk : -2147483648 ≤ k ∧ k ≤ 2147483647) : pgP xt d 309 [.ref 102, ii k] (rS pre post s) (.long (itF v k)) := by
  have hB0 := hB
  obtain ⟨hB1, hB2, hB3, hB4⟩ := hB
  obtain ⟨fr, hfr, hsh, hlt, hcl, hvk, hvm, hvc, hvq, hvcl⟩ := rv_val hv
  have hmc := itm_mc (rv_wf hv).1
  refine x_enter pm_X12_item (L0 := [(0, .ref 102), (1, ii k)]) rfl (Nat.le_of_ble_eq_true rfl) (by omega) ?_
  refine me1 (pc' := 1) (L' := [(0, .ref 102), (1, ii k)]) (S' := [.ref 102]) dm_X12_item_0 rfl rfl rfl rfl ?_
  refine me1 (pc' := 2) (L' := [(0, .ref 102), (1, ii k)]) (S' := [.ref 102, .ref 102]) dm_X12_item_1 rfl rfl rfl rfl ?_
  refine me3 (pc' := 5) (S' := [ii (s.1 31), .ref 102]) dm_X12_item_2 (q_geti (v := s.1 31) hm rfl (fun m i l => rg_31 m i l) rfl) rfl rfl rfl ?_
  refine pg_st0 (S' := [ii (q : Int), .ref 102]) (congrArg (fun z => ii z :: [.ref 102]) (h31)) ?_
  refine x_cp (pc' := 8) (v := ii (vk v : Int)) (rest := []) dm_X12_item_5 rfl (q_inv (As := [ii (q : Int)]) (S := []) hm rfl rfl rfl) rfl rfl rfl (r_kindOf_ (e := 6) hm (by omega) hB0 hv) ?_
  refine me1 (pc' := 9) (L' := [(2, ii (vk v : Int)), (0, .ref 102), (1, ii k)]) (S' := []) dm_X12_item_8 rfl rfl rfl rfl ?_
  refine me1 (pc' := 10) (L' := [(2, ii (vk v : Int)), (0, .ref 102), (1, ii k)]) (S' := [ii (vk v : Int)]) dm_X12_item_9 rfl rfl rfl rfl ?_
  refine me0 (pc' := 12) (S' := [ii 7, ii (vk v : Int)]) dm_X12_item_10 rfl rfl rfl rfl ?_
  refine y_2ne (a := (vk v : Int)) (b := 7) (t := 19) (pc' := 15) dm_X12_item_12 rfl rfl (by omega) (fun hb1 => ?_) (fun hb1 => ?_)
  · refine me1 (pc' := 20) (L' := [(2, ii (vk v : Int)), (0, .ref 102), (1, ii k)]) (S' := [ii (vk v : Int)]) dm_X12_item_19 rfl rfl rfl rfl ?_
    refine me0 (pc' := 22) (S' := [ii 6, ii (vk v : Int)]) dm_X12_item_20 rfl rfl rfl rfl ?_
    refine y_2ne (a := (vk v : Int)) (b := 6) (t := 45) (pc' := 25) dm_X12_item_22 rfl rfl (by omega) (fun hb2 => ?_) (fun hb2 => ?_)
    · refine me1 (pc' := 46) (L' := [(2, ii (vk v : Int)), (0, .ref 102), (1, ii k)]) (S' := [.ref 102]) dm_X12_item_45 rfl rfl rfl rfl ?_
      refine me1 (pc' := 47) (L' := [(2, ii (vk v : Int)), (0, .ref 102), (1, ii k)]) (S' := [.ref 102, .ref 102]) dm_X12_item_46 rfl rfl rfl rfl ?_
      refine me3 (pc' := 50) (S' := [ii (s.1 31), .ref 102]) dm_X12_item_47 (q_geti (v := s.1 31) hm rfl (fun m i l => rg_31 m i l) rfl) rfl rfl rfl ?_
      refine pg_st0 (S' := [ii (q : Int), .ref 102]) (congrArg (fun z => ii z :: [.ref 102]) (h31)) ?_
      refine x_cp (pc' := 53) (v := ii (vm v : Int)) (rest := []) dm_X12_item_50 rfl (q_inv (As := [ii (q : Int)]) (S := []) hm rfl rfl rfl) rfl rfl rfl (r_many_ (e := 6) hm (by omega) hB0 hv) ?_
      refine pg_st0 (S' := [ii ((itN v : Nat) : Int)]) (congrArg (fun z => ii z :: []) (by first | (exfalso; omega) | exact itN_7 (by omega) | exact itN_6 (by omega) | exact itN_x (by omega) (by omega))) ?_
      refine me1 (pc' := 54) (L' := [(3, ii ((itN v : Nat) : Int)), (2, ii (vk v : Int)), (0, .ref 102), (1, ii k)]) (S' := []) dm_X12_item_53 rfl rfl rfl rfl ?_
      refine me1 (pc' := 55) (L' := [(3, ii ((itN v : Nat) : Int)), (2, ii (vk v : Int)), (0, .ref 102), (1, ii k)]) (S' := [ii k]) dm_X12_item_54 rfl rfl rfl rfl ?_
      refine y_1lt (a := k) (t := 63) (pc' := 58) dm_X12_item_55 rfl rfl (by omega) (fun hb3 => ?_) (fun hb3 => ?_)
      · refine me0 (pc' := 64) (S' := [.long (Int64.ofInt 0)]) dm_X12_item_63 rfl rfl rfl rfl ?_
        refine me2 (pc' := 76) (S' := [.long (Int64.ofInt 0)]) dm_X12_item_64 rfl rfl rfl ?_
        refine y_ret (r := some (.long (Int64.ofInt 0))) dm_X12_item_76 rfl rfl rfl ?_
        first | (exfalso; omega) | (refine ⟨congrArg (fun z => some (Value.long z)) ?_, rfl⟩; exact (itm_0 (by omega)).symm) | (refine ⟨congrArg (fun z => some (Value.long z)) ?_, rfl⟩; exact (itm_1 (by omega) (by omega)).symm)
      · refine me1 (pc' := 59) (L' := [(3, ii ((itN v : Nat) : Int)), (2, ii (vk v : Int)), (0, .ref 102), (1, ii k)]) (S' := [ii k]) dm_X12_item_58 rfl rfl rfl rfl ?_
        refine me1 (pc' := 60) (L' := [(3, ii ((itN v : Nat) : Int)), (2, ii (vk v : Int)), (0, .ref 102), (1, ii k)]) (S' := [ii ((itN v : Nat) : Int), ii k]) dm_X12_item_59 rfl rfl rfl rfl ?_
        refine y_2lt (a := k) (b := ((itN v : Nat) : Int)) (t := 67) (pc' := 63) dm_X12_item_60 rfl rfl (by omega) (fun hb4 => ?_) (fun hb4 => ?_)
        · refine me1 (pc' := 68) (L' := [(3, ii ((itN v : Nat) : Int)), (2, ii (vk v : Int)), (0, .ref 102), (1, ii k)]) (S' := [.ref 102]) dm_X12_item_67 rfl rfl rfl rfl ?_
          refine me1 (pc' := 69) (L' := [(3, ii ((itN v : Nat) : Int)), (2, ii (vk v : Int)), (0, .ref 102), (1, ii k)]) (S' := [.ref 102, .ref 102]) dm_X12_item_68 rfl rfl rfl rfl ?_
          refine me3 (pc' := 72) (S' := [ii (s.1 31), .ref 102]) dm_X12_item_69 (q_geti (v := s.1 31) hm rfl (fun m i l => rg_31 m i l) rfl) rfl rfl rfl ?_
          refine pg_st0 (S' := [ii (q : Int), .ref 102]) (congrArg (fun z => ii z :: [.ref 102]) (h31)) ?_
          refine me1 (pc' := 73) (L' := [(3, ii ((itN v : Nat) : Int)), (2, ii (vk v : Int)), (0, .ref 102), (1, ii k)]) (S' := [ii k, ii (q : Int), .ref 102]) dm_X12_item_72 rfl rfl rfl rfl ?_
          refine x_cp (pc' := 76) (v := .long (vn v k.toNat)) (rest := []) dm_X12_item_73 rfl (q_inv (As := [ii (q : Int), ii k]) (S := []) hm rfl rfl rfl) rfl rfl rfl ((show pgP xt (d - 1) 226 [.ref 102, ii (q : Int), ii k] (rS pre post s) (.long (vn v k.toNat)) by have z := r_number_ (xt := xt) (d := d - 1) (post := post) (k := k.toNat) (e := 6) hm (by omega) hB0 hv (by omega) (itm_q (by omega) (by omega) (by omega)); rw [show ((k.toNat : Nat) : Int) = k by omega] at z; exact z)) ?_
          refine y_ret (r := some (.long (vn v k.toNat))) dm_X12_item_76 rfl rfl rfl ?_
          first | (exfalso; omega) | (refine ⟨congrArg (fun z => some (Value.long z)) ?_, rfl⟩; exact (itm_0 (by omega)).symm) | (refine ⟨congrArg (fun z => some (Value.long z)) ?_, rfl⟩; exact (itm_1 (by omega) (by omega)).symm)
        · refine me0 (pc' := 64) (S' := [.long (Int64.ofInt 0)]) dm_X12_item_63 rfl rfl rfl rfl ?_
          refine me2 (pc' := 76) (S' := [.long (Int64.ofInt 0)]) dm_X12_item_64 rfl rfl rfl ?_
          refine y_ret (r := some (.long (Int64.ofInt 0))) dm_X12_item_76 rfl rfl rfl ?_
          first | (exfalso; omega) | (refine ⟨congrArg (fun z => some (Value.long z)) ?_, rfl⟩; exact (itm_0 (by omega)).symm) | (refine ⟨congrArg (fun z => some (Value.long z)) ?_, rfl⟩; exact (itm_1 (by omega) (by omega)).symm)
    · refine me1 (pc' := 26) (L' := [(2, ii (vk v : Int)), (0, .ref 102), (1, ii k)]) (S' := [.ref 102]) dm_X12_item_25 rfl rfl rfl rfl ?_
      refine me1 (pc' := 27) (L' := [(2, ii (vk v : Int)), (0, .ref 102), (1, ii k)]) (S' := [.ref 102, .ref 102]) dm_X12_item_26 rfl rfl rfl rfl ?_
      refine me3 (pc' := 30) (S' := [ii (s.1 31), .ref 102]) dm_X12_item_27 (q_geti (v := s.1 31) hm rfl (fun m i l => rg_31 m i l) rfl) rfl rfl rfl ?_
      refine pg_st0 (S' := [ii (q : Int), .ref 102]) (congrArg (fun z => ii z :: [.ref 102]) (h31)) ?_
      refine x_cp (pc' := 33) (v := ii (vm v : Int)) (rest := []) dm_X12_item_30 rfl (q_inv (As := [ii (q : Int)]) (S := []) hm rfl rfl rfl) rfl rfl rfl (r_many_ (e := 6) hm (by omega) hB0 hv) ?_
      refine me1 (pc' := 34) (L' := [(2, ii (vk v : Int)), (0, .ref 102), (1, ii k)]) (S' := [.ref 102, ii (vm v : Int)]) dm_X12_item_33 rfl rfl rfl rfl ?_
      refine me1 (pc' := 35) (L' := [(2, ii (vk v : Int)), (0, .ref 102), (1, ii k)]) (S' := [.ref 102, .ref 102, ii (vm v : Int)]) dm_X12_item_34 rfl rfl rfl rfl ?_
      refine me3 (pc' := 38) (S' := [ii (s.1 31), .ref 102, ii (vm v : Int)]) dm_X12_item_35 (q_geti (v := s.1 31) hm rfl (fun m i l => rg_31 m i l) rfl) rfl rfl rfl ?_
      refine pg_st0 (S' := [ii (q : Int), .ref 102, ii (vm v : Int)]) (congrArg (fun z => ii z :: [.ref 102, ii (vm v : Int)]) (h31)) ?_
      refine x_cp (pc' := 41) (v := ii (vc v : Int)) (rest := [ii (vm v : Int)]) dm_X12_item_38 rfl (q_inv (As := [ii (q : Int)]) (S := [ii (vm v : Int)]) hm rfl rfl rfl) rfl rfl rfl (r_columns_ (e := 6) hm (by omega) hB0 hv) ?_
      refine y_imul (a := (vm v : Int)) (b := (vc v : Int)) dm_X12_item_41 (pc' := 42) rfl ?_
      refine me2 (pc' := 53) (S' := [ii ((vm v : Int) * (vc v : Int))]) dm_X12_item_42 rfl rfl rfl ?_
      refine pg_st0 (S' := [ii ((itN v : Nat) : Int)]) (congrArg (fun z => ii z :: []) (by first | (exfalso; omega) | exact itN_7 (by omega) | exact itN_6 (by omega) | exact itN_x (by omega) (by omega))) ?_
      refine me1 (pc' := 54) (L' := [(3, ii ((itN v : Nat) : Int)), (2, ii (vk v : Int)), (0, .ref 102), (1, ii k)]) (S' := []) dm_X12_item_53 rfl rfl rfl rfl ?_
      refine me1 (pc' := 55) (L' := [(3, ii ((itN v : Nat) : Int)), (2, ii (vk v : Int)), (0, .ref 102), (1, ii k)]) (S' := [ii k]) dm_X12_item_54 rfl rfl rfl rfl ?_
      refine y_1lt (a := k) (t := 63) (pc' := 58) dm_X12_item_55 rfl rfl (by omega) (fun hb5 => ?_) (fun hb5 => ?_)
      · refine me0 (pc' := 64) (S' := [.long (Int64.ofInt 0)]) dm_X12_item_63 rfl rfl rfl rfl ?_
        refine me2 (pc' := 76) (S' := [.long (Int64.ofInt 0)]) dm_X12_item_64 rfl rfl rfl ?_
        refine y_ret (r := some (.long (Int64.ofInt 0))) dm_X12_item_76 rfl rfl rfl ?_
        first | (exfalso; omega) | (refine ⟨congrArg (fun z => some (Value.long z)) ?_, rfl⟩; exact (itm_0 (by omega)).symm) | (refine ⟨congrArg (fun z => some (Value.long z)) ?_, rfl⟩; exact (itm_1 (by omega) (by omega)).symm)
      · refine me1 (pc' := 59) (L' := [(3, ii ((itN v : Nat) : Int)), (2, ii (vk v : Int)), (0, .ref 102), (1, ii k)]) (S' := [ii k]) dm_X12_item_58 rfl rfl rfl rfl ?_
        refine me1 (pc' := 60) (L' := [(3, ii ((itN v : Nat) : Int)), (2, ii (vk v : Int)), (0, .ref 102), (1, ii k)]) (S' := [ii ((itN v : Nat) : Int), ii k]) dm_X12_item_59 rfl rfl rfl rfl ?_
        refine y_2lt (a := k) (b := ((itN v : Nat) : Int)) (t := 67) (pc' := 63) dm_X12_item_60 rfl rfl (by omega) (fun hb6 => ?_) (fun hb6 => ?_)
        · refine me1 (pc' := 68) (L' := [(3, ii ((itN v : Nat) : Int)), (2, ii (vk v : Int)), (0, .ref 102), (1, ii k)]) (S' := [.ref 102]) dm_X12_item_67 rfl rfl rfl rfl ?_
          refine me1 (pc' := 69) (L' := [(3, ii ((itN v : Nat) : Int)), (2, ii (vk v : Int)), (0, .ref 102), (1, ii k)]) (S' := [.ref 102, .ref 102]) dm_X12_item_68 rfl rfl rfl rfl ?_
          refine me3 (pc' := 72) (S' := [ii (s.1 31), .ref 102]) dm_X12_item_69 (q_geti (v := s.1 31) hm rfl (fun m i l => rg_31 m i l) rfl) rfl rfl rfl ?_
          refine pg_st0 (S' := [ii (q : Int), .ref 102]) (congrArg (fun z => ii z :: [.ref 102]) (h31)) ?_
          refine me1 (pc' := 73) (L' := [(3, ii ((itN v : Nat) : Int)), (2, ii (vk v : Int)), (0, .ref 102), (1, ii k)]) (S' := [ii k, ii (q : Int), .ref 102]) dm_X12_item_72 rfl rfl rfl rfl ?_
          refine x_cp (pc' := 76) (v := .long (vn v k.toNat)) (rest := []) dm_X12_item_73 rfl (q_inv (As := [ii (q : Int), ii k]) (S := []) hm rfl rfl rfl) rfl rfl rfl ((show pgP xt (d - 1) 226 [.ref 102, ii (q : Int), ii k] (rS pre post s) (.long (vn v k.toNat)) by have z := r_number_ (xt := xt) (d := d - 1) (post := post) (k := k.toNat) (e := 6) hm (by omega) hB0 hv (by omega) (itm_q (by omega) (by omega) (by omega)); rw [show ((k.toNat : Nat) : Int) = k by omega] at z; exact z)) ?_
          refine y_ret (r := some (.long (vn v k.toNat))) dm_X12_item_76 rfl rfl rfl ?_
          first | (exfalso; omega) | (refine ⟨congrArg (fun z => some (Value.long z)) ?_, rfl⟩; exact (itm_0 (by omega)).symm) | (refine ⟨congrArg (fun z => some (Value.long z)) ?_, rfl⟩; exact (itm_1 (by omega) (by omega)).symm)
        · refine me0 (pc' := 64) (S' := [.long (Int64.ofInt 0)]) dm_X12_item_63 rfl rfl rfl rfl ?_
          refine me2 (pc' := 76) (S' := [.long (Int64.ofInt 0)]) dm_X12_item_64 rfl rfl rfl ?_
          refine y_ret (r := some (.long (Int64.ofInt 0))) dm_X12_item_76 rfl rfl rfl ?_
          first | (exfalso; omega) | (refine ⟨congrArg (fun z => some (Value.long z)) ?_, rfl⟩; exact (itm_0 (by omega)).symm) | (refine ⟨congrArg (fun z => some (Value.long z)) ?_, rfl⟩; exact (itm_1 (by omega) (by omega)).symm)
  · refine me0 (pc' := 16) (S' := [ii 0]) dm_X12_item_15 rfl rfl rfl rfl ?_
    refine me2 (pc' := 53) (S' := [ii 0]) dm_X12_item_16 rfl rfl rfl ?_
    refine pg_st0 (S' := [ii ((itN v : Nat) : Int)]) (congrArg (fun z => ii z :: []) (by first | (exfalso; omega) | exact itN_7 (by omega) | exact itN_6 (by omega) | exact itN_x (by omega) (by omega))) ?_
    refine me1 (pc' := 54) (L' := [(3, ii ((itN v : Nat) : Int)), (2, ii (vk v : Int)), (0, .ref 102), (1, ii k)]) (S' := []) dm_X12_item_53 rfl rfl rfl rfl ?_
    refine me1 (pc' := 55) (L' := [(3, ii ((itN v : Nat) : Int)), (2, ii (vk v : Int)), (0, .ref 102), (1, ii k)]) (S' := [ii k]) dm_X12_item_54 rfl rfl rfl rfl ?_
    refine y_1lt (a := k) (t := 63) (pc' := 58) dm_X12_item_55 rfl rfl (by omega) (fun hb7 => ?_) (fun hb7 => ?_)
    · refine me0 (pc' := 64) (S' := [.long (Int64.ofInt 0)]) dm_X12_item_63 rfl rfl rfl rfl ?_
      refine me2 (pc' := 76) (S' := [.long (Int64.ofInt 0)]) dm_X12_item_64 rfl rfl rfl ?_
      refine y_ret (r := some (.long (Int64.ofInt 0))) dm_X12_item_76 rfl rfl rfl ?_
      first | (exfalso; omega) | (refine ⟨congrArg (fun z => some (Value.long z)) ?_, rfl⟩; exact (itm_0 (by omega)).symm) | (refine ⟨congrArg (fun z => some (Value.long z)) ?_, rfl⟩; exact (itm_1 (by omega) (by omega)).symm)
    · refine me1 (pc' := 59) (L' := [(3, ii ((itN v : Nat) : Int)), (2, ii (vk v : Int)), (0, .ref 102), (1, ii k)]) (S' := [ii k]) dm_X12_item_58 rfl rfl rfl rfl ?_
      refine me1 (pc' := 60) (L' := [(3, ii ((itN v : Nat) : Int)), (2, ii (vk v : Int)), (0, .ref 102), (1, ii k)]) (S' := [ii ((itN v : Nat) : Int), ii k]) dm_X12_item_59 rfl rfl rfl rfl ?_
      refine y_2lt (a := k) (b := ((itN v : Nat) : Int)) (t := 67) (pc' := 63) dm_X12_item_60 rfl rfl (by omega) (fun hb8 => ?_) (fun hb8 => ?_)
      · refine me1 (pc' := 68) (L' := [(3, ii ((itN v : Nat) : Int)), (2, ii (vk v : Int)), (0, .ref 102), (1, ii k)]) (S' := [.ref 102]) dm_X12_item_67 rfl rfl rfl rfl ?_
        refine me1 (pc' := 69) (L' := [(3, ii ((itN v : Nat) : Int)), (2, ii (vk v : Int)), (0, .ref 102), (1, ii k)]) (S' := [.ref 102, .ref 102]) dm_X12_item_68 rfl rfl rfl rfl ?_
        refine me3 (pc' := 72) (S' := [ii (s.1 31), .ref 102]) dm_X12_item_69 (q_geti (v := s.1 31) hm rfl (fun m i l => rg_31 m i l) rfl) rfl rfl rfl ?_
        refine pg_st0 (S' := [ii (q : Int), .ref 102]) (congrArg (fun z => ii z :: [.ref 102]) (h31)) ?_
        refine me1 (pc' := 73) (L' := [(3, ii ((itN v : Nat) : Int)), (2, ii (vk v : Int)), (0, .ref 102), (1, ii k)]) (S' := [ii k, ii (q : Int), .ref 102]) dm_X12_item_72 rfl rfl rfl rfl ?_
        refine x_cp (pc' := 76) (v := .long (vn v k.toNat)) (rest := []) dm_X12_item_73 rfl (q_inv (As := [ii (q : Int), ii k]) (S := []) hm rfl rfl rfl) rfl rfl rfl ((show pgP xt (d - 1) 226 [.ref 102, ii (q : Int), ii k] (rS pre post s) (.long (vn v k.toNat)) by have z := r_number_ (xt := xt) (d := d - 1) (post := post) (k := k.toNat) (e := 6) hm (by omega) hB0 hv (by omega) (itm_q (by omega) (by omega) (by omega)); rw [show ((k.toNat : Nat) : Int) = k by omega] at z; exact z)) ?_
        refine y_ret (r := some (.long (vn v k.toNat))) dm_X12_item_76 rfl rfl rfl ?_
        first | (exfalso; omega) | (refine ⟨congrArg (fun z => some (Value.long z)) ?_, rfl⟩; exact (itm_0 (by omega)).symm) | (refine ⟨congrArg (fun z => some (Value.long z)) ?_, rfl⟩; exact (itm_1 (by omega) (by omega)).symm)
      · refine me0 (pc' := 64) (S' := [.long (Int64.ofInt 0)]) dm_X12_item_63 rfl rfl rfl rfl ?_
        refine me2 (pc' := 76) (S' := [.long (Int64.ofInt 0)]) dm_X12_item_64 rfl rfl rfl ?_
        refine y_ret (r := some (.long (Int64.ofInt 0))) dm_X12_item_76 rfl rfl rfl ?_
        first | (exfalso; omega) | (refine ⟨congrArg (fun z => some (Value.long z)) ?_, rfl⟩; exact (itm_0 (by omega)).symm) | (refine ⟨congrArg (fun z => some (Value.long z)) ?_, rfl⟩; exact (itm_1 (by omega) (by omega)).symm)
set_option maxRecDepth 20000 in
theorem pm_X11_names : mj_mmof pg_ms 191 = some ((⟨"ArrayCalculator", "names", "(I)I"⟩, prog_1_method_17_code, 2, (Option.some Jvm.ClassFile.FieldType.int)), 11, false, mj_dec prog_1_method_17_code) := rfl
theorem dm_X11_names_0 : mj_dec prog_1_method_17_code 0 = some (.aload_n 0, 1) := by decide +kernel
theorem dm_X11_names_1 : mj_dec prog_1_method_17_code 1 = some (.getfield 16, 3) := by decide +kernel
theorem dm_X11_names_4 : mj_dec prog_1_method_17_code 4 = some (.iload_n 1, 1) := by decide +kernel
theorem dm_X11_names_5 : mj_dec prog_1_method_17_code 5 = some (.invokevirtual 199, 3) := by decide +kernel
theorem dm_X11_names_8 : mj_dec prog_1_method_17_code 8 = some (.ireturn, 1) := by decide +kernel
theorem a_names {xt : mj_X} {d qr qp : Nat} {h : mj_H} {fd le lp lw what : Int} (hd : 6 ≤ d) (h2 : h[2]? = some (acC fd qr qp le lp lw)) (hwh : -2147483648 ≤ what ∧ what ≤ 2147483647) {n m : Nat} {kf jf : Nat → Int64} {vf of : Nat → Option Nat} (hN : NMS h n m kf jf vf of)  : pgP xt d 191 [.ref 2, ii what] h (ii (nmsF what n m)) := by
  obtain ⟨n4, n5, n6, n7, n8, hn4, hm4, hvn, hon⟩ := hN
  refine x_enter pm_X11_names (L0 := [(0, .ref 2), (1, ii what)]) rfl (Nat.le_of_ble_eq_true rfl) (by omega) ?_
  refine me1 (pc' := 1) (L' := [(0, .ref 2), (1, ii what)]) (S' := [.ref 2]) dm_X11_names_0 rfl rfl rfl rfl ?_
  refine me3 (pc' := 4) (S' := [.ref 4]) dm_X11_names_1 (g_get (v := .ref 4) h2 rfl rfl (by decide)) rfl rfl rfl ?_
  refine me1 (pc' := 5) (L' := [(0, .ref 2), (1, ii what)]) (S' := [ii what, .ref 4]) dm_X11_names_4 rfl rfl rfl rfl ?_
  refine x_cp (pc' := 8) (v := ii (nmsF what n m)) (rest := []) dm_X11_names_5 rfl (g_inv (As := [ii what]) (S := []) n4 rfl rfl rfl (by decide)) rfl rfl rfl (n_howMany hwh (by omega) n4 n5 n6 n7 n8 (by decide) hn4 hm4) ?_
  refine y_ret (r := some (ii (nmsF what n m))) dm_X11_names_8 rfl rfl rfl ?_
  exact ⟨rfl, rfl⟩
set_option maxRecDepth 20000 in
theorem pm_X11_octet : mj_mmof pg_ms 187 = some ((⟨"ArrayCalculator", "octet", "(I)I"⟩, prog_1_method_14_code, 2, (Option.some Jvm.ClassFile.FieldType.int)), 11, false, mj_dec prog_1_method_14_code) := rfl
theorem dm_X11_octet_0 : mj_dec prog_1_method_14_code 0 = some (.aload_n 0, 1) := by decide +kernel
theorem dm_X11_octet_1 : mj_dec prog_1_method_14_code 1 = some (.getfield 56, 3) := by decide +kernel
theorem dm_X11_octet_4 : mj_dec prog_1_method_14_code 4 = some (.iload_n 1, 1) := by decide +kernel
theorem dm_X11_octet_5 : mj_dec prog_1_method_14_code 5 = some (.invokevirtual 193, 3) := by decide +kernel
theorem dm_X11_octet_8 : mj_dec prog_1_method_14_code 8 = some (.ireturn, 1) := by decide +kernel
theorem a_octet {xt : mj_X} {d qr qp : Nat} {h : mj_H} {fd le lp lw what : Int} (hd : 6 ≤ d) (h2 : h[2]? = some (acC fd qr qp le lp lw)) (hwh : -2147483648 ≤ what ∧ what ≤ 2147483647) {m : Nat} {f : Nat → Int} (h98 : h[98]? = some (cO 6 [.ref 100, .ref 99, ii (m : Int)])) (h100 : h[100]? = some (cB 400 f)) (hmn : m ≤ 400) : pgP xt d 187 [.ref 2, ii what] h (ii (if 0 ≤ what ∧ what < (m : Int) then f what.toNat else -1)) := by
  refine x_enter pm_X11_octet (L0 := [(0, .ref 2), (1, ii what)]) rfl (Nat.le_of_ble_eq_true rfl) (by omega) ?_
  refine me1 (pc' := 1) (L' := [(0, .ref 2), (1, ii what)]) (S' := [.ref 2]) dm_X11_octet_0 rfl rfl rfl rfl ?_
  refine me3 (pc' := 4) (S' := [.ref 98]) dm_X11_octet_1 (g_get (v := .ref 98) h2 rfl rfl (by decide)) rfl rfl rfl ?_
  refine me1 (pc' := 5) (L' := [(0, .ref 2), (1, ii what)]) (S' := [ii what, .ref 98]) dm_X11_octet_4 rfl rfl rfl rfl ?_
  refine x_cp (pc' := 8) (v := ii (if 0 ≤ what ∧ what < (m : Int) then f what.toNat else -1)) (rest := []) dm_X11_octet_5 rfl (g_inv (As := [ii what]) (S := []) h98 rfl rfl rfl (by decide)) rfl rfl rfl (k_byteAt (by omega) (by decide) h98 h100 hmn (by omega) hwh) ?_
  refine y_ret (r := some (ii (if 0 ≤ what ∧ what < (m : Int) then f what.toNat else -1))) dm_X11_octet_8 rfl rfl rfl ?_
  exact ⟨rfl, rfl⟩
set_option maxRecDepth 20000 in
theorem pm_X11_isOneNameMore : mj_mmof pg_ms 60 = some ((⟨"ArrayCalculator", "isOneNameMore", "()Z"⟩, prog_1_method_6_code, 2, (Option.some Jvm.ClassFile.FieldType.boolean)), 11, false, mj_dec prog_1_method_6_code) := rfl
theorem dm_X11_isOneNameMore_0 : mj_dec prog_1_method_6_code 0 = some (.aload_n 0, 1) := by decide +kernel
theorem dm_X11_isOneNameMore_1 : mj_dec prog_1_method_6_code 1 = some (.getfield 34, 3) := by decide +kernel
theorem dm_X11_isOneNameMore_4 : mj_dec prog_1_method_6_code 4 = some (.invokevirtual 108, 3) := by decide +kernel
theorem dm_X11_isOneNameMore_7 : mj_dec prog_1_method_6_code 7 = some (.iconst 1, 1) := by decide +kernel
theorem dm_X11_isOneNameMore_8 : mj_dec prog_1_method_6_code 8 = some (.if_icmp .eq 14, 3) := by decide +kernel
theorem dm_X11_isOneNameMore_11 : mj_dec prog_1_method_6_code 11 = some (.aload_n 0, 1) := by decide +kernel
theorem dm_X11_isOneNameMore_12 : mj_dec prog_1_method_6_code 12 = some (.getfield 34, 3) := by decide +kernel
theorem dm_X11_isOneNameMore_15 : mj_dec prog_1_method_6_code 15 = some (.invokevirtual 108, 3) := by decide +kernel
theorem dm_X11_isOneNameMore_18 : mj_dec prog_1_method_6_code 18 = some (.iconst 2, 1) := by decide +kernel
theorem dm_X11_isOneNameMore_19 : mj_dec prog_1_method_6_code 19 = some (.if_icmp .ne 7, 3) := by decide +kernel
theorem dm_X11_isOneNameMore_22 : mj_dec prog_1_method_6_code 22 = some (.iconst 1, 1) := by decide +kernel
theorem dm_X11_isOneNameMore_23 : mj_dec prog_1_method_6_code 23 = some (.goto 4, 3) := by decide +kernel
theorem dm_X11_isOneNameMore_26 : mj_dec prog_1_method_6_code 26 = some (.iconst 0, 1) := by decide +kernel
theorem dm_X11_isOneNameMore_27 : mj_dec prog_1_method_6_code 27 = some (.istore_n 1, 1) := by decide +kernel
theorem dm_X11_isOneNameMore_28 : mj_dec prog_1_method_6_code 28 = some (.iload_n 1, 1) := by decide +kernel
theorem dm_X11_isOneNameMore_29 : mj_dec prog_1_method_6_code 29 = some (.ifCond .eq 34, 3) := by decide +kernel
theorem dm_X11_isOneNameMore_32 : mj_dec prog_1_method_6_code 32 = some (.aload_n 0, 1) := by decide +kernel
theorem dm_X11_isOneNameMore_33 : mj_dec prog_1_method_6_code 33 = some (.getfield 16, 3) := by decide +kernel
theorem dm_X11_isOneNameMore_36 : mj_dec prog_1_method_6_code 36 = some (.invokevirtual 137, 3) := by decide +kernel
theorem dm_X11_isOneNameMore_39 : mj_dec prog_1_method_6_code 39 = some (.ifCond .eq 24, 3) := by decide +kernel
theorem dm_X11_isOneNameMore_42 : mj_dec prog_1_method_6_code 42 = some (.aload_n 0, 1) := by decide +kernel
theorem dm_X11_isOneNameMore_43 : mj_dec prog_1_method_6_code 43 = some (.getfield 16, 3) := by decide +kernel
theorem dm_X11_isOneNameMore_46 : mj_dec prog_1_method_6_code 46 = some (.aload_n 0, 1) := by decide +kernel
theorem dm_X11_isOneNameMore_47 : mj_dec prog_1_method_6_code 47 = some (.getfield 34, 3) := by decide +kernel
theorem dm_X11_isOneNameMore_50 : mj_dec prog_1_method_6_code 50 = some (.invokevirtual 111, 3) := by decide +kernel
theorem dm_X11_isOneNameMore_53 : mj_dec prog_1_method_6_code 53 = some (.invokevirtual 140, 3) := by decide +kernel
theorem dm_X11_isOneNameMore_56 : mj_dec prog_1_method_6_code 56 = some (.ifCond .ne 7, 3) := by decide +kernel
theorem dm_X11_isOneNameMore_59 : mj_dec prog_1_method_6_code 59 = some (.iconst 1, 1) := by decide +kernel
theorem dm_X11_isOneNameMore_60 : mj_dec prog_1_method_6_code 60 = some (.goto 4, 3) := by decide +kernel
theorem dm_X11_isOneNameMore_63 : mj_dec prog_1_method_6_code 63 = some (.iconst 0, 1) := by decide +kernel
theorem dm_X11_isOneNameMore_64 : mj_dec prog_1_method_6_code 64 = some (.ireturn, 1) := by decide +kernel
theorem a_oneMore {xt : mj_X} {d qr qp : Nat} {h : mj_H} {fd le lp lw : Int} (hd : 6 ≤ d) (h2 : h[2]? = some (acC fd qr qp le lp lw)) {n m : Nat} {kf jf : Nat → Int64} {vf of : Nat → Option Nat} (hN : NMS h n m kf jf vf of) {at_ wr ls : Int} {nm : Int64} {st tl : Value} (h13 : h[13]? = some (rdC at_ wr ls nm st tl)) (hls : 0 ≤ ls ∧ ls ≤ 10) : pgP xt d 60 [.ref 2] h (ii (if (ls = 1 ∨ ls = 2) ∧ 40 ≤ n + m ∧ ¬ (fndK kf n nm < n ∨ fndK jf m nm < m) then 1 else 0)) := by
  have hN0 := hN
  obtain ⟨n4, n5, n6, n7, n8, hn4, hm4, hvn, hon⟩ := hN
  refine x_enter pm_X11_isOneNameMore (L0 := [(0, .ref 2)]) rfl (Nat.le_of_ble_eq_true rfl) (by omega) ?_
  refine me1 (pc' := 1) (L' := [(0, .ref 2)]) (S' := [.ref 2]) dm_X11_isOneNameMore_0 rfl rfl rfl rfl ?_
  refine me3 (pc' := 4) (S' := [.ref 13]) dm_X11_isOneNameMore_1 (g_get (v := .ref 13) h2 rfl rfl (by decide)) rfl rfl rfl ?_
  refine x_cp (pc' := 7) (v := ii ls) (rest := []) dm_X11_isOneNameMore_4 rfl (g_inv (As := []) (S := []) h13 rfl rfl rfl (by decide)) rfl rfl rfl (d_sort (by omega) h13) ?_
  refine me0 (pc' := 8) (S' := [ii 1, ii ls]) dm_X11_isOneNameMore_7 rfl rfl rfl rfl ?_
  refine y_2eq (a := ls) (b := 1) (t := 22) (pc' := 11) dm_X11_isOneNameMore_8 rfl rfl (by omega) (fun hb1 => ?_) (fun hb1 => ?_)
  · refine me0 (pc' := 23) (S' := [ii 1]) dm_X11_isOneNameMore_22 rfl rfl rfl rfl ?_
    refine me2 (pc' := 27) (S' := [ii 1]) dm_X11_isOneNameMore_23 rfl rfl rfl ?_
    refine me1 (pc' := 28) (L' := [(1, ii 1), (0, .ref 2)]) (S' := []) dm_X11_isOneNameMore_27 rfl rfl rfl rfl ?_
    refine me1 (pc' := 29) (L' := [(1, ii 1), (0, .ref 2)]) (S' := [ii 1]) dm_X11_isOneNameMore_28 rfl rfl rfl rfl ?_
    refine me_1f (pc' := 32) dm_X11_isOneNameMore_29 rfl (by decide) rfl ?_
    refine me1 (pc' := 33) (L' := [(1, ii 1), (0, .ref 2)]) (S' := [.ref 2]) dm_X11_isOneNameMore_32 rfl rfl rfl rfl ?_
    refine me3 (pc' := 36) (S' := [.ref 4]) dm_X11_isOneNameMore_33 (g_get (v := .ref 4) h2 rfl rfl (by decide)) rfl rfl rfl ?_
    refine x_cp (pc' := 39) (v := zz (decide (40 ≤ n + m))) (rest := []) dm_X11_isOneNameMore_36 rfl (g_inv (As := []) (S := []) n4 rfl rfl rfl (by decide)) rfl rfl rfl (n_full (by omega) n4 n5 n6 n7 n8 (by decide) hn4 hm4) ?_
    refine y_zeq (c := decide (40 ≤ n + m)) (t := 63) (pc' := 42) dm_X11_isOneNameMore_39 rfl rfl (fun hb2 => ?_) (fun hb2 => ?_)
    · replace hb2 := dF hb2
      refine me0 (pc' := 64) (S' := [ii 0]) dm_X11_isOneNameMore_63 rfl rfl rfl rfl ?_
      refine y_ret (r := some (ii 0)) dm_X11_isOneNameMore_64 rfl rfl rfl ?_
      first | (exfalso; omega) | (refine ⟨congrArg (fun z => some (ii z)) ?_, rfl⟩; first | (rw [if_neg (by omega)]) | (rw [if_pos (by omega)]))
    · replace hb2 := dT hb2
      refine me1 (pc' := 43) (L' := [(1, ii 1), (0, .ref 2)]) (S' := [.ref 2]) dm_X11_isOneNameMore_42 rfl rfl rfl rfl ?_
      refine me3 (pc' := 46) (S' := [.ref 4]) dm_X11_isOneNameMore_43 (g_get (v := .ref 4) h2 rfl rfl (by decide)) rfl rfl rfl ?_
      refine me1 (pc' := 47) (L' := [(1, ii 1), (0, .ref 2)]) (S' := [.ref 2, .ref 4]) dm_X11_isOneNameMore_46 rfl rfl rfl rfl ?_
      refine me3 (pc' := 50) (S' := [.ref 13, .ref 4]) dm_X11_isOneNameMore_47 (g_get (v := .ref 13) h2 rfl rfl (by decide)) rfl rfl rfl ?_
      refine x_cp (pc' := 53) (v := .long nm) (rest := [.ref 4]) dm_X11_isOneNameMore_50 rfl (g_inv (As := []) (S := [.ref 4]) h13 rfl rfl rfl (by decide)) rfl rfl rfl (d_named (by omega) h13) ?_
      refine x_cp (pc' := 56) (v := zz (decide (fndK kf n nm < n ∨ fndK jf m nm < m))) (rest := []) dm_X11_isOneNameMore_53 rfl (g_inv (As := [.long nm]) (S := []) n4 rfl rfl rfl (by decide)) rfl rfl rfl ((nms_knows (by omega) hN0)) ?_
      refine y_zne (c := decide (fndK kf n nm < n ∨ fndK jf m nm < m)) (t := 63) (pc' := 59) dm_X11_isOneNameMore_56 rfl rfl (fun hb3 => ?_) (fun hb3 => ?_)
      · replace hb3 := dT hb3
        refine me0 (pc' := 64) (S' := [ii 0]) dm_X11_isOneNameMore_63 rfl rfl rfl rfl ?_
        refine y_ret (r := some (ii 0)) dm_X11_isOneNameMore_64 rfl rfl rfl ?_
        first | (exfalso; omega) | (refine ⟨congrArg (fun z => some (ii z)) ?_, rfl⟩; first | (rw [if_neg (by omega)]) | (rw [if_pos (by omega)]))
      · replace hb3 := dF hb3
        refine me0 (pc' := 60) (S' := [ii 1]) dm_X11_isOneNameMore_59 rfl rfl rfl rfl ?_
        refine me2 (pc' := 64) (S' := [ii 1]) dm_X11_isOneNameMore_60 rfl rfl rfl ?_
        refine y_ret (r := some (ii 1)) dm_X11_isOneNameMore_64 rfl rfl rfl ?_
        first | (exfalso; omega) | (refine ⟨congrArg (fun z => some (ii z)) ?_, rfl⟩; first | (rw [if_neg (by omega)]) | (rw [if_pos (by omega)]))
  · refine me1 (pc' := 12) (L' := [(0, .ref 2)]) (S' := [.ref 2]) dm_X11_isOneNameMore_11 rfl rfl rfl rfl ?_
    refine me3 (pc' := 15) (S' := [.ref 13]) dm_X11_isOneNameMore_12 (g_get (v := .ref 13) h2 rfl rfl (by decide)) rfl rfl rfl ?_
    refine x_cp (pc' := 18) (v := ii ls) (rest := []) dm_X11_isOneNameMore_15 rfl (g_inv (As := []) (S := []) h13 rfl rfl rfl (by decide)) rfl rfl rfl (d_sort (by omega) h13) ?_
    refine me0 (pc' := 19) (S' := [ii 2, ii ls]) dm_X11_isOneNameMore_18 rfl rfl rfl rfl ?_
    refine y_2ne (a := ls) (b := 2) (t := 26) (pc' := 22) dm_X11_isOneNameMore_19 rfl rfl (by omega) (fun hb4 => ?_) (fun hb4 => ?_)
    · refine me0 (pc' := 27) (S' := [ii 0]) dm_X11_isOneNameMore_26 rfl rfl rfl rfl ?_
      refine me1 (pc' := 28) (L' := [(1, ii 0), (0, .ref 2)]) (S' := []) dm_X11_isOneNameMore_27 rfl rfl rfl rfl ?_
      refine me1 (pc' := 29) (L' := [(1, ii 0), (0, .ref 2)]) (S' := [ii 0]) dm_X11_isOneNameMore_28 rfl rfl rfl rfl ?_
      refine me_1t (pc' := 63) dm_X11_isOneNameMore_29 rfl (by decide) ?_
      refine me0 (pc' := 64) (S' := [ii 0]) dm_X11_isOneNameMore_63 rfl rfl rfl rfl ?_
      refine y_ret (r := some (ii 0)) dm_X11_isOneNameMore_64 rfl rfl rfl ?_
      first | (exfalso; omega) | (refine ⟨congrArg (fun z => some (ii z)) ?_, rfl⟩; first | (rw [if_neg (by omega)]) | (rw [if_pos (by omega)]))
    · refine me0 (pc' := 23) (S' := [ii 1]) dm_X11_isOneNameMore_22 rfl rfl rfl rfl ?_
      refine me2 (pc' := 27) (S' := [ii 1]) dm_X11_isOneNameMore_23 rfl rfl rfl ?_
      refine me1 (pc' := 28) (L' := [(1, ii 1), (0, .ref 2)]) (S' := []) dm_X11_isOneNameMore_27 rfl rfl rfl rfl ?_
      refine me1 (pc' := 29) (L' := [(1, ii 1), (0, .ref 2)]) (S' := [ii 1]) dm_X11_isOneNameMore_28 rfl rfl rfl rfl ?_
      refine me_1f (pc' := 32) dm_X11_isOneNameMore_29 rfl (by decide) rfl ?_
      refine me1 (pc' := 33) (L' := [(1, ii 1), (0, .ref 2)]) (S' := [.ref 2]) dm_X11_isOneNameMore_32 rfl rfl rfl rfl ?_
      refine me3 (pc' := 36) (S' := [.ref 4]) dm_X11_isOneNameMore_33 (g_get (v := .ref 4) h2 rfl rfl (by decide)) rfl rfl rfl ?_
      refine x_cp (pc' := 39) (v := zz (decide (40 ≤ n + m))) (rest := []) dm_X11_isOneNameMore_36 rfl (g_inv (As := []) (S := []) n4 rfl rfl rfl (by decide)) rfl rfl rfl (n_full (by omega) n4 n5 n6 n7 n8 (by decide) hn4 hm4) ?_
      refine y_zeq (c := decide (40 ≤ n + m)) (t := 63) (pc' := 42) dm_X11_isOneNameMore_39 rfl rfl (fun hb5 => ?_) (fun hb5 => ?_)
      · replace hb5 := dF hb5
        refine me0 (pc' := 64) (S' := [ii 0]) dm_X11_isOneNameMore_63 rfl rfl rfl rfl ?_
        refine y_ret (r := some (ii 0)) dm_X11_isOneNameMore_64 rfl rfl rfl ?_
        first | (exfalso; omega) | (refine ⟨congrArg (fun z => some (ii z)) ?_, rfl⟩; first | (rw [if_neg (by omega)]) | (rw [if_pos (by omega)]))
      · replace hb5 := dT hb5
        refine me1 (pc' := 43) (L' := [(1, ii 1), (0, .ref 2)]) (S' := [.ref 2]) dm_X11_isOneNameMore_42 rfl rfl rfl rfl ?_
        refine me3 (pc' := 46) (S' := [.ref 4]) dm_X11_isOneNameMore_43 (g_get (v := .ref 4) h2 rfl rfl (by decide)) rfl rfl rfl ?_
        refine me1 (pc' := 47) (L' := [(1, ii 1), (0, .ref 2)]) (S' := [.ref 2, .ref 4]) dm_X11_isOneNameMore_46 rfl rfl rfl rfl ?_
        refine me3 (pc' := 50) (S' := [.ref 13, .ref 4]) dm_X11_isOneNameMore_47 (g_get (v := .ref 13) h2 rfl rfl (by decide)) rfl rfl rfl ?_
        refine x_cp (pc' := 53) (v := .long nm) (rest := [.ref 4]) dm_X11_isOneNameMore_50 rfl (g_inv (As := []) (S := [.ref 4]) h13 rfl rfl rfl (by decide)) rfl rfl rfl (d_named (by omega) h13) ?_
        refine x_cp (pc' := 56) (v := zz (decide (fndK kf n nm < n ∨ fndK jf m nm < m))) (rest := []) dm_X11_isOneNameMore_53 rfl (g_inv (As := [.long nm]) (S := []) n4 rfl rfl rfl (by decide)) rfl rfl rfl ((nms_knows (by omega) hN0)) ?_
        refine y_zne (c := decide (fndK kf n nm < n ∨ fndK jf m nm < m)) (t := 63) (pc' := 59) dm_X11_isOneNameMore_56 rfl rfl (fun hb6 => ?_) (fun hb6 => ?_)
        · replace hb6 := dT hb6
          refine me0 (pc' := 64) (S' := [ii 0]) dm_X11_isOneNameMore_63 rfl rfl rfl rfl ?_
          refine y_ret (r := some (ii 0)) dm_X11_isOneNameMore_64 rfl rfl rfl ?_
          first | (exfalso; omega) | (refine ⟨congrArg (fun z => some (ii z)) ?_, rfl⟩; first | (rw [if_neg (by omega)]) | (rw [if_pos (by omega)]))
        · replace hb6 := dF hb6
          refine me0 (pc' := 60) (S' := [ii 1]) dm_X11_isOneNameMore_59 rfl rfl rfl rfl ?_
          refine me2 (pc' := 64) (S' := [ii 1]) dm_X11_isOneNameMore_60 rfl rfl rfl ?_
          refine y_ret (r := some (ii 1)) dm_X11_isOneNameMore_64 rfl rfl rfl ?_
          first | (exfalso; omega) | (refine ⟨congrArg (fun z => some (ii z)) ?_, rfl⟩; first | (rw [if_neg (by omega)]) | (rw [if_pos (by omega)]))
