/-- numbers with blanks between them -/
def spL (f : Nat → Int64) : Nat → List Int
  | 0 => []
  | k + 1 => spL f k ++ ((if k = 0 then [] else [32]) ++ numL (f k))
theorem spL_row {v : VV} (h2 : vk v ≠ 2) (hc : vc v = 0) (n : Nat) : spL (vn v) n = nmsL v n := by
  induction n with
  | zero => rfl
  | succ n ih =>
    show spL (vn v) n ++ ((if n = 0 then [] else [32]) ++ numL (vn v n)) = nmsL v n ++ (sepL v n ++ numL (vn v n))
    rw [ih]
    congr 2
    unfold sepL
    by_cases z : n = 0
    · rw [if_pos z, if_pos (Or.inl z)]
    · rw [if_neg z, if_neg (by omega), if_neg (by omega)]
theorem spL_tab {v : VV} (h6 : vk v = 6) (hc : 1 ≤ vc v) (k j : Nat) (hj : j ≤ vc v) (h0 : 1 ≤ j) : nmsL v (k * vc v + j) = nmsL v (k * vc v) ++ ((if k = 0 then [] else [59]) ++ spL (fun i => vn v (k * vc v + i)) j) := by
  induction j with
  | zero => omega
  | succ j ih =>
    show nmsL v (k * vc v + j) ++ (sepL v (k * vc v + j) ++ numL (vn v (k * vc v + j))) = nmsL v (k * vc v) ++ ((if k = 0 then [] else [59]) ++ (spL (fun i => vn v (k * vc v + i)) j ++ ((if j = 0 then [] else [32]) ++ numL (vn v (k * vc v + j)))))
    by_cases z : j = 0
    · subst z
      rw [if_pos rfl]
      show nmsL v (k * vc v) ++ (sepL v (k * vc v + 0) ++ _) = nmsL v (k * vc v) ++ (_ ++ ([] ++ ([] ++ _)))
      rw [List.nil_append, List.nil_append]
      congr 2
      unfold sepL
      by_cases y : k = 0
      · rw [if_pos y, if_pos (Or.inl (by rw [y]; omega))]
      · have hp : 0 < k * vc v := Nat.mul_pos (by omega) (by omega)
        rw [if_neg y, if_neg (by omega), if_pos ⟨by omega, by rw [Nat.add_zero]; exact Nat.mul_mod_left _ _⟩]
    · rw [ih (by omega) (by omega), if_neg z]
      have hs : sepL v (k * vc v + j) = [32] := by
        unfold sepL
        rw [if_neg (by omega), if_neg (fun y => by have y2 := y.2; rw [Nat.mul_comm, Nat.mul_add_mod, Nat.mod_eq_of_lt (by omega)] at y2; exact z y2)]
      rw [hs]
      simp only [List.append_assoc]
theorem numL_bit {x : Int64} (h : x = 0 ∨ x = 1) : numL x = [48 + x.toInt] ∧ 0 ≤ x.toInt ∧ x.toInt ≤ 1 := by
  rcases h with rfl | rfl
  · exact ⟨by decide, by decide, by decide⟩
  · exact ⟨by decide, by decide, by decide⟩
set_option maxRecDepth 20000 in
theorem pm_X12_putNumbers : mj_mmof pg_ms 297 = some ((⟨"ArrayCalculatorModel", "putNumbers", "(III)V"⟩, prog_14_method_45_code, 5, (Option.none : Option Jvm.ClassFile.FieldType)), 12, false, mj_dec prog_14_method_45_code) := rfl
theorem dm_X12_putNumbers_0 : mj_dec prog_14_method_45_code 0 = some (.iconst 0, 1) := by decide +kernel
theorem dm_X12_putNumbers_1 : mj_dec prog_14_method_45_code 1 = some (.istore 4, 2) := by decide +kernel
theorem dm_X12_putNumbers_3 : mj_dec prog_14_method_45_code 3 = some (.iload 4, 2) := by decide +kernel
theorem dm_X12_putNumbers_5 : mj_dec prog_14_method_45_code 5 = some (.iload_n 3, 1) := by decide +kernel
theorem dm_X12_putNumbers_6 : mj_dec prog_14_method_45_code 6 = some (.if_icmp .ge 33, 3) := by decide +kernel
theorem dm_X12_putNumbers_9 : mj_dec prog_14_method_45_code 9 = some (.iload 4, 2) := by decide +kernel
theorem dm_X12_putNumbers_11 : mj_dec prog_14_method_45_code 11 = some (.ifCond .le 9, 3) := by decide +kernel
theorem dm_X12_putNumbers_14 : mj_dec prog_14_method_45_code 14 = some (.aload_n 0, 1) := by decide +kernel
theorem dm_X12_putNumbers_15 : mj_dec prog_14_method_45_code 15 = some (.bipush 32, 2) := by decide +kernel
theorem dm_X12_putNumbers_17 : mj_dec prog_14_method_45_code 17 = some (.invokevirtual 284, 3) := by decide +kernel
theorem dm_X12_putNumbers_20 : mj_dec prog_14_method_45_code 20 = some (.aload_n 0, 1) := by decide +kernel
theorem dm_X12_putNumbers_21 : mj_dec prog_14_method_45_code 21 = some (.aload_n 0, 1) := by decide +kernel
theorem dm_X12_putNumbers_22 : mj_dec prog_14_method_45_code 22 = some (.iload_n 1, 1) := by decide +kernel
theorem dm_X12_putNumbers_23 : mj_dec prog_14_method_45_code 23 = some (.iload_n 2, 1) := by decide +kernel
theorem dm_X12_putNumbers_24 : mj_dec prog_14_method_45_code 24 = some (.iload 4, 2) := by decide +kernel
theorem dm_X12_putNumbers_26 : mj_dec prog_14_method_45_code 26 = some (.iadd, 1) := by decide +kernel
theorem dm_X12_putNumbers_27 : mj_dec prog_14_method_45_code 27 = some (.invokevirtual 138, 3) := by decide +kernel
theorem dm_X12_putNumbers_30 : mj_dec prog_14_method_45_code 30 = some (.invokevirtual 289, 3) := by decide +kernel
theorem dm_X12_putNumbers_33 : mj_dec prog_14_method_45_code 33 = some (.iinc 4 1, 3) := by decide +kernel
theorem dm_X12_putNumbers_36 : mj_dec prog_14_method_45_code 36 = some (.goto (-33), 3) := by decide +kernel
theorem dm_X12_putNumbers_39 : mj_dec prog_14_method_45_code 39 = some (.return_, 1) := by decide +kernel
theorem r_putNumbers_ {xt : mj_X} {d : Nat} {pre post : mj_H} {s : RS} {l : List Int} (hm : pre.length = 102) (hd1 : 3 ≤ d) (hP : rpr s l) {e hd : Nat} {v : VV} (hB : rB s) (hv : rv s (e + 1) hd v) {a n : Nat} (hk7 : vk v ≠ 7) (han : a + n ≤ vq v) : pgN xt d 297 [.ref 102, ii (hd : Int), ii ((a : Nat) : Int), ii ((n : Nat) : Int)] (rS pre post s) (fun h' => ∃ t, h' = rS pre post t ∧ prR s t ∧ rpr t ((l ++ spL (fun i => vn v (a + i)) n).take 400)) := by
  have hB0 := hB
  obtain ⟨hB1, hB2, hB3, hB4⟩ := hB
  obtain ⟨fr, hfr, hsh, hlt, hcl, hvk, hvm, hvc, hvq, hvcl⟩ := rv_val hv
  refine x_enter pm_X12_putNumbers (L0 := [(0, .ref 102), (1, ii (hd : Int)), (2, ii ((a : Nat) : Int)), (3, ii ((n : Nat) : Int))]) rfl (Nat.le_of_ble_eq_true rfl) (by omega) ?_
  refine me0 (pc' := 1) (S' := [ii 0]) dm_X12_putNumbers_0 rfl rfl rfl rfl ?_
  refine me1 (pc' := 3) (L' := [(4, ii 0), (0, .ref 102), (1, ii (hd : Int)), (2, ii ((a : Nat) : Int)), (3, ii ((n : Nat) : Int))]) (S' := []) dm_X12_putNumbers_1 rfl rfl rfl rfl ?_
  have lp3 : ∀ (n3 : Nat) (k : Nat) (t : RS), n - k = n3 → (k ≤ n) → (prR s t) → (rpr t ((l ++ (spL (fun i => vn v (a + i)) k)).take 400)) → pgE xt (d - 1) 12 5 false (Option.none : Option Jvm.ClassFile.FieldType) (mj_dec prog_14_method_45_code) 3 [(0, .ref 102), (1, ii (hd : Int)), (2, ii ((a : Nat) : Int)), (3, ii ((n : Nat) : Int)), (4, ii ((k : Nat) : Int))] [] (rI pre post t.1 t.2.1 t.2.2.1 t.2.2.2) (fun r h' => r = none ∧ ∃ t, h' = rS pre post t ∧ prR s t ∧ rpr t ((l ++ spL (fun i => vn v (a + i)) n).take 400)) := by
    intro n3
    induction n3 using Nat.strongRecOn with
    | ind n3 ih3 =>
      intro k t hm3 hk hRt hPt
      have hvt := rv_pr hRt hv
      have hBt := rB_pr hRt hB0
      refine me1 (pc' := 5) (L' := [(0, .ref 102), (1, ii (hd : Int)), (2, ii ((a : Nat) : Int)), (3, ii ((n : Nat) : Int)), (4, ii ((k : Nat) : Int))]) (S' := [ii ((k : Nat) : Int)]) dm_X12_putNumbers_3 rfl rfl rfl rfl ?_
      refine me1 (pc' := 6) (L' := [(0, .ref 102), (1, ii (hd : Int)), (2, ii ((a : Nat) : Int)), (3, ii ((n : Nat) : Int)), (4, ii ((k : Nat) : Int))]) (S' := [ii ((n : Nat) : Int), ii ((k : Nat) : Int)]) dm_X12_putNumbers_5 rfl rfl rfl rfl ?_
      refine y_2ge (a := ((k : Nat) : Int)) (b := ((n : Nat) : Int)) (t := 39) (pc' := 9) dm_X12_putNumbers_6 rfl rfl (by omega) (fun hb1 => ?_) (fun hb1 => ?_)
      · refine y_ret (r := none) dm_X12_putNumbers_39 rfl rfl rfl ?_
        have hkn : k = n := by omega
        rw [hkn] at hPt
        exact ⟨rfl, t, rfl, hRt, hPt⟩
      · refine me1 (pc' := 11) (L' := [(0, .ref 102), (1, ii (hd : Int)), (2, ii ((a : Nat) : Int)), (3, ii ((n : Nat) : Int)), (4, ii ((k : Nat) : Int))]) (S' := [ii ((k : Nat) : Int)]) dm_X12_putNumbers_9 rfl rfl rfl rfl ?_
        refine y_1le (a := ((k : Nat) : Int)) (t := 20) (pc' := 14) dm_X12_putNumbers_11 rfl rfl (by omega) (fun hb2 => ?_) (fun hb2 => ?_)
        · refine me1 (pc' := 21) (L' := [(0, .ref 102), (1, ii (hd : Int)), (2, ii ((a : Nat) : Int)), (3, ii ((n : Nat) : Int)), (4, ii ((k : Nat) : Int))]) (S' := [.ref 102]) dm_X12_putNumbers_20 rfl rfl rfl rfl ?_
          refine me1 (pc' := 22) (L' := [(0, .ref 102), (1, ii (hd : Int)), (2, ii ((a : Nat) : Int)), (3, ii ((n : Nat) : Int)), (4, ii ((k : Nat) : Int))]) (S' := [.ref 102, .ref 102]) dm_X12_putNumbers_21 rfl rfl rfl rfl ?_
          refine me1 (pc' := 23) (L' := [(0, .ref 102), (1, ii (hd : Int)), (2, ii ((a : Nat) : Int)), (3, ii ((n : Nat) : Int)), (4, ii ((k : Nat) : Int))]) (S' := [ii (hd : Int), .ref 102, .ref 102]) dm_X12_putNumbers_22 rfl rfl rfl rfl ?_
          refine me1 (pc' := 24) (L' := [(0, .ref 102), (1, ii (hd : Int)), (2, ii ((a : Nat) : Int)), (3, ii ((n : Nat) : Int)), (4, ii ((k : Nat) : Int))]) (S' := [ii ((a : Nat) : Int), ii (hd : Int), .ref 102, .ref 102]) dm_X12_putNumbers_23 rfl rfl rfl rfl ?_
          refine me1 (pc' := 26) (L' := [(0, .ref 102), (1, ii (hd : Int)), (2, ii ((a : Nat) : Int)), (3, ii ((n : Nat) : Int)), (4, ii ((k : Nat) : Int))]) (S' := [ii ((k : Nat) : Int), ii ((a : Nat) : Int), ii (hd : Int), .ref 102, .ref 102]) dm_X12_putNumbers_24 rfl rfl rfl rfl ?_
          refine y_iadd (a := ((a : Nat) : Int)) (b := ((k : Nat) : Int)) dm_X12_putNumbers_26 (pc' := 27) rfl ?_
          refine pg_st0 (S' := [ii ((a + k : Nat) : Int), ii (hd : Int), .ref 102, .ref 102]) (congrArg (fun z => ii z :: [ii (hd : Int), .ref 102, .ref 102]) (by push_cast; rfl)) ?_
          refine x_cp (pc' := 30) (v := .long (vn v (a + k))) (rest := [.ref 102]) dm_X12_putNumbers_27 rfl (q_inv (As := [ii (hd : Int), ii ((a + k : Nat) : Int)]) (S := [.ref 102]) hm rfl rfl rfl) rfl rfl rfl (r_number_ (k := a + k) hm (by omega) hBt hvt (by omega) (by omega)) ?_
          refine x_cn (pc' := 33) (rest := []) dm_X12_putNumbers_30 rfl (q_inv (As := [.long (vn v (a + k))]) (S := []) hm rfl rfl rfl) rfl rfl rfl (r_putNumber_ hm (by omega) hPt) ?_
          rintro _ ⟨u1, rfl, hRa1, hPa1⟩
          rw [take_tk2] at hPa1
          replace hRa1 := prR_tr hRt hRa1
          have hva1 := rv_pr hRa1 hv
          have hBa1 := rB_pr hRa1 hB0
          refine y_iinc (pc' := 36) (L' := [(4, ii (((k : Nat) : Int) + 1)), (0, .ref 102), (1, ii (hd : Int)), (2, ii ((a : Nat) : Int)), (3, ii ((n : Nat) : Int))]) dm_X12_putNumbers_33 (y_incp (a := ((k : Nat) : Int)) (c := 1) rfl rfl (by decide)) rfl ?_
          refine me2 (pc' := 3) (S' := []) dm_X12_putNumbers_36 rfl rfl rfl ?_
          exact pg_sub (L := [(0, .ref 102), (1, ii (hd : Int)), (2, ii ((a : Nat) : Int)), (3, ii ((n : Nat) : Int)), (4, ii (((k + 1) : Nat) : Int))]) rfl rfl rfl (ih3 (n - (k + 1)) (by omega) (k + 1) u1 rfl (by omega) hRa1 (show rpr u1 ((l ++ (spL (fun i => vn v (a + i)) (k + 1))).take 400) from (show (spL (fun i => vn v (a + i)) k) ++ (numL (vn v (a + k))) = spL (fun i => vn v (a + i)) (k + 1) by show _ = spL (fun i => vn v (a + i)) k ++ ((if k = 0 then [] else [32]) ++ numL (vn v (a + k))); first | (rw [if_pos (show k = 0 by omega)]; simp only [List.append_assoc, List.nil_append]) | (rw [if_neg (show ¬ k = 0 by omega)]; simp only [List.append_assoc])) ▸ hPa1))
        · refine me1 (pc' := 15) (L' := [(0, .ref 102), (1, ii (hd : Int)), (2, ii ((a : Nat) : Int)), (3, ii ((n : Nat) : Int)), (4, ii ((k : Nat) : Int))]) (S' := [.ref 102]) dm_X12_putNumbers_14 rfl rfl rfl rfl ?_
          refine me0 (pc' := 17) (S' := [ii 32, .ref 102]) dm_X12_putNumbers_15 rfl rfl rfl rfl ?_
          refine x_cn (pc' := 20) (rest := []) dm_X12_putNumbers_17 rfl (q_inv (As := [ii 32]) (S := []) hm rfl rfl rfl) rfl rfl rfl (r_put2 hm (by omega) hPt (by omega)) ?_
          rintro _ ⟨u2, rfl, hRa2, hPa2⟩
          rw [take_tk2] at hPa2
          replace hRa2 := prR_tr hRt hRa2
          have hva2 := rv_pr hRa2 hv
          have hBa2 := rB_pr hRa2 hB0
          refine me1 (pc' := 21) (L' := [(0, .ref 102), (1, ii (hd : Int)), (2, ii ((a : Nat) : Int)), (3, ii ((n : Nat) : Int)), (4, ii ((k : Nat) : Int))]) (S' := [.ref 102]) dm_X12_putNumbers_20 rfl rfl rfl rfl ?_
          refine me1 (pc' := 22) (L' := [(0, .ref 102), (1, ii (hd : Int)), (2, ii ((a : Nat) : Int)), (3, ii ((n : Nat) : Int)), (4, ii ((k : Nat) : Int))]) (S' := [.ref 102, .ref 102]) dm_X12_putNumbers_21 rfl rfl rfl rfl ?_
          refine me1 (pc' := 23) (L' := [(0, .ref 102), (1, ii (hd : Int)), (2, ii ((a : Nat) : Int)), (3, ii ((n : Nat) : Int)), (4, ii ((k : Nat) : Int))]) (S' := [ii (hd : Int), .ref 102, .ref 102]) dm_X12_putNumbers_22 rfl rfl rfl rfl ?_
          refine me1 (pc' := 24) (L' := [(0, .ref 102), (1, ii (hd : Int)), (2, ii ((a : Nat) : Int)), (3, ii ((n : Nat) : Int)), (4, ii ((k : Nat) : Int))]) (S' := [ii ((a : Nat) : Int), ii (hd : Int), .ref 102, .ref 102]) dm_X12_putNumbers_23 rfl rfl rfl rfl ?_
          refine me1 (pc' := 26) (L' := [(0, .ref 102), (1, ii (hd : Int)), (2, ii ((a : Nat) : Int)), (3, ii ((n : Nat) : Int)), (4, ii ((k : Nat) : Int))]) (S' := [ii ((k : Nat) : Int), ii ((a : Nat) : Int), ii (hd : Int), .ref 102, .ref 102]) dm_X12_putNumbers_24 rfl rfl rfl rfl ?_
          refine y_iadd (a := ((a : Nat) : Int)) (b := ((k : Nat) : Int)) dm_X12_putNumbers_26 (pc' := 27) rfl ?_
          refine pg_st0 (S' := [ii ((a + k : Nat) : Int), ii (hd : Int), .ref 102, .ref 102]) (congrArg (fun z => ii z :: [ii (hd : Int), .ref 102, .ref 102]) (by push_cast; rfl)) ?_
          refine x_cp (pc' := 30) (v := .long (vn v (a + k))) (rest := [.ref 102]) dm_X12_putNumbers_27 rfl (q_inv (As := [ii (hd : Int), ii ((a + k : Nat) : Int)]) (S := [.ref 102]) hm rfl rfl rfl) rfl rfl rfl (r_number_ (k := a + k) hm (by omega) hBa2 hva2 (by omega) (by omega)) ?_
          refine x_cn (pc' := 33) (rest := []) dm_X12_putNumbers_30 rfl (q_inv (As := [.long (vn v (a + k))]) (S := []) hm rfl rfl rfl) rfl rfl rfl (r_putNumber_ hm (by omega) hPa2) ?_
          rintro _ ⟨u3, rfl, hRa3, hPa3⟩
          rw [take_tk2] at hPa3
          replace hRa3 := prR_tr hRa2 hRa3
          have hva3 := rv_pr hRa3 hv
          have hBa3 := rB_pr hRa3 hB0
          refine y_iinc (pc' := 36) (L' := [(4, ii (((k : Nat) : Int) + 1)), (0, .ref 102), (1, ii (hd : Int)), (2, ii ((a : Nat) : Int)), (3, ii ((n : Nat) : Int))]) dm_X12_putNumbers_33 (y_incp (a := ((k : Nat) : Int)) (c := 1) rfl rfl (by decide)) rfl ?_
          refine me2 (pc' := 3) (S' := []) dm_X12_putNumbers_36 rfl rfl rfl ?_
          exact pg_sub (L := [(0, .ref 102), (1, ii (hd : Int)), (2, ii ((a : Nat) : Int)), (3, ii ((n : Nat) : Int)), (4, ii (((k + 1) : Nat) : Int))]) rfl rfl rfl (ih3 (n - (k + 1)) (by omega) (k + 1) u3 rfl (by omega) hRa3 (show rpr u3 ((l ++ (spL (fun i => vn v (a + i)) (k + 1))).take 400) from (show ((spL (fun i => vn v (a + i)) k) ++ ([32])) ++ (numL (vn v (a + k))) = spL (fun i => vn v (a + i)) (k + 1) by show _ = spL (fun i => vn v (a + i)) k ++ ((if k = 0 then [] else [32]) ++ numL (vn v (a + k))); first | (rw [if_pos (show k = 0 by omega)]; simp only [List.append_assoc, List.nil_append]) | (rw [if_neg (show ¬ k = 0 by omega)]; simp only [List.append_assoc])) ▸ hPa3))
  exact pg_sub (L := [(0, .ref 102), (1, ii (hd : Int)), (2, ii ((a : Nat) : Int)), (3, ii ((n : Nat) : Int)), (4, ii ((0 : Nat) : Int))]) rfl rfl rfl (lp3 _ 0 s rfl (Nat.zero_le _) (prR_rf s) (by rw [show l ++ (spL (fun i => vn v (a + i)) 0) = l from List.append_nil l, rpr_take hP]; exact hP))
set_option maxRecDepth 20000 in
theorem pm_X12_putValue : mj_mmof pg_ms 294 = some ((⟨"ArrayCalculatorModel", "putValue", "(I)V"⟩, prog_14_method_46_code, 5, (Option.none : Option Jvm.ClassFile.FieldType)), 12, false, mj_dec prog_14_method_46_code) := rfl
theorem dm_X12_putValue_0 : mj_dec prog_14_method_46_code 0 = some (.aload_n 0, 1) := by decide +kernel
theorem dm_X12_putValue_1 : mj_dec prog_14_method_46_code 1 = some (.iload_n 1, 1) := by decide +kernel
theorem dm_X12_putValue_2 : mj_dec prog_14_method_46_code 2 = some (.invokevirtual 146, 3) := by decide +kernel
theorem dm_X12_putValue_5 : mj_dec prog_14_method_46_code 5 = some (.istore_n 2, 1) := by decide +kernel
theorem dm_X12_putValue_6 : mj_dec prog_14_method_46_code 6 = some (.aload_n 0, 1) := by decide +kernel
theorem dm_X12_putValue_7 : mj_dec prog_14_method_46_code 7 = some (.iload_n 1, 1) := by decide +kernel
theorem dm_X12_putValue_8 : mj_dec prog_14_method_46_code 8 = some (.invokevirtual 134, 3) := by decide +kernel
theorem dm_X12_putValue_11 : mj_dec prog_14_method_46_code 11 = some (.istore_n 3, 1) := by decide +kernel
theorem dm_X12_putValue_12 : mj_dec prog_14_method_46_code 12 = some (.iload_n 2, 1) := by decide +kernel
theorem dm_X12_putValue_13 : mj_dec prog_14_method_46_code 13 = some (.tableswitch 316 0 7 #[47, 60, 165, 60, 316, 316, 205, 264], 47) := by decide +kernel
theorem dm_X12_putValue_60 : mj_dec prog_14_method_46_code 60 = some (.aload_n 0, 1) := by decide +kernel
theorem dm_X12_putValue_61 : mj_dec prog_14_method_46_code 61 = some (.aload_n 0, 1) := by decide +kernel
theorem dm_X12_putValue_62 : mj_dec prog_14_method_46_code 62 = some (.iload_n 1, 1) := by decide +kernel
theorem dm_X12_putValue_63 : mj_dec prog_14_method_46_code 63 = some (.iconst 0, 1) := by decide +kernel
theorem dm_X12_putValue_64 : mj_dec prog_14_method_46_code 64 = some (.invokevirtual 138, 3) := by decide +kernel
theorem dm_X12_putValue_67 : mj_dec prog_14_method_46_code 67 = some (.invokevirtual 289, 3) := by decide +kernel
theorem dm_X12_putValue_70 : mj_dec prog_14_method_46_code 70 = some (.goto 297, 3) := by decide +kernel
theorem dm_X12_putValue_73 : mj_dec prog_14_method_46_code 73 = some (.iload_n 2, 1) := by decide +kernel
theorem dm_X12_putValue_74 : mj_dec prog_14_method_46_code 74 = some (.iconst 3, 1) := by decide +kernel
theorem dm_X12_putValue_75 : mj_dec prog_14_method_46_code 75 = some (.if_icmp .ne 14, 3) := by decide +kernel
theorem dm_X12_putValue_78 : mj_dec prog_14_method_46_code 78 = some (.iload_n 3, 1) := by decide +kernel
theorem dm_X12_putValue_79 : mj_dec prog_14_method_46_code 79 = some (.iconst 1, 1) := by decide +kernel
theorem dm_X12_putValue_80 : mj_dec prog_14_method_46_code 80 = some (.if_icmp .ne 9, 3) := by decide +kernel
theorem dm_X12_putValue_83 : mj_dec prog_14_method_46_code 83 = some (.aload_n 0, 1) := by decide +kernel
theorem dm_X12_putValue_84 : mj_dec prog_14_method_46_code 84 = some (.bipush 44, 2) := by decide +kernel
theorem dm_X12_putValue_86 : mj_dec prog_14_method_46_code 86 = some (.invokevirtual 284, 3) := by decide +kernel
theorem dm_X12_putValue_89 : mj_dec prog_14_method_46_code 89 = some (.aload_n 0, 1) := by decide +kernel
theorem dm_X12_putValue_90 : mj_dec prog_14_method_46_code 90 = some (.bipush 39, 2) := by decide +kernel
theorem dm_X12_putValue_92 : mj_dec prog_14_method_46_code 92 = some (.invokevirtual 284, 3) := by decide +kernel
theorem dm_X12_putValue_95 : mj_dec prog_14_method_46_code 95 = some (.iconst 0, 1) := by decide +kernel
theorem dm_X12_putValue_96 : mj_dec prog_14_method_46_code 96 = some (.istore 4, 2) := by decide +kernel
theorem dm_X12_putValue_98 : mj_dec prog_14_method_46_code 98 = some (.iload 4, 2) := by decide +kernel
theorem dm_X12_putValue_100 : mj_dec prog_14_method_46_code 100 = some (.iload_n 3, 1) := by decide +kernel
theorem dm_X12_putValue_101 : mj_dec prog_14_method_46_code 101 = some (.if_icmp .ge 68, 3) := by decide +kernel
theorem dm_X12_putValue_104 : mj_dec prog_14_method_46_code 104 = some (.aload_n 0, 1) := by decide +kernel
theorem dm_X12_putValue_105 : mj_dec prog_14_method_46_code 105 = some (.aload_n 0, 1) := by decide +kernel
theorem dm_X12_putValue_106 : mj_dec prog_14_method_46_code 106 = some (.iload_n 1, 1) := by decide +kernel
theorem dm_X12_putValue_107 : mj_dec prog_14_method_46_code 107 = some (.iload 4, 2) := by decide +kernel
theorem dm_X12_putValue_109 : mj_dec prog_14_method_46_code 109 = some (.invokevirtual 138, 3) := by decide +kernel
theorem dm_X12_putValue_112 : mj_dec prog_14_method_46_code 112 = some (.ldc2_w 271, 3) := by decide +kernel
theorem dm_X12_putValue_115 : mj_dec prog_14_method_46_code 115 = some (.lcmp, 1) := by decide +kernel
theorem dm_X12_putValue_116 : mj_dec prog_14_method_46_code 116 = some (.ifCond .lt 31, 3) := by decide +kernel
theorem dm_X12_putValue_119 : mj_dec prog_14_method_46_code 119 = some (.aload_n 0, 1) := by decide +kernel
theorem dm_X12_putValue_120 : mj_dec prog_14_method_46_code 120 = some (.iload_n 1, 1) := by decide +kernel
theorem dm_X12_putValue_121 : mj_dec prog_14_method_46_code 121 = some (.iload 4, 2) := by decide +kernel
theorem dm_X12_putValue_123 : mj_dec prog_14_method_46_code 123 = some (.invokevirtual 138, 3) := by decide +kernel
theorem dm_X12_putValue_126 : mj_dec prog_14_method_46_code 126 = some (.ldc2_w 293, 3) := by decide +kernel
theorem dm_X12_putValue_129 : mj_dec prog_14_method_46_code 129 = some (.lcmp, 1) := by decide +kernel
theorem dm_X12_putValue_130 : mj_dec prog_14_method_46_code 130 = some (.ifCond .gt 17, 3) := by decide +kernel
theorem dm_X12_putValue_133 : mj_dec prog_14_method_46_code 133 = some (.aload_n 0, 1) := by decide +kernel
theorem dm_X12_putValue_134 : mj_dec prog_14_method_46_code 134 = some (.iload_n 1, 1) := by decide +kernel
theorem dm_X12_putValue_135 : mj_dec prog_14_method_46_code 135 = some (.iload 4, 2) := by decide +kernel
theorem dm_X12_putValue_137 : mj_dec prog_14_method_46_code 137 = some (.invokevirtual 138, 3) := by decide +kernel
theorem dm_X12_putValue_140 : mj_dec prog_14_method_46_code 140 = some (.ldc2_w 295, 3) := by decide +kernel
theorem dm_X12_putValue_143 : mj_dec prog_14_method_46_code 143 = some (.lcmp, 1) := by decide +kernel
theorem dm_X12_putValue_144 : mj_dec prog_14_method_46_code 144 = some (.ifCond .ne 8, 3) := by decide +kernel
theorem dm_X12_putValue_147 : mj_dec prog_14_method_46_code 147 = some (.bipush 46, 2) := by decide +kernel
theorem dm_X12_putValue_149 : mj_dec prog_14_method_46_code 149 = some (.goto 11, 3) := by decide +kernel
theorem dm_X12_putValue_152 : mj_dec prog_14_method_46_code 152 = some (.aload_n 0, 1) := by decide +kernel
theorem dm_X12_putValue_153 : mj_dec prog_14_method_46_code 153 = some (.iload_n 1, 1) := by decide +kernel
theorem dm_X12_putValue_154 : mj_dec prog_14_method_46_code 154 = some (.iload 4, 2) := by decide +kernel
theorem dm_X12_putValue_156 : mj_dec prog_14_method_46_code 156 = some (.invokevirtual 138, 3) := by decide +kernel
theorem dm_X12_putValue_159 : mj_dec prog_14_method_46_code 159 = some (.l2i, 1) := by decide +kernel
theorem dm_X12_putValue_160 : mj_dec prog_14_method_46_code 160 = some (.invokevirtual 284, 3) := by decide +kernel
theorem dm_X12_putValue_163 : mj_dec prog_14_method_46_code 163 = some (.iinc 4 1, 3) := by decide +kernel
theorem dm_X12_putValue_166 : mj_dec prog_14_method_46_code 166 = some (.goto (-68), 3) := by decide +kernel
theorem dm_X12_putValue_169 : mj_dec prog_14_method_46_code 169 = some (.aload_n 0, 1) := by decide +kernel
theorem dm_X12_putValue_170 : mj_dec prog_14_method_46_code 170 = some (.bipush 39, 2) := by decide +kernel
theorem dm_X12_putValue_172 : mj_dec prog_14_method_46_code 172 = some (.invokevirtual 284, 3) := by decide +kernel
theorem dm_X12_putValue_175 : mj_dec prog_14_method_46_code 175 = some (.goto 192, 3) := by decide +kernel
theorem dm_X12_putValue_178 : mj_dec prog_14_method_46_code 178 = some (.iconst 0, 1) := by decide +kernel
theorem dm_X12_putValue_179 : mj_dec prog_14_method_46_code 179 = some (.istore 4, 2) := by decide +kernel
theorem dm_X12_putValue_181 : mj_dec prog_14_method_46_code 181 = some (.iload 4, 2) := by decide +kernel
theorem dm_X12_putValue_183 : mj_dec prog_14_method_46_code 183 = some (.iload_n 3, 1) := by decide +kernel
theorem dm_X12_putValue_184 : mj_dec prog_14_method_46_code 184 = some (.if_icmp .ge 25, 3) := by decide +kernel
theorem dm_X12_putValue_187 : mj_dec prog_14_method_46_code 187 = some (.aload_n 0, 1) := by decide +kernel
theorem dm_X12_putValue_188 : mj_dec prog_14_method_46_code 188 = some (.ldc2_w 275, 3) := by decide +kernel
theorem dm_X12_putValue_191 : mj_dec prog_14_method_46_code 191 = some (.aload_n 0, 1) := by decide +kernel
theorem dm_X12_putValue_192 : mj_dec prog_14_method_46_code 192 = some (.iload_n 1, 1) := by decide +kernel
theorem dm_X12_putValue_193 : mj_dec prog_14_method_46_code 193 = some (.iload 4, 2) := by decide +kernel
theorem dm_X12_putValue_195 : mj_dec prog_14_method_46_code 195 = some (.invokevirtual 138, 3) := by decide +kernel
theorem dm_X12_putValue_198 : mj_dec prog_14_method_46_code 198 = some (.ladd, 1) := by decide +kernel
theorem dm_X12_putValue_199 : mj_dec prog_14_method_46_code 199 = some (.l2i, 1) := by decide +kernel
theorem dm_X12_putValue_200 : mj_dec prog_14_method_46_code 200 = some (.invokevirtual 284, 3) := by decide +kernel
theorem dm_X12_putValue_203 : mj_dec prog_14_method_46_code 203 = some (.iinc 4 1, 3) := by decide +kernel
theorem dm_X12_putValue_206 : mj_dec prog_14_method_46_code 206 = some (.goto (-25), 3) := by decide +kernel
theorem dm_X12_putValue_209 : mj_dec prog_14_method_46_code 209 = some (.aload_n 0, 1) := by decide +kernel
theorem dm_X12_putValue_210 : mj_dec prog_14_method_46_code 210 = some (.bipush 98, 2) := by decide +kernel
theorem dm_X12_putValue_212 : mj_dec prog_14_method_46_code 212 = some (.invokevirtual 284, 3) := by decide +kernel
theorem dm_X12_putValue_215 : mj_dec prog_14_method_46_code 215 = some (.goto 152, 3) := by decide +kernel
theorem dm_X12_putValue_218 : mj_dec prog_14_method_46_code 218 = some (.aload_n 0, 1) := by decide +kernel
theorem dm_X12_putValue_219 : mj_dec prog_14_method_46_code 219 = some (.bipush 91, 2) := by decide +kernel
theorem dm_X12_putValue_221 : mj_dec prog_14_method_46_code 221 = some (.invokevirtual 284, 3) := by decide +kernel
theorem dm_X12_putValue_224 : mj_dec prog_14_method_46_code 224 = some (.iconst 0, 1) := by decide +kernel
theorem dm_X12_putValue_225 : mj_dec prog_14_method_46_code 225 = some (.istore 4, 2) := by decide +kernel
theorem dm_X12_putValue_227 : mj_dec prog_14_method_46_code 227 = some (.iload 4, 2) := by decide +kernel
theorem dm_X12_putValue_229 : mj_dec prog_14_method_46_code 229 = some (.iload_n 3, 1) := by decide +kernel
theorem dm_X12_putValue_230 : mj_dec prog_14_method_46_code 230 = some (.if_icmp .ge 38, 3) := by decide +kernel
theorem dm_X12_putValue_233 : mj_dec prog_14_method_46_code 233 = some (.iload 4, 2) := by decide +kernel
theorem dm_X12_putValue_235 : mj_dec prog_14_method_46_code 235 = some (.ifCond .le 9, 3) := by decide +kernel
theorem dm_X12_putValue_238 : mj_dec prog_14_method_46_code 238 = some (.aload_n 0, 1) := by decide +kernel
theorem dm_X12_putValue_239 : mj_dec prog_14_method_46_code 239 = some (.bipush 59, 2) := by decide +kernel
theorem dm_X12_putValue_241 : mj_dec prog_14_method_46_code 241 = some (.invokevirtual 284, 3) := by decide +kernel
theorem dm_X12_putValue_244 : mj_dec prog_14_method_46_code 244 = some (.aload_n 0, 1) := by decide +kernel
theorem dm_X12_putValue_245 : mj_dec prog_14_method_46_code 245 = some (.iload_n 1, 1) := by decide +kernel
theorem dm_X12_putValue_246 : mj_dec prog_14_method_46_code 246 = some (.iload 4, 2) := by decide +kernel
theorem dm_X12_putValue_248 : mj_dec prog_14_method_46_code 248 = some (.aload_n 0, 1) := by decide +kernel
theorem dm_X12_putValue_249 : mj_dec prog_14_method_46_code 249 = some (.iload_n 1, 1) := by decide +kernel
theorem dm_X12_putValue_250 : mj_dec prog_14_method_46_code 250 = some (.invokevirtual 156, 3) := by decide +kernel
theorem dm_X12_putValue_253 : mj_dec prog_14_method_46_code 253 = some (.imul, 1) := by decide +kernel
theorem dm_X12_putValue_254 : mj_dec prog_14_method_46_code 254 = some (.aload_n 0, 1) := by decide +kernel
theorem dm_X12_putValue_255 : mj_dec prog_14_method_46_code 255 = some (.iload_n 1, 1) := by decide +kernel
theorem dm_X12_putValue_256 : mj_dec prog_14_method_46_code 256 = some (.invokevirtual 156, 3) := by decide +kernel
theorem dm_X12_putValue_259 : mj_dec prog_14_method_46_code 259 = some (.invokevirtual 297, 3) := by decide +kernel
theorem dm_X12_putValue_262 : mj_dec prog_14_method_46_code 262 = some (.iinc 4 1, 3) := by decide +kernel
theorem dm_X12_putValue_265 : mj_dec prog_14_method_46_code 265 = some (.goto (-38), 3) := by decide +kernel
theorem dm_X12_putValue_268 : mj_dec prog_14_method_46_code 268 = some (.aload_n 0, 1) := by decide +kernel
theorem dm_X12_putValue_269 : mj_dec prog_14_method_46_code 269 = some (.bipush 93, 2) := by decide +kernel
theorem dm_X12_putValue_271 : mj_dec prog_14_method_46_code 271 = some (.invokevirtual 284, 3) := by decide +kernel
theorem dm_X12_putValue_274 : mj_dec prog_14_method_46_code 274 = some (.goto 93, 3) := by decide +kernel
theorem dm_X12_putValue_277 : mj_dec prog_14_method_46_code 277 = some (.aload_n 0, 1) := by decide +kernel
theorem dm_X12_putValue_278 : mj_dec prog_14_method_46_code 278 = some (.bipush 40, 2) := by decide +kernel
theorem dm_X12_putValue_280 : mj_dec prog_14_method_46_code 280 = some (.invokevirtual 284, 3) := by decide +kernel
theorem dm_X12_putValue_283 : mj_dec prog_14_method_46_code 283 = some (.iconst 0, 1) := by decide +kernel
theorem dm_X12_putValue_284 : mj_dec prog_14_method_46_code 284 = some (.istore 4, 2) := by decide +kernel
theorem dm_X12_putValue_286 : mj_dec prog_14_method_46_code 286 = some (.iload 4, 2) := by decide +kernel
theorem dm_X12_putValue_288 : mj_dec prog_14_method_46_code 288 = some (.iload_n 3, 1) := by decide +kernel
theorem dm_X12_putValue_289 : mj_dec prog_14_method_46_code 289 = some (.if_icmp .ge 31, 3) := by decide +kernel
theorem dm_X12_putValue_292 : mj_dec prog_14_method_46_code 292 = some (.iload 4, 2) := by decide +kernel
theorem dm_X12_putValue_294 : mj_dec prog_14_method_46_code 294 = some (.ifCond .le 9, 3) := by decide +kernel
theorem dm_X12_putValue_297 : mj_dec prog_14_method_46_code 297 = some (.aload_n 0, 1) := by decide +kernel
theorem dm_X12_putValue_298 : mj_dec prog_14_method_46_code 298 = some (.bipush 59, 2) := by decide +kernel
theorem dm_X12_putValue_300 : mj_dec prog_14_method_46_code 300 = some (.invokevirtual 284, 3) := by decide +kernel
theorem dm_X12_putValue_303 : mj_dec prog_14_method_46_code 303 = some (.aload_n 0, 1) := by decide +kernel
theorem dm_X12_putValue_304 : mj_dec prog_14_method_46_code 304 = some (.aload_n 0, 1) := by decide +kernel
theorem dm_X12_putValue_305 : mj_dec prog_14_method_46_code 305 = some (.iload_n 1, 1) := by decide +kernel
theorem dm_X12_putValue_306 : mj_dec prog_14_method_46_code 306 = some (.iload 4, 2) := by decide +kernel
theorem dm_X12_putValue_308 : mj_dec prog_14_method_46_code 308 = some (.invokevirtual 153, 3) := by decide +kernel
theorem dm_X12_putValue_311 : mj_dec prog_14_method_46_code 311 = some (.invokevirtual 301, 3) := by decide +kernel
theorem dm_X12_putValue_314 : mj_dec prog_14_method_46_code 314 = some (.iinc 4 1, 3) := by decide +kernel
theorem dm_X12_putValue_317 : mj_dec prog_14_method_46_code 317 = some (.goto (-31), 3) := by decide +kernel
theorem dm_X12_putValue_320 : mj_dec prog_14_method_46_code 320 = some (.aload_n 0, 1) := by decide +kernel
theorem dm_X12_putValue_321 : mj_dec prog_14_method_46_code 321 = some (.bipush 41, 2) := by decide +kernel
theorem dm_X12_putValue_323 : mj_dec prog_14_method_46_code 323 = some (.invokevirtual 284, 3) := by decide +kernel
theorem dm_X12_putValue_326 : mj_dec prog_14_method_46_code 326 = some (.goto 41, 3) := by decide +kernel
theorem dm_X12_putValue_329 : mj_dec prog_14_method_46_code 329 = some (.iload_n 3, 1) := by decide +kernel
theorem dm_X12_putValue_330 : mj_dec prog_14_method_46_code 330 = some (.ifCond .ne 9, 3) := by decide +kernel
theorem dm_X12_putValue_333 : mj_dec prog_14_method_46_code 333 = some (.aload_n 0, 1) := by decide +kernel
theorem dm_X12_putValue_334 : mj_dec prog_14_method_46_code 334 = some (.bipush 33, 2) := by decide +kernel
theorem dm_X12_putValue_336 : mj_dec prog_14_method_46_code 336 = some (.invokevirtual 284, 3) := by decide +kernel
theorem dm_X12_putValue_339 : mj_dec prog_14_method_46_code 339 = some (.iload_n 3, 1) := by decide +kernel
theorem dm_X12_putValue_340 : mj_dec prog_14_method_46_code 340 = some (.ifCond .ne 9, 3) := by decide +kernel
theorem dm_X12_putValue_343 : mj_dec prog_14_method_46_code 343 = some (.aload_n 0, 1) := by decide +kernel
theorem dm_X12_putValue_344 : mj_dec prog_14_method_46_code 344 = some (.bipush 48, 2) := by decide +kernel
theorem dm_X12_putValue_346 : mj_dec prog_14_method_46_code 346 = some (.invokevirtual 284, 3) := by decide +kernel
theorem dm_X12_putValue_349 : mj_dec prog_14_method_46_code 349 = some (.iload_n 3, 1) := by decide +kernel
theorem dm_X12_putValue_350 : mj_dec prog_14_method_46_code 350 = some (.iconst 1, 1) := by decide +kernel
theorem dm_X12_putValue_351 : mj_dec prog_14_method_46_code 351 = some (.if_icmp .ne 9, 3) := by decide +kernel
theorem dm_X12_putValue_354 : mj_dec prog_14_method_46_code 354 = some (.aload_n 0, 1) := by decide +kernel
theorem dm_X12_putValue_355 : mj_dec prog_14_method_46_code 355 = some (.bipush 44, 2) := by decide +kernel
theorem dm_X12_putValue_357 : mj_dec prog_14_method_46_code 357 = some (.invokevirtual 284, 3) := by decide +kernel
theorem dm_X12_putValue_360 : mj_dec prog_14_method_46_code 360 = some (.aload_n 0, 1) := by decide +kernel
theorem dm_X12_putValue_361 : mj_dec prog_14_method_46_code 361 = some (.iload_n 1, 1) := by decide +kernel
theorem dm_X12_putValue_362 : mj_dec prog_14_method_46_code 362 = some (.iconst 0, 1) := by decide +kernel
theorem dm_X12_putValue_363 : mj_dec prog_14_method_46_code 363 = some (.iload_n 3, 1) := by decide +kernel
theorem dm_X12_putValue_364 : mj_dec prog_14_method_46_code 364 = some (.invokevirtual 297, 3) := by decide +kernel
theorem dm_X12_putValue_367 : mj_dec prog_14_method_46_code 367 = some (.return_, 1) := by decide +kernel
theorem r_putValue_ {xt : mj_X} {pre post : mj_H} (hm : pre.length = 102) : ∀ (e : Nat) {d hd : Nat} {s : RS} {v : VV} {l : List Int}, 2 * e + 6 ≤ d → rpr s l → rB s → rv s e hd v → pgN xt d 294 [.ref 102, ii (hd : Int)] (rS pre post s) (fun h' => ∃ t, h' = rS pre post t ∧ prR s t ∧ rpr t ((l ++ vaL e v).take 400)) := by
  intro e
  induction e with
  | zero => intro d hd s v l _ _ _ hv; exact hv.elim
  | succ e ih =>
    intro d hd s v l hd1 hP hB hv
    have hB0 := hB
    obtain ⟨hB1, hB2, hB3, hB4⟩ := hB
    obtain ⟨fr, hfr, hsh, hlt, hcl, hvk, hvm, hvc, hvq, hvcl⟩ := rv_val hv
    have h32 : (Int64.ofInt 32).toInt = 32 := by decide
    have h126 : (Int64.ofInt 126).toInt = 126 := by decide
    have h39 : (Int64.ofInt 39).toInt = 39 := by decide
    have h48 : (Int64.ofInt 48).toInt = 48 := by decide
    have hq5 : vk v ≤ 5 → vq v = vm v := vq_m
    have hcw := vw1_c hv.1
    have hq1 : vk v ≤ 1 → vm v = 1 := fun z => (hv.1.2.1 z).1
    refine x_enter pm_X12_putValue (L0 := [(0, .ref 102), (1, ii (hd : Int))]) rfl (Nat.le_of_ble_eq_true rfl) (by omega) ?_
    refine me1 (pc' := 1) (L' := [(0, .ref 102), (1, ii (hd : Int))]) (S' := [.ref 102]) dm_X12_putValue_0 rfl rfl rfl rfl ?_
    refine me1 (pc' := 2) (L' := [(0, .ref 102), (1, ii (hd : Int))]) (S' := [ii (hd : Int), .ref 102]) dm_X12_putValue_1 rfl rfl rfl rfl ?_
    refine x_cp (pc' := 5) (v := ii (vk v : Int)) (rest := []) dm_X12_putValue_2 rfl (q_inv (As := [ii (hd : Int)]) (S := []) hm rfl rfl rfl) rfl rfl rfl (r_kindOf_ hm (by omega) hB0 hv) ?_
    refine me1 (pc' := 6) (L' := [(2, ii (vk v : Int)), (0, .ref 102), (1, ii (hd : Int))]) (S' := []) dm_X12_putValue_5 rfl rfl rfl rfl ?_
    refine me1 (pc' := 7) (L' := [(2, ii (vk v : Int)), (0, .ref 102), (1, ii (hd : Int))]) (S' := [.ref 102]) dm_X12_putValue_6 rfl rfl rfl rfl ?_
    refine me1 (pc' := 8) (L' := [(2, ii (vk v : Int)), (0, .ref 102), (1, ii (hd : Int))]) (S' := [ii (hd : Int), .ref 102]) dm_X12_putValue_7 rfl rfl rfl rfl ?_
    refine x_cp (pc' := 11) (v := ii (vm v : Int)) (rest := []) dm_X12_putValue_8 rfl (q_inv (As := [ii (hd : Int)]) (S := []) hm rfl rfl rfl) rfl rfl rfl (r_many_ hm (by omega) hB0 hv) ?_
    refine me1 (pc' := 12) (L' := [(3, ii (vm v : Int)), (2, ii (vk v : Int)), (0, .ref 102), (1, ii (hd : Int))]) (S' := []) dm_X12_putValue_11 rfl rfl rfl rfl ?_
    refine me1 (pc' := 13) (L' := [(3, ii (vm v : Int)), (2, ii (vk v : Int)), (0, .ref 102), (1, ii (hd : Int))]) (S' := [ii (vk v : Int)]) dm_X12_putValue_12 rfl rfl rfl rfl ?_
    refine y_sw (a := (vk v : Int)) (0) (t := 60) (i := .tableswitch 316 0 7 #[47, 60, 165, 60, 316, 316, 205, 264]) (len := 47) dm_X12_putValue_13 rfl rfl rfl (by omega) (by decide) (fun hb1 => ?_) (fun hb1 => ?_)
    · refine me1 (pc' := 61) (L' := [(3, ii (vm v : Int)), (2, ii (vk v : Int)), (0, .ref 102), (1, ii (hd : Int))]) (S' := [.ref 102]) dm_X12_putValue_60 rfl rfl rfl rfl ?_
      refine me1 (pc' := 62) (L' := [(3, ii (vm v : Int)), (2, ii (vk v : Int)), (0, .ref 102), (1, ii (hd : Int))]) (S' := [.ref 102, .ref 102]) dm_X12_putValue_61 rfl rfl rfl rfl ?_
      refine me1 (pc' := 63) (L' := [(3, ii (vm v : Int)), (2, ii (vk v : Int)), (0, .ref 102), (1, ii (hd : Int))]) (S' := [ii (hd : Int), .ref 102, .ref 102]) dm_X12_putValue_62 rfl rfl rfl rfl ?_
      refine me0 (pc' := 64) (S' := [ii 0, ii (hd : Int), .ref 102, .ref 102]) dm_X12_putValue_63 rfl rfl rfl rfl ?_
      refine x_cp (pc' := 67) (v := .long (vn v 0)) (rest := [.ref 102]) dm_X12_putValue_64 rfl (q_inv (As := [ii (hd : Int), ii 0]) (S := [.ref 102]) hm rfl rfl rfl) rfl rfl rfl (r_number_ (k := 0) hm (by omega) hB0 hv (by omega) (by omega)) ?_
      refine x_cn (pc' := 70) (rest := []) dm_X12_putValue_67 rfl (q_inv (As := [.long (vn v 0)]) (S := []) hm rfl rfl rfl) rfl rfl rfl (r_putNumber_ hm (by omega) hP) ?_
      rintro _ ⟨u1, rfl, hRa1, hPa1⟩
      have hva1 := rv_pr hRa1 hv
      have hBa1 := rB_pr hRa1 hB0
      refine me2 (pc' := 367) (S' := []) dm_X12_putValue_70 rfl rfl rfl ?_
      refine y_ret (r := none) dm_X12_putValue_367 rfl rfl rfl ?_
      refine ⟨rfl, u1, rfl, hRa1, ?_⟩
      rw [show vaL (e + 1) v = numL (vn v 0) by first | (exfalso; omega) | (rw [vaL_s]; first | rw [if_pos (by omega)] | (rw [if_neg (by omega), if_pos (by omega)]; unfold sgnL; simp only [List.append_assoc]) | rw [if_neg (by omega), if_neg (by omega), if_pos (by omega)] | (rw [if_neg (by omega), if_neg (by omega), if_neg (by omega), if_pos (by omega)]; simp only [List.append_assoc]) | (rw [if_neg (by omega), if_neg (by omega), if_neg (by omega), if_neg (by omega), if_pos (by omega)]; simp only [List.append_assoc]) | (rw [if_neg (by omega), if_neg (by omega), if_neg (by omega), if_neg (by omega), if_neg (by omega), ← spL_row (by omega) (by omega)]; simp only [Nat.zero_add]; first | (rw [if_pos (by omega)]; rfl) | (rw [if_neg (by omega), if_pos (by omega)]) | (rw [if_neg (by omega), if_neg (by omega)]; rfl)))]
      exact hPa1
    refine y_sw (a := (vk v : Int)) (1) (t := 73) (i := .tableswitch 316 0 7 #[47, 60, 165, 60, 316, 316, 205, 264]) (len := 47) dm_X12_putValue_13 rfl rfl rfl (by omega) (by decide) (fun hb2 => ?_) (fun hb2 => ?_)
    · refine me1 (pc' := 74) (L' := [(3, ii (vm v : Int)), (2, ii (vk v : Int)), (0, .ref 102), (1, ii (hd : Int))]) (S' := [ii (vk v : Int)]) dm_X12_putValue_73 rfl rfl rfl rfl ?_
      refine me0 (pc' := 75) (S' := [ii 3, ii (vk v : Int)]) dm_X12_putValue_74 rfl rfl rfl rfl ?_
      refine y_2ne (a := (vk v : Int)) (b := 3) (t := 89) (pc' := 78) dm_X12_putValue_75 rfl rfl (by omega) (fun hb3 => ?_) (fun hb3 => ?_)
      · have hpre : ((if vk v = 3 ∧ vm v = 1 then [44] else []) : List Int) = [] := if_neg (by omega)
        refine me1 (pc' := 90) (L' := [(3, ii (vm v : Int)), (2, ii (vk v : Int)), (0, .ref 102), (1, ii (hd : Int))]) (S' := [.ref 102]) dm_X12_putValue_89 rfl rfl rfl rfl ?_
        refine me0 (pc' := 92) (S' := [ii 39, .ref 102]) dm_X12_putValue_90 rfl rfl rfl rfl ?_
        refine x_cn (pc' := 95) (rest := []) dm_X12_putValue_92 rfl (q_inv (As := [ii 39]) (S := []) hm rfl rfl rfl) rfl rfl rfl (r_put2 hm (by omega) hP (by omega)) ?_
        rintro _ ⟨u2, rfl, hRa2, hPa2⟩
        have hva2 := rv_pr hRa2 hv
        have hBa2 := rB_pr hRa2 hB0
        refine me0 (pc' := 96) (S' := [ii 0]) dm_X12_putValue_95 rfl rfl rfl rfl ?_
        refine me1 (pc' := 98) (L' := [(4, ii 0), (3, ii (vm v : Int)), (2, ii (vk v : Int)), (0, .ref 102), (1, ii (hd : Int))]) (S' := []) dm_X12_putValue_96 rfl rfl rfl rfl ?_
        have lp98 : ∀ (n98 : Nat) (k : Nat) (t : RS), vm v - k = n98 → (k ≤ vm v) → (prR s t) → (rpr t ((l ++ ((((if vk v = 3 ∧ vm v = 1 then [44] else []) : List Int) ++ [39]) ++ sgsL v k)).take 400)) → pgE xt (d - 1) 12 5 false (Option.none : Option Jvm.ClassFile.FieldType) (mj_dec prog_14_method_46_code) 98 [(0, .ref 102), (1, ii (hd : Int)), (2, ii (vk v : Int)), (3, ii (vm v : Int)), (4, ii ((k : Nat) : Int))] [] (rI pre post t.1 t.2.1 t.2.2.1 t.2.2.2) (fun r h' => r = none ∧ ∃ t, h' = rS pre post t ∧ prR s t ∧ rpr t ((l ++ vaL (e + 1) v).take 400)) := by
          intro n98
          induction n98 using Nat.strongRecOn with
          | ind n98 ih98 =>
            intro k t hm98 hk hRt hPt
            have hvt := rv_pr hRt hv
            have hBt := rB_pr hRt hB0
            refine me1 (pc' := 100) (L' := [(0, .ref 102), (1, ii (hd : Int)), (2, ii (vk v : Int)), (3, ii (vm v : Int)), (4, ii ((k : Nat) : Int))]) (S' := [ii ((k : Nat) : Int)]) dm_X12_putValue_98 rfl rfl rfl rfl ?_
            refine me1 (pc' := 101) (L' := [(0, .ref 102), (1, ii (hd : Int)), (2, ii (vk v : Int)), (3, ii (vm v : Int)), (4, ii ((k : Nat) : Int))]) (S' := [ii (vm v : Int), ii ((k : Nat) : Int)]) dm_X12_putValue_100 rfl rfl rfl rfl ?_
            refine y_2ge (a := ((k : Nat) : Int)) (b := (vm v : Int)) (t := 169) (pc' := 104) dm_X12_putValue_101 rfl rfl (by omega) (fun hb4 => ?_) (fun hb4 => ?_)
            · refine me1 (pc' := 170) (L' := [(0, .ref 102), (1, ii (hd : Int)), (2, ii (vk v : Int)), (3, ii (vm v : Int)), (4, ii ((k : Nat) : Int))]) (S' := [.ref 102]) dm_X12_putValue_169 rfl rfl rfl rfl ?_
              refine me0 (pc' := 172) (S' := [ii 39, .ref 102]) dm_X12_putValue_170 rfl rfl rfl rfl ?_
              refine x_cn (pc' := 175) (rest := []) dm_X12_putValue_172 rfl (q_inv (As := [ii 39]) (S := []) hm rfl rfl rfl) rfl rfl rfl (r_put2 hm (by omega) hPt (by omega)) ?_
              rintro _ ⟨u3, rfl, hRa3, hPa3⟩
              rw [take_tk2] at hPa3
              replace hRa3 := prR_tr hRt hRa3
              have hva3 := rv_pr hRa3 hv
              have hBa3 := rB_pr hRa3 hB0
              refine me2 (pc' := 367) (S' := []) dm_X12_putValue_175 rfl rfl rfl ?_
              refine y_ret (r := none) dm_X12_putValue_367 rfl rfl rfl ?_
              have hkq : k = vm v := by omega
              rw [hkq] at hPa3
              refine ⟨rfl, u3, rfl, hRa3, ?_⟩
              rw [show vaL (e + 1) v = ((((if vk v = 3 ∧ vm v = 1 then [44] else []) : List Int) ++ [39]) ++ sgsL v (vm v)) ++ ([39]) by first | (exfalso; omega) | (rw [vaL_s]; first | rw [if_pos (by omega)] | (rw [if_neg (by omega), if_pos (by omega)]; unfold sgnL; simp only [List.append_assoc]) | rw [if_neg (by omega), if_neg (by omega), if_pos (by omega)] | (rw [if_neg (by omega), if_neg (by omega), if_neg (by omega), if_pos (by omega)]; simp only [List.append_assoc]) | (rw [if_neg (by omega), if_neg (by omega), if_neg (by omega), if_neg (by omega), if_pos (by omega)]; simp only [List.append_assoc]) | (rw [if_neg (by omega), if_neg (by omega), if_neg (by omega), if_neg (by omega), if_neg (by omega), ← spL_row (by omega) (by omega)]; simp only [Nat.zero_add]; first | (rw [if_pos (by omega)]; rfl) | (rw [if_neg (by omega), if_pos (by omega)]) | (rw [if_neg (by omega), if_neg (by omega)]; rfl)))]
              exact hPa3
            · refine me1 (pc' := 105) (L' := [(0, .ref 102), (1, ii (hd : Int)), (2, ii (vk v : Int)), (3, ii (vm v : Int)), (4, ii ((k : Nat) : Int))]) (S' := [.ref 102]) dm_X12_putValue_104 rfl rfl rfl rfl ?_
              refine me1 (pc' := 106) (L' := [(0, .ref 102), (1, ii (hd : Int)), (2, ii (vk v : Int)), (3, ii (vm v : Int)), (4, ii ((k : Nat) : Int))]) (S' := [.ref 102, .ref 102]) dm_X12_putValue_105 rfl rfl rfl rfl ?_
              refine me1 (pc' := 107) (L' := [(0, .ref 102), (1, ii (hd : Int)), (2, ii (vk v : Int)), (3, ii (vm v : Int)), (4, ii ((k : Nat) : Int))]) (S' := [ii (hd : Int), .ref 102, .ref 102]) dm_X12_putValue_106 rfl rfl rfl rfl ?_
              refine me1 (pc' := 109) (L' := [(0, .ref 102), (1, ii (hd : Int)), (2, ii (vk v : Int)), (3, ii (vm v : Int)), (4, ii ((k : Nat) : Int))]) (S' := [ii ((k : Nat) : Int), ii (hd : Int), .ref 102, .ref 102]) dm_X12_putValue_107 rfl rfl rfl rfl ?_
              refine x_cp (pc' := 112) (v := .long (vn v k)) (rest := [.ref 102]) dm_X12_putValue_109 rfl (q_inv (As := [ii (hd : Int), ii ((k : Nat) : Int)]) (S := [.ref 102]) hm rfl rfl rfl) rfl rfl rfl (r_number_ (k := k) hm (by omega) hBt hvt (by omega) (by omega)) ?_
              refine me3 (pc' := 115) (S' := [.long (Int64.ofInt 32), .long (vn v k), .ref 102]) dm_X12_putValue_112 rfl rfl rfl rfl ?_
              refine y_llt (x := vn v k) (y := Int64.ofInt 32) (t := 147) (pc1 := 116) (pc' := 119) dm_X12_putValue_115 rfl dm_X12_putValue_116 rfl rfl (fun hb5 => ?_) (fun hb5 => ?_)
              · rw [h32] at hb5
                refine me0 (pc' := 149) (S' := [ii 46, .ref 102]) dm_X12_putValue_147 rfl rfl rfl rfl ?_
                refine me2 (pc' := 160) (S' := [ii 46, .ref 102]) dm_X12_putValue_149 rfl rfl rfl ?_
                have hsg1 : sgn (vn v k) = 46 := by unfold sgn; rw [if_pos (by omega)]
                refine x_cn (pc' := 163) (rest := []) dm_X12_putValue_160 rfl (q_inv (As := [ii 46]) (S := []) hm rfl rfl rfl) rfl rfl rfl (r_put2 hm (by omega) hPt (by omega)) ?_
                rintro _ ⟨u4, rfl, hRa4, hPa4⟩
                rw [take_tk2] at hPa4
                replace hRa4 := prR_tr hRt hRa4
                have hva4 := rv_pr hRa4 hv
                have hBa4 := rB_pr hRa4 hB0
                refine y_iinc (pc' := 166) (L' := [(4, ii (((k : Nat) : Int) + 1)), (0, .ref 102), (1, ii (hd : Int)), (2, ii (vk v : Int)), (3, ii (vm v : Int))]) dm_X12_putValue_163 (y_incp (a := ((k : Nat) : Int)) (c := 1) rfl rfl (by decide)) rfl ?_
                refine me2 (pc' := 98) (S' := []) dm_X12_putValue_166 rfl rfl rfl ?_
                exact pg_sub (L := [(0, .ref 102), (1, ii (hd : Int)), (2, ii (vk v : Int)), (3, ii (vm v : Int)), (4, ii (((k + 1) : Nat) : Int))]) rfl rfl rfl (ih98 (vm v - (k + 1)) (by omega) (k + 1) u4 rfl (by omega) hRa4 (show rpr u4 ((l ++ ((((if vk v = 3 ∧ vm v = 1 then [44] else []) : List Int) ++ [39]) ++ sgsL v (k + 1))).take 400) from (show ((((if vk v = 3 ∧ vm v = 1 then [44] else []) : List Int) ++ [39]) ++ sgsL v k) ++ ([46]) = (((if vk v = 3 ∧ vm v = 1 then [44] else []) : List Int) ++ [39]) ++ sgsL v (k + 1) by show _ = (((if vk v = 3 ∧ vm v = 1 then [44] else []) : List Int) ++ [39]) ++ (sgsL v k ++ [sgn (vn v k)]); rw [hsg1, List.append_assoc]) ▸ hPa4))
              · rw [h32] at hb5
                refine me1 (pc' := 120) (L' := [(0, .ref 102), (1, ii (hd : Int)), (2, ii (vk v : Int)), (3, ii (vm v : Int)), (4, ii ((k : Nat) : Int))]) (S' := [.ref 102, .ref 102]) dm_X12_putValue_119 rfl rfl rfl rfl ?_
                refine me1 (pc' := 121) (L' := [(0, .ref 102), (1, ii (hd : Int)), (2, ii (vk v : Int)), (3, ii (vm v : Int)), (4, ii ((k : Nat) : Int))]) (S' := [ii (hd : Int), .ref 102, .ref 102]) dm_X12_putValue_120 rfl rfl rfl rfl ?_
                refine me1 (pc' := 123) (L' := [(0, .ref 102), (1, ii (hd : Int)), (2, ii (vk v : Int)), (3, ii (vm v : Int)), (4, ii ((k : Nat) : Int))]) (S' := [ii ((k : Nat) : Int), ii (hd : Int), .ref 102, .ref 102]) dm_X12_putValue_121 rfl rfl rfl rfl ?_
                refine x_cp (pc' := 126) (v := .long (vn v k)) (rest := [.ref 102]) dm_X12_putValue_123 rfl (q_inv (As := [ii (hd : Int), ii ((k : Nat) : Int)]) (S := [.ref 102]) hm rfl rfl rfl) rfl rfl rfl (r_number_ (k := k) hm (by omega) hBt hvt (by omega) (by omega)) ?_
                refine me3 (pc' := 129) (S' := [.long (Int64.ofInt 126), .long (vn v k), .ref 102]) dm_X12_putValue_126 rfl rfl rfl rfl ?_
                refine y_lgt (x := vn v k) (y := Int64.ofInt 126) (t := 147) (pc1 := 130) (pc' := 133) dm_X12_putValue_129 rfl dm_X12_putValue_130 rfl rfl (fun hb6 => ?_) (fun hb6 => ?_)
                · rw [h126] at hb6
                  refine me0 (pc' := 149) (S' := [ii 46, .ref 102]) dm_X12_putValue_147 rfl rfl rfl rfl ?_
                  refine me2 (pc' := 160) (S' := [ii 46, .ref 102]) dm_X12_putValue_149 rfl rfl rfl ?_
                  have hsg1 : sgn (vn v k) = 46 := by unfold sgn; rw [if_pos (by omega)]
                  refine x_cn (pc' := 163) (rest := []) dm_X12_putValue_160 rfl (q_inv (As := [ii 46]) (S := []) hm rfl rfl rfl) rfl rfl rfl (r_put2 hm (by omega) hPt (by omega)) ?_
                  rintro _ ⟨u5, rfl, hRa5, hPa5⟩
                  rw [take_tk2] at hPa5
                  replace hRa5 := prR_tr hRt hRa5
                  have hva5 := rv_pr hRa5 hv
                  have hBa5 := rB_pr hRa5 hB0
                  refine y_iinc (pc' := 166) (L' := [(4, ii (((k : Nat) : Int) + 1)), (0, .ref 102), (1, ii (hd : Int)), (2, ii (vk v : Int)), (3, ii (vm v : Int))]) dm_X12_putValue_163 (y_incp (a := ((k : Nat) : Int)) (c := 1) rfl rfl (by decide)) rfl ?_
                  refine me2 (pc' := 98) (S' := []) dm_X12_putValue_166 rfl rfl rfl ?_
                  exact pg_sub (L := [(0, .ref 102), (1, ii (hd : Int)), (2, ii (vk v : Int)), (3, ii (vm v : Int)), (4, ii (((k + 1) : Nat) : Int))]) rfl rfl rfl (ih98 (vm v - (k + 1)) (by omega) (k + 1) u5 rfl (by omega) hRa5 (show rpr u5 ((l ++ ((((if vk v = 3 ∧ vm v = 1 then [44] else []) : List Int) ++ [39]) ++ sgsL v (k + 1))).take 400) from (show ((((if vk v = 3 ∧ vm v = 1 then [44] else []) : List Int) ++ [39]) ++ sgsL v k) ++ ([46]) = (((if vk v = 3 ∧ vm v = 1 then [44] else []) : List Int) ++ [39]) ++ sgsL v (k + 1) by show _ = (((if vk v = 3 ∧ vm v = 1 then [44] else []) : List Int) ++ [39]) ++ (sgsL v k ++ [sgn (vn v k)]); rw [hsg1, List.append_assoc]) ▸ hPa5))
                · rw [h126] at hb6
                  refine me1 (pc' := 134) (L' := [(0, .ref 102), (1, ii (hd : Int)), (2, ii (vk v : Int)), (3, ii (vm v : Int)), (4, ii ((k : Nat) : Int))]) (S' := [.ref 102, .ref 102]) dm_X12_putValue_133 rfl rfl rfl rfl ?_
                  refine me1 (pc' := 135) (L' := [(0, .ref 102), (1, ii (hd : Int)), (2, ii (vk v : Int)), (3, ii (vm v : Int)), (4, ii ((k : Nat) : Int))]) (S' := [ii (hd : Int), .ref 102, .ref 102]) dm_X12_putValue_134 rfl rfl rfl rfl ?_
                  refine me1 (pc' := 137) (L' := [(0, .ref 102), (1, ii (hd : Int)), (2, ii (vk v : Int)), (3, ii (vm v : Int)), (4, ii ((k : Nat) : Int))]) (S' := [ii ((k : Nat) : Int), ii (hd : Int), .ref 102, .ref 102]) dm_X12_putValue_135 rfl rfl rfl rfl ?_
                  refine x_cp (pc' := 140) (v := .long (vn v k)) (rest := [.ref 102]) dm_X12_putValue_137 rfl (q_inv (As := [ii (hd : Int), ii ((k : Nat) : Int)]) (S := [.ref 102]) hm rfl rfl rfl) rfl rfl rfl (r_number_ (k := k) hm (by omega) hBt hvt (by omega) (by omega)) ?_
                  refine me3 (pc' := 143) (S' := [.long (Int64.ofInt 39), .long (vn v k), .ref 102]) dm_X12_putValue_140 rfl rfl rfl rfl ?_
                  refine y_lne (x := vn v k) (y := Int64.ofInt 39) (t := 152) (pc1 := 144) (pc' := 147) dm_X12_putValue_143 rfl dm_X12_putValue_144 rfl rfl (fun hb7 => ?_) (fun hb7 => ?_)
                  · have hbx : (vn v k).toInt ≠ 39 := fun z => hb7 (Int64.toInt_inj.mp (z.trans h39.symm))
                    refine me1 (pc' := 153) (L' := [(0, .ref 102), (1, ii (hd : Int)), (2, ii (vk v : Int)), (3, ii (vm v : Int)), (4, ii ((k : Nat) : Int))]) (S' := [.ref 102, .ref 102]) dm_X12_putValue_152 rfl rfl rfl rfl ?_
                    refine me1 (pc' := 154) (L' := [(0, .ref 102), (1, ii (hd : Int)), (2, ii (vk v : Int)), (3, ii (vm v : Int)), (4, ii ((k : Nat) : Int))]) (S' := [ii (hd : Int), .ref 102, .ref 102]) dm_X12_putValue_153 rfl rfl rfl rfl ?_
                    refine me1 (pc' := 156) (L' := [(0, .ref 102), (1, ii (hd : Int)), (2, ii (vk v : Int)), (3, ii (vm v : Int)), (4, ii ((k : Nat) : Int))]) (S' := [ii ((k : Nat) : Int), ii (hd : Int), .ref 102, .ref 102]) dm_X12_putValue_154 rfl rfl rfl rfl ?_
                    refine x_cp (pc' := 159) (v := .long (vn v k)) (rest := [.ref 102]) dm_X12_putValue_156 rfl (q_inv (As := [ii (hd : Int), ii ((k : Nat) : Int)]) (S := [.ref 102]) hm rfl rfl rfl) rfl rfl rfl (r_number_ (k := k) hm (by omega) hBt hvt (by omega) (by omega)) ?_
                    refine y_l2i (a := (vn v k).toInt) dm_X12_putValue_159 (pc' := 160) rfl (n_l2i _ rfl) ?_
                    have hsg1 : sgn (vn v k) = (vn v k).toInt := by unfold sgn; rw [if_neg (by omega)]
                    refine x_cn (pc' := 163) (rest := []) dm_X12_putValue_160 rfl (q_inv (As := [ii ((vn v k).toInt)]) (S := []) hm rfl rfl rfl) rfl rfl rfl (r_put2 hm (by omega) hPt (by omega)) ?_
                    rintro _ ⟨u6, rfl, hRa6, hPa6⟩
                    rw [take_tk2] at hPa6
                    replace hRa6 := prR_tr hRt hRa6
                    have hva6 := rv_pr hRa6 hv
                    have hBa6 := rB_pr hRa6 hB0
                    refine y_iinc (pc' := 166) (L' := [(4, ii (((k : Nat) : Int) + 1)), (0, .ref 102), (1, ii (hd : Int)), (2, ii (vk v : Int)), (3, ii (vm v : Int))]) dm_X12_putValue_163 (y_incp (a := ((k : Nat) : Int)) (c := 1) rfl rfl (by decide)) rfl ?_
                    refine me2 (pc' := 98) (S' := []) dm_X12_putValue_166 rfl rfl rfl ?_
                    exact pg_sub (L := [(0, .ref 102), (1, ii (hd : Int)), (2, ii (vk v : Int)), (3, ii (vm v : Int)), (4, ii (((k + 1) : Nat) : Int))]) rfl rfl rfl (ih98 (vm v - (k + 1)) (by omega) (k + 1) u6 rfl (by omega) hRa6 (show rpr u6 ((l ++ ((((if vk v = 3 ∧ vm v = 1 then [44] else []) : List Int) ++ [39]) ++ sgsL v (k + 1))).take 400) from (show ((((if vk v = 3 ∧ vm v = 1 then [44] else []) : List Int) ++ [39]) ++ sgsL v k) ++ ([(vn v k).toInt]) = (((if vk v = 3 ∧ vm v = 1 then [44] else []) : List Int) ++ [39]) ++ sgsL v (k + 1) by show _ = (((if vk v = 3 ∧ vm v = 1 then [44] else []) : List Int) ++ [39]) ++ (sgsL v k ++ [sgn (vn v k)]); rw [hsg1, List.append_assoc]) ▸ hPa6))
                  · have hbx := congrArg Int64.toInt hb7
                    rw [h39] at hbx
                    refine me0 (pc' := 149) (S' := [ii 46, .ref 102]) dm_X12_putValue_147 rfl rfl rfl rfl ?_
                    refine me2 (pc' := 160) (S' := [ii 46, .ref 102]) dm_X12_putValue_149 rfl rfl rfl ?_
                    have hsg1 : sgn (vn v k) = 46 := by unfold sgn; rw [if_pos (by omega)]
                    refine x_cn (pc' := 163) (rest := []) dm_X12_putValue_160 rfl (q_inv (As := [ii 46]) (S := []) hm rfl rfl rfl) rfl rfl rfl (r_put2 hm (by omega) hPt (by omega)) ?_
                    rintro _ ⟨u7, rfl, hRa7, hPa7⟩
                    rw [take_tk2] at hPa7
                    replace hRa7 := prR_tr hRt hRa7
                    have hva7 := rv_pr hRa7 hv
                    have hBa7 := rB_pr hRa7 hB0
                    refine y_iinc (pc' := 166) (L' := [(4, ii (((k : Nat) : Int) + 1)), (0, .ref 102), (1, ii (hd : Int)), (2, ii (vk v : Int)), (3, ii (vm v : Int))]) dm_X12_putValue_163 (y_incp (a := ((k : Nat) : Int)) (c := 1) rfl rfl (by decide)) rfl ?_
                    refine me2 (pc' := 98) (S' := []) dm_X12_putValue_166 rfl rfl rfl ?_
                    exact pg_sub (L := [(0, .ref 102), (1, ii (hd : Int)), (2, ii (vk v : Int)), (3, ii (vm v : Int)), (4, ii (((k + 1) : Nat) : Int))]) rfl rfl rfl (ih98 (vm v - (k + 1)) (by omega) (k + 1) u7 rfl (by omega) hRa7 (show rpr u7 ((l ++ ((((if vk v = 3 ∧ vm v = 1 then [44] else []) : List Int) ++ [39]) ++ sgsL v (k + 1))).take 400) from (show ((((if vk v = 3 ∧ vm v = 1 then [44] else []) : List Int) ++ [39]) ++ sgsL v k) ++ ([46]) = (((if vk v = 3 ∧ vm v = 1 then [44] else []) : List Int) ++ [39]) ++ sgsL v (k + 1) by show _ = (((if vk v = 3 ∧ vm v = 1 then [44] else []) : List Int) ++ [39]) ++ (sgsL v k ++ [sgn (vn v k)]); rw [hsg1, List.append_assoc]) ▸ hPa7))
        exact pg_sub (L := [(0, .ref 102), (1, ii (hd : Int)), (2, ii (vk v : Int)), (3, ii (vm v : Int)), (4, ii ((0 : Nat) : Int))]) rfl rfl rfl (lp98 _ 0 u2 rfl (Nat.zero_le _) hRa2 (show rpr u2 ((l ++ ((((if vk v = 3 ∧ vm v = 1 then [44] else []) : List Int) ++ [39]) ++ sgsL v 0)).take 400) from (show [39] = (((if vk v = 3 ∧ vm v = 1 then [44] else []) : List Int) ++ [39]) ++ sgsL v 0 by rw [hpre]; rfl) ▸ hPa2))
      · refine me1 (pc' := 79) (L' := [(3, ii (vm v : Int)), (2, ii (vk v : Int)), (0, .ref 102), (1, ii (hd : Int))]) (S' := [ii (vm v : Int)]) dm_X12_putValue_78 rfl rfl rfl rfl ?_
        refine me0 (pc' := 80) (S' := [ii 1, ii (vm v : Int)]) dm_X12_putValue_79 rfl rfl rfl rfl ?_
        refine y_2ne (a := (vm v : Int)) (b := 1) (t := 89) (pc' := 83) dm_X12_putValue_80 rfl rfl (by omega) (fun hb8 => ?_) (fun hb8 => ?_)
        · have hpre : ((if vk v = 3 ∧ vm v = 1 then [44] else []) : List Int) = [] := if_neg (by omega)
          refine me1 (pc' := 90) (L' := [(3, ii (vm v : Int)), (2, ii (vk v : Int)), (0, .ref 102), (1, ii (hd : Int))]) (S' := [.ref 102]) dm_X12_putValue_89 rfl rfl rfl rfl ?_
          refine me0 (pc' := 92) (S' := [ii 39, .ref 102]) dm_X12_putValue_90 rfl rfl rfl rfl ?_
          refine x_cn (pc' := 95) (rest := []) dm_X12_putValue_92 rfl (q_inv (As := [ii 39]) (S := []) hm rfl rfl rfl) rfl rfl rfl (r_put2 hm (by omega) hP (by omega)) ?_
          rintro _ ⟨u8, rfl, hRa8, hPa8⟩
          have hva8 := rv_pr hRa8 hv
          have hBa8 := rB_pr hRa8 hB0
          refine me0 (pc' := 96) (S' := [ii 0]) dm_X12_putValue_95 rfl rfl rfl rfl ?_
          refine me1 (pc' := 98) (L' := [(4, ii 0), (3, ii (vm v : Int)), (2, ii (vk v : Int)), (0, .ref 102), (1, ii (hd : Int))]) (S' := []) dm_X12_putValue_96 rfl rfl rfl rfl ?_
          have lp98 : ∀ (n98 : Nat) (k : Nat) (t : RS), vm v - k = n98 → (k ≤ vm v) → (prR s t) → (rpr t ((l ++ ((((if vk v = 3 ∧ vm v = 1 then [44] else []) : List Int) ++ [39]) ++ sgsL v k)).take 400)) → pgE xt (d - 1) 12 5 false (Option.none : Option Jvm.ClassFile.FieldType) (mj_dec prog_14_method_46_code) 98 [(0, .ref 102), (1, ii (hd : Int)), (2, ii (vk v : Int)), (3, ii (vm v : Int)), (4, ii ((k : Nat) : Int))] [] (rI pre post t.1 t.2.1 t.2.2.1 t.2.2.2) (fun r h' => r = none ∧ ∃ t, h' = rS pre post t ∧ prR s t ∧ rpr t ((l ++ vaL (e + 1) v).take 400)) := by
            intro n98
            induction n98 using Nat.strongRecOn with
            | ind n98 ih98 =>
              intro k t hm98 hk hRt hPt
              have hvt := rv_pr hRt hv
              have hBt := rB_pr hRt hB0
              refine me1 (pc' := 100) (L' := [(0, .ref 102), (1, ii (hd : Int)), (2, ii (vk v : Int)), (3, ii (vm v : Int)), (4, ii ((k : Nat) : Int))]) (S' := [ii ((k : Nat) : Int)]) dm_X12_putValue_98 rfl rfl rfl rfl ?_
              refine me1 (pc' := 101) (L' := [(0, .ref 102), (1, ii (hd : Int)), (2, ii (vk v : Int)), (3, ii (vm v : Int)), (4, ii ((k : Nat) : Int))]) (S' := [ii (vm v : Int), ii ((k : Nat) : Int)]) dm_X12_putValue_100 rfl rfl rfl rfl ?_
              refine y_2ge (a := ((k : Nat) : Int)) (b := (vm v : Int)) (t := 169) (pc' := 104) dm_X12_putValue_101 rfl rfl (by omega) (fun hb9 => ?_) (fun hb9 => ?_)
              · refine me1 (pc' := 170) (L' := [(0, .ref 102), (1, ii (hd : Int)), (2, ii (vk v : Int)), (3, ii (vm v : Int)), (4, ii ((k : Nat) : Int))]) (S' := [.ref 102]) dm_X12_putValue_169 rfl rfl rfl rfl ?_
                refine me0 (pc' := 172) (S' := [ii 39, .ref 102]) dm_X12_putValue_170 rfl rfl rfl rfl ?_
                refine x_cn (pc' := 175) (rest := []) dm_X12_putValue_172 rfl (q_inv (As := [ii 39]) (S := []) hm rfl rfl rfl) rfl rfl rfl (r_put2 hm (by omega) hPt (by omega)) ?_
                rintro _ ⟨u9, rfl, hRa9, hPa9⟩
                rw [take_tk2] at hPa9
                replace hRa9 := prR_tr hRt hRa9
                have hva9 := rv_pr hRa9 hv
                have hBa9 := rB_pr hRa9 hB0
                refine me2 (pc' := 367) (S' := []) dm_X12_putValue_175 rfl rfl rfl ?_
                refine y_ret (r := none) dm_X12_putValue_367 rfl rfl rfl ?_
                have hkq : k = vm v := by omega
                rw [hkq] at hPa9
                refine ⟨rfl, u9, rfl, hRa9, ?_⟩
                rw [show vaL (e + 1) v = ((((if vk v = 3 ∧ vm v = 1 then [44] else []) : List Int) ++ [39]) ++ sgsL v (vm v)) ++ ([39]) by first | (exfalso; omega) | (rw [vaL_s]; first | rw [if_pos (by omega)] | (rw [if_neg (by omega), if_pos (by omega)]; unfold sgnL; simp only [List.append_assoc]) | rw [if_neg (by omega), if_neg (by omega), if_pos (by omega)] | (rw [if_neg (by omega), if_neg (by omega), if_neg (by omega), if_pos (by omega)]; simp only [List.append_assoc]) | (rw [if_neg (by omega), if_neg (by omega), if_neg (by omega), if_neg (by omega), if_pos (by omega)]; simp only [List.append_assoc]) | (rw [if_neg (by omega), if_neg (by omega), if_neg (by omega), if_neg (by omega), if_neg (by omega), ← spL_row (by omega) (by omega)]; simp only [Nat.zero_add]; first | (rw [if_pos (by omega)]; rfl) | (rw [if_neg (by omega), if_pos (by omega)]) | (rw [if_neg (by omega), if_neg (by omega)]; rfl)))]
                exact hPa9
              · refine me1 (pc' := 105) (L' := [(0, .ref 102), (1, ii (hd : Int)), (2, ii (vk v : Int)), (3, ii (vm v : Int)), (4, ii ((k : Nat) : Int))]) (S' := [.ref 102]) dm_X12_putValue_104 rfl rfl rfl rfl ?_
                refine me1 (pc' := 106) (L' := [(0, .ref 102), (1, ii (hd : Int)), (2, ii (vk v : Int)), (3, ii (vm v : Int)), (4, ii ((k : Nat) : Int))]) (S' := [.ref 102, .ref 102]) dm_X12_putValue_105 rfl rfl rfl rfl ?_
                refine me1 (pc' := 107) (L' := [(0, .ref 102), (1, ii (hd : Int)), (2, ii (vk v : Int)), (3, ii (vm v : Int)), (4, ii ((k : Nat) : Int))]) (S' := [ii (hd : Int), .ref 102, .ref 102]) dm_X12_putValue_106 rfl rfl rfl rfl ?_
                refine me1 (pc' := 109) (L' := [(0, .ref 102), (1, ii (hd : Int)), (2, ii (vk v : Int)), (3, ii (vm v : Int)), (4, ii ((k : Nat) : Int))]) (S' := [ii ((k : Nat) : Int), ii (hd : Int), .ref 102, .ref 102]) dm_X12_putValue_107 rfl rfl rfl rfl ?_
                refine x_cp (pc' := 112) (v := .long (vn v k)) (rest := [.ref 102]) dm_X12_putValue_109 rfl (q_inv (As := [ii (hd : Int), ii ((k : Nat) : Int)]) (S := [.ref 102]) hm rfl rfl rfl) rfl rfl rfl (r_number_ (k := k) hm (by omega) hBt hvt (by omega) (by omega)) ?_
                refine me3 (pc' := 115) (S' := [.long (Int64.ofInt 32), .long (vn v k), .ref 102]) dm_X12_putValue_112 rfl rfl rfl rfl ?_
                refine y_llt (x := vn v k) (y := Int64.ofInt 32) (t := 147) (pc1 := 116) (pc' := 119) dm_X12_putValue_115 rfl dm_X12_putValue_116 rfl rfl (fun hb10 => ?_) (fun hb10 => ?_)
                · rw [h32] at hb10
                  refine me0 (pc' := 149) (S' := [ii 46, .ref 102]) dm_X12_putValue_147 rfl rfl rfl rfl ?_
                  refine me2 (pc' := 160) (S' := [ii 46, .ref 102]) dm_X12_putValue_149 rfl rfl rfl ?_
                  have hsg1 : sgn (vn v k) = 46 := by unfold sgn; rw [if_pos (by omega)]
                  refine x_cn (pc' := 163) (rest := []) dm_X12_putValue_160 rfl (q_inv (As := [ii 46]) (S := []) hm rfl rfl rfl) rfl rfl rfl (r_put2 hm (by omega) hPt (by omega)) ?_
                  rintro _ ⟨u10, rfl, hRa10, hPa10⟩
                  rw [take_tk2] at hPa10
                  replace hRa10 := prR_tr hRt hRa10
                  have hva10 := rv_pr hRa10 hv
                  have hBa10 := rB_pr hRa10 hB0
                  refine y_iinc (pc' := 166) (L' := [(4, ii (((k : Nat) : Int) + 1)), (0, .ref 102), (1, ii (hd : Int)), (2, ii (vk v : Int)), (3, ii (vm v : Int))]) dm_X12_putValue_163 (y_incp (a := ((k : Nat) : Int)) (c := 1) rfl rfl (by decide)) rfl ?_
                  refine me2 (pc' := 98) (S' := []) dm_X12_putValue_166 rfl rfl rfl ?_
                  exact pg_sub (L := [(0, .ref 102), (1, ii (hd : Int)), (2, ii (vk v : Int)), (3, ii (vm v : Int)), (4, ii (((k + 1) : Nat) : Int))]) rfl rfl rfl (ih98 (vm v - (k + 1)) (by omega) (k + 1) u10 rfl (by omega) hRa10 (show rpr u10 ((l ++ ((((if vk v = 3 ∧ vm v = 1 then [44] else []) : List Int) ++ [39]) ++ sgsL v (k + 1))).take 400) from (show ((((if vk v = 3 ∧ vm v = 1 then [44] else []) : List Int) ++ [39]) ++ sgsL v k) ++ ([46]) = (((if vk v = 3 ∧ vm v = 1 then [44] else []) : List Int) ++ [39]) ++ sgsL v (k + 1) by show _ = (((if vk v = 3 ∧ vm v = 1 then [44] else []) : List Int) ++ [39]) ++ (sgsL v k ++ [sgn (vn v k)]); rw [hsg1, List.append_assoc]) ▸ hPa10))
                · rw [h32] at hb10
                  refine me1 (pc' := 120) (L' := [(0, .ref 102), (1, ii (hd : Int)), (2, ii (vk v : Int)), (3, ii (vm v : Int)), (4, ii ((k : Nat) : Int))]) (S' := [.ref 102, .ref 102]) dm_X12_putValue_119 rfl rfl rfl rfl ?_
                  refine me1 (pc' := 121) (L' := [(0, .ref 102), (1, ii (hd : Int)), (2, ii (vk v : Int)), (3, ii (vm v : Int)), (4, ii ((k : Nat) : Int))]) (S' := [ii (hd : Int), .ref 102, .ref 102]) dm_X12_putValue_120 rfl rfl rfl rfl ?_
                  refine me1 (pc' := 123) (L' := [(0, .ref 102), (1, ii (hd : Int)), (2, ii (vk v : Int)), (3, ii (vm v : Int)), (4, ii ((k : Nat) : Int))]) (S' := [ii ((k : Nat) : Int), ii (hd : Int), .ref 102, .ref 102]) dm_X12_putValue_121 rfl rfl rfl rfl ?_
                  refine x_cp (pc' := 126) (v := .long (vn v k)) (rest := [.ref 102]) dm_X12_putValue_123 rfl (q_inv (As := [ii (hd : Int), ii ((k : Nat) : Int)]) (S := [.ref 102]) hm rfl rfl rfl) rfl rfl rfl (r_number_ (k := k) hm (by omega) hBt hvt (by omega) (by omega)) ?_
                  refine me3 (pc' := 129) (S' := [.long (Int64.ofInt 126), .long (vn v k), .ref 102]) dm_X12_putValue_126 rfl rfl rfl rfl ?_
                  refine y_lgt (x := vn v k) (y := Int64.ofInt 126) (t := 147) (pc1 := 130) (pc' := 133) dm_X12_putValue_129 rfl dm_X12_putValue_130 rfl rfl (fun hb11 => ?_) (fun hb11 => ?_)
                  · rw [h126] at hb11
                    refine me0 (pc' := 149) (S' := [ii 46, .ref 102]) dm_X12_putValue_147 rfl rfl rfl rfl ?_
                    refine me2 (pc' := 160) (S' := [ii 46, .ref 102]) dm_X12_putValue_149 rfl rfl rfl ?_
                    have hsg1 : sgn (vn v k) = 46 := by unfold sgn; rw [if_pos (by omega)]
                    refine x_cn (pc' := 163) (rest := []) dm_X12_putValue_160 rfl (q_inv (As := [ii 46]) (S := []) hm rfl rfl rfl) rfl rfl rfl (r_put2 hm (by omega) hPt (by omega)) ?_
                    rintro _ ⟨u11, rfl, hRa11, hPa11⟩
                    rw [take_tk2] at hPa11
                    replace hRa11 := prR_tr hRt hRa11
                    have hva11 := rv_pr hRa11 hv
                    have hBa11 := rB_pr hRa11 hB0
                    refine y_iinc (pc' := 166) (L' := [(4, ii (((k : Nat) : Int) + 1)), (0, .ref 102), (1, ii (hd : Int)), (2, ii (vk v : Int)), (3, ii (vm v : Int))]) dm_X12_putValue_163 (y_incp (a := ((k : Nat) : Int)) (c := 1) rfl rfl (by decide)) rfl ?_
                    refine me2 (pc' := 98) (S' := []) dm_X12_putValue_166 rfl rfl rfl ?_
                    exact pg_sub (L := [(0, .ref 102), (1, ii (hd : Int)), (2, ii (vk v : Int)), (3, ii (vm v : Int)), (4, ii (((k + 1) : Nat) : Int))]) rfl rfl rfl (ih98 (vm v - (k + 1)) (by omega) (k + 1) u11 rfl (by omega) hRa11 (show rpr u11 ((l ++ ((((if vk v = 3 ∧ vm v = 1 then [44] else []) : List Int) ++ [39]) ++ sgsL v (k + 1))).take 400) from (show ((((if vk v = 3 ∧ vm v = 1 then [44] else []) : List Int) ++ [39]) ++ sgsL v k) ++ ([46]) = (((if vk v = 3 ∧ vm v = 1 then [44] else []) : List Int) ++ [39]) ++ sgsL v (k + 1) by show _ = (((if vk v = 3 ∧ vm v = 1 then [44] else []) : List Int) ++ [39]) ++ (sgsL v k ++ [sgn (vn v k)]); rw [hsg1, List.append_assoc]) ▸ hPa11))
                  · rw [h126] at hb11
                    refine me1 (pc' := 134) (L' := [(0, .ref 102), (1, ii (hd : Int)), (2, ii (vk v : Int)), (3, ii (vm v : Int)), (4, ii ((k : Nat) : Int))]) (S' := [.ref 102, .ref 102]) dm_X12_putValue_133 rfl rfl rfl rfl ?_
                    refine me1 (pc' := 135) (L' := [(0, .ref 102), (1, ii (hd : Int)), (2, ii (vk v : Int)), (3, ii (vm v : Int)), (4, ii ((k : Nat) : Int))]) (S' := [ii (hd : Int), .ref 102, .ref 102]) dm_X12_putValue_134 rfl rfl rfl rfl ?_
                    refine me1 (pc' := 137) (L' := [(0, .ref 102), (1, ii (hd : Int)), (2, ii (vk v : Int)), (3, ii (vm v : Int)), (4, ii ((k : Nat) : Int))]) (S' := [ii ((k : Nat) : Int), ii (hd : Int), .ref 102, .ref 102]) dm_X12_putValue_135 rfl rfl rfl rfl ?_
                    refine x_cp (pc' := 140) (v := .long (vn v k)) (rest := [.ref 102]) dm_X12_putValue_137 rfl (q_inv (As := [ii (hd : Int), ii ((k : Nat) : Int)]) (S := [.ref 102]) hm rfl rfl rfl) rfl rfl rfl (r_number_ (k := k) hm (by omega) hBt hvt (by omega) (by omega)) ?_
                    refine me3 (pc' := 143) (S' := [.long (Int64.ofInt 39), .long (vn v k), .ref 102]) dm_X12_putValue_140 rfl rfl rfl rfl ?_
                    refine y_lne (x := vn v k) (y := Int64.ofInt 39) (t := 152) (pc1 := 144) (pc' := 147) dm_X12_putValue_143 rfl dm_X12_putValue_144 rfl rfl (fun hb12 => ?_) (fun hb12 => ?_)
                    · have hbx : (vn v k).toInt ≠ 39 := fun z => hb12 (Int64.toInt_inj.mp (z.trans h39.symm))
                      refine me1 (pc' := 153) (L' := [(0, .ref 102), (1, ii (hd : Int)), (2, ii (vk v : Int)), (3, ii (vm v : Int)), (4, ii ((k : Nat) : Int))]) (S' := [.ref 102, .ref 102]) dm_X12_putValue_152 rfl rfl rfl rfl ?_
                      refine me1 (pc' := 154) (L' := [(0, .ref 102), (1, ii (hd : Int)), (2, ii (vk v : Int)), (3, ii (vm v : Int)), (4, ii ((k : Nat) : Int))]) (S' := [ii (hd : Int), .ref 102, .ref 102]) dm_X12_putValue_153 rfl rfl rfl rfl ?_
                      refine me1 (pc' := 156) (L' := [(0, .ref 102), (1, ii (hd : Int)), (2, ii (vk v : Int)), (3, ii (vm v : Int)), (4, ii ((k : Nat) : Int))]) (S' := [ii ((k : Nat) : Int), ii (hd : Int), .ref 102, .ref 102]) dm_X12_putValue_154 rfl rfl rfl rfl ?_
                      refine x_cp (pc' := 159) (v := .long (vn v k)) (rest := [.ref 102]) dm_X12_putValue_156 rfl (q_inv (As := [ii (hd : Int), ii ((k : Nat) : Int)]) (S := [.ref 102]) hm rfl rfl rfl) rfl rfl rfl (r_number_ (k := k) hm (by omega) hBt hvt (by omega) (by omega)) ?_
                      refine y_l2i (a := (vn v k).toInt) dm_X12_putValue_159 (pc' := 160) rfl (n_l2i _ rfl) ?_
                      have hsg1 : sgn (vn v k) = (vn v k).toInt := by unfold sgn; rw [if_neg (by omega)]
                      refine x_cn (pc' := 163) (rest := []) dm_X12_putValue_160 rfl (q_inv (As := [ii ((vn v k).toInt)]) (S := []) hm rfl rfl rfl) rfl rfl rfl (r_put2 hm (by omega) hPt (by omega)) ?_
                      rintro _ ⟨u12, rfl, hRa12, hPa12⟩
                      rw [take_tk2] at hPa12
                      replace hRa12 := prR_tr hRt hRa12
                      have hva12 := rv_pr hRa12 hv
                      have hBa12 := rB_pr hRa12 hB0
                      refine y_iinc (pc' := 166) (L' := [(4, ii (((k : Nat) : Int) + 1)), (0, .ref 102), (1, ii (hd : Int)), (2, ii (vk v : Int)), (3, ii (vm v : Int))]) dm_X12_putValue_163 (y_incp (a := ((k : Nat) : Int)) (c := 1) rfl rfl (by decide)) rfl ?_
                      refine me2 (pc' := 98) (S' := []) dm_X12_putValue_166 rfl rfl rfl ?_
                      exact pg_sub (L := [(0, .ref 102), (1, ii (hd : Int)), (2, ii (vk v : Int)), (3, ii (vm v : Int)), (4, ii (((k + 1) : Nat) : Int))]) rfl rfl rfl (ih98 (vm v - (k + 1)) (by omega) (k + 1) u12 rfl (by omega) hRa12 (show rpr u12 ((l ++ ((((if vk v = 3 ∧ vm v = 1 then [44] else []) : List Int) ++ [39]) ++ sgsL v (k + 1))).take 400) from (show ((((if vk v = 3 ∧ vm v = 1 then [44] else []) : List Int) ++ [39]) ++ sgsL v k) ++ ([(vn v k).toInt]) = (((if vk v = 3 ∧ vm v = 1 then [44] else []) : List Int) ++ [39]) ++ sgsL v (k + 1) by show _ = (((if vk v = 3 ∧ vm v = 1 then [44] else []) : List Int) ++ [39]) ++ (sgsL v k ++ [sgn (vn v k)]); rw [hsg1, List.append_assoc]) ▸ hPa12))
                    · have hbx := congrArg Int64.toInt hb12
                      rw [h39] at hbx
                      refine me0 (pc' := 149) (S' := [ii 46, .ref 102]) dm_X12_putValue_147 rfl rfl rfl rfl ?_
                      refine me2 (pc' := 160) (S' := [ii 46, .ref 102]) dm_X12_putValue_149 rfl rfl rfl ?_
                      have hsg1 : sgn (vn v k) = 46 := by unfold sgn; rw [if_pos (by omega)]
                      refine x_cn (pc' := 163) (rest := []) dm_X12_putValue_160 rfl (q_inv (As := [ii 46]) (S := []) hm rfl rfl rfl) rfl rfl rfl (r_put2 hm (by omega) hPt (by omega)) ?_
                      rintro _ ⟨u13, rfl, hRa13, hPa13⟩
                      rw [take_tk2] at hPa13
                      replace hRa13 := prR_tr hRt hRa13
                      have hva13 := rv_pr hRa13 hv
                      have hBa13 := rB_pr hRa13 hB0
                      refine y_iinc (pc' := 166) (L' := [(4, ii (((k : Nat) : Int) + 1)), (0, .ref 102), (1, ii (hd : Int)), (2, ii (vk v : Int)), (3, ii (vm v : Int))]) dm_X12_putValue_163 (y_incp (a := ((k : Nat) : Int)) (c := 1) rfl rfl (by decide)) rfl ?_
                      refine me2 (pc' := 98) (S' := []) dm_X12_putValue_166 rfl rfl rfl ?_
                      exact pg_sub (L := [(0, .ref 102), (1, ii (hd : Int)), (2, ii (vk v : Int)), (3, ii (vm v : Int)), (4, ii (((k + 1) : Nat) : Int))]) rfl rfl rfl (ih98 (vm v - (k + 1)) (by omega) (k + 1) u13 rfl (by omega) hRa13 (show rpr u13 ((l ++ ((((if vk v = 3 ∧ vm v = 1 then [44] else []) : List Int) ++ [39]) ++ sgsL v (k + 1))).take 400) from (show ((((if vk v = 3 ∧ vm v = 1 then [44] else []) : List Int) ++ [39]) ++ sgsL v k) ++ ([46]) = (((if vk v = 3 ∧ vm v = 1 then [44] else []) : List Int) ++ [39]) ++ sgsL v (k + 1) by show _ = (((if vk v = 3 ∧ vm v = 1 then [44] else []) : List Int) ++ [39]) ++ (sgsL v k ++ [sgn (vn v k)]); rw [hsg1, List.append_assoc]) ▸ hPa13))
          exact pg_sub (L := [(0, .ref 102), (1, ii (hd : Int)), (2, ii (vk v : Int)), (3, ii (vm v : Int)), (4, ii ((0 : Nat) : Int))]) rfl rfl rfl (lp98 _ 0 u8 rfl (Nat.zero_le _) hRa8 (show rpr u8 ((l ++ ((((if vk v = 3 ∧ vm v = 1 then [44] else []) : List Int) ++ [39]) ++ sgsL v 0)).take 400) from (show [39] = (((if vk v = 3 ∧ vm v = 1 then [44] else []) : List Int) ++ [39]) ++ sgsL v 0 by rw [hpre]; rfl) ▸ hPa8))
        · have hpre : ((if vk v = 3 ∧ vm v = 1 then [44] else []) : List Int) = [44] := if_pos (by omega)
          refine me1 (pc' := 84) (L' := [(3, ii (vm v : Int)), (2, ii (vk v : Int)), (0, .ref 102), (1, ii (hd : Int))]) (S' := [.ref 102]) dm_X12_putValue_83 rfl rfl rfl rfl ?_
          refine me0 (pc' := 86) (S' := [ii 44, .ref 102]) dm_X12_putValue_84 rfl rfl rfl rfl ?_
          refine x_cn (pc' := 89) (rest := []) dm_X12_putValue_86 rfl (q_inv (As := [ii 44]) (S := []) hm rfl rfl rfl) rfl rfl rfl (r_put2 hm (by omega) hP (by omega)) ?_
          rintro _ ⟨u14, rfl, hRa14, hPa14⟩
          have hva14 := rv_pr hRa14 hv
          have hBa14 := rB_pr hRa14 hB0
          refine me1 (pc' := 90) (L' := [(3, ii (vm v : Int)), (2, ii (vk v : Int)), (0, .ref 102), (1, ii (hd : Int))]) (S' := [.ref 102]) dm_X12_putValue_89 rfl rfl rfl rfl ?_
          refine me0 (pc' := 92) (S' := [ii 39, .ref 102]) dm_X12_putValue_90 rfl rfl rfl rfl ?_
          refine x_cn (pc' := 95) (rest := []) dm_X12_putValue_92 rfl (q_inv (As := [ii 39]) (S := []) hm rfl rfl rfl) rfl rfl rfl (r_put2 hm (by omega) hPa14 (by omega)) ?_
          rintro _ ⟨u15, rfl, hRa15, hPa15⟩
          rw [take_tk2] at hPa15
          replace hRa15 := prR_tr hRa14 hRa15
          have hva15 := rv_pr hRa15 hv
          have hBa15 := rB_pr hRa15 hB0
          refine me0 (pc' := 96) (S' := [ii 0]) dm_X12_putValue_95 rfl rfl rfl rfl ?_
          refine me1 (pc' := 98) (L' := [(4, ii 0), (3, ii (vm v : Int)), (2, ii (vk v : Int)), (0, .ref 102), (1, ii (hd : Int))]) (S' := []) dm_X12_putValue_96 rfl rfl rfl rfl ?_
          have lp98 : ∀ (n98 : Nat) (k : Nat) (t : RS), vm v - k = n98 → (k ≤ vm v) → (prR s t) → (rpr t ((l ++ ((((if vk v = 3 ∧ vm v = 1 then [44] else []) : List Int) ++ [39]) ++ sgsL v k)).take 400)) → pgE xt (d - 1) 12 5 false (Option.none : Option Jvm.ClassFile.FieldType) (mj_dec prog_14_method_46_code) 98 [(0, .ref 102), (1, ii (hd : Int)), (2, ii (vk v : Int)), (3, ii (vm v : Int)), (4, ii ((k : Nat) : Int))] [] (rI pre post t.1 t.2.1 t.2.2.1 t.2.2.2) (fun r h' => r = none ∧ ∃ t, h' = rS pre post t ∧ prR s t ∧ rpr t ((l ++ vaL (e + 1) v).take 400)) := by
            intro n98
            induction n98 using Nat.strongRecOn with
            | ind n98 ih98 =>
              intro k t hm98 hk hRt hPt
              have hvt := rv_pr hRt hv
              have hBt := rB_pr hRt hB0
              refine me1 (pc' := 100) (L' := [(0, .ref 102), (1, ii (hd : Int)), (2, ii (vk v : Int)), (3, ii (vm v : Int)), (4, ii ((k : Nat) : Int))]) (S' := [ii ((k : Nat) : Int)]) dm_X12_putValue_98 rfl rfl rfl rfl ?_
              refine me1 (pc' := 101) (L' := [(0, .ref 102), (1, ii (hd : Int)), (2, ii (vk v : Int)), (3, ii (vm v : Int)), (4, ii ((k : Nat) : Int))]) (S' := [ii (vm v : Int), ii ((k : Nat) : Int)]) dm_X12_putValue_100 rfl rfl rfl rfl ?_
              refine y_2ge (a := ((k : Nat) : Int)) (b := (vm v : Int)) (t := 169) (pc' := 104) dm_X12_putValue_101 rfl rfl (by omega) (fun hb13 => ?_) (fun hb13 => ?_)
              · refine me1 (pc' := 170) (L' := [(0, .ref 102), (1, ii (hd : Int)), (2, ii (vk v : Int)), (3, ii (vm v : Int)), (4, ii ((k : Nat) : Int))]) (S' := [.ref 102]) dm_X12_putValue_169 rfl rfl rfl rfl ?_
                refine me0 (pc' := 172) (S' := [ii 39, .ref 102]) dm_X12_putValue_170 rfl rfl rfl rfl ?_
                refine x_cn (pc' := 175) (rest := []) dm_X12_putValue_172 rfl (q_inv (As := [ii 39]) (S := []) hm rfl rfl rfl) rfl rfl rfl (r_put2 hm (by omega) hPt (by omega)) ?_
                rintro _ ⟨u16, rfl, hRa16, hPa16⟩
                rw [take_tk2] at hPa16
                replace hRa16 := prR_tr hRt hRa16
                have hva16 := rv_pr hRa16 hv
                have hBa16 := rB_pr hRa16 hB0
                refine me2 (pc' := 367) (S' := []) dm_X12_putValue_175 rfl rfl rfl ?_
                refine y_ret (r := none) dm_X12_putValue_367 rfl rfl rfl ?_
                have hkq : k = vm v := by omega
                rw [hkq] at hPa16
                refine ⟨rfl, u16, rfl, hRa16, ?_⟩
                rw [show vaL (e + 1) v = ((((if vk v = 3 ∧ vm v = 1 then [44] else []) : List Int) ++ [39]) ++ sgsL v (vm v)) ++ ([39]) by first | (exfalso; omega) | (rw [vaL_s]; first | rw [if_pos (by omega)] | (rw [if_neg (by omega), if_pos (by omega)]; unfold sgnL; simp only [List.append_assoc]) | rw [if_neg (by omega), if_neg (by omega), if_pos (by omega)] | (rw [if_neg (by omega), if_neg (by omega), if_neg (by omega), if_pos (by omega)]; simp only [List.append_assoc]) | (rw [if_neg (by omega), if_neg (by omega), if_neg (by omega), if_neg (by omega), if_pos (by omega)]; simp only [List.append_assoc]) | (rw [if_neg (by omega), if_neg (by omega), if_neg (by omega), if_neg (by omega), if_neg (by omega), ← spL_row (by omega) (by omega)]; simp only [Nat.zero_add]; first | (rw [if_pos (by omega)]; rfl) | (rw [if_neg (by omega), if_pos (by omega)]) | (rw [if_neg (by omega), if_neg (by omega)]; rfl)))]
                exact hPa16
              · refine me1 (pc' := 105) (L' := [(0, .ref 102), (1, ii (hd : Int)), (2, ii (vk v : Int)), (3, ii (vm v : Int)), (4, ii ((k : Nat) : Int))]) (S' := [.ref 102]) dm_X12_putValue_104 rfl rfl rfl rfl ?_
                refine me1 (pc' := 106) (L' := [(0, .ref 102), (1, ii (hd : Int)), (2, ii (vk v : Int)), (3, ii (vm v : Int)), (4, ii ((k : Nat) : Int))]) (S' := [.ref 102, .ref 102]) dm_X12_putValue_105 rfl rfl rfl rfl ?_
                refine me1 (pc' := 107) (L' := [(0, .ref 102), (1, ii (hd : Int)), (2, ii (vk v : Int)), (3, ii (vm v : Int)), (4, ii ((k : Nat) : Int))]) (S' := [ii (hd : Int), .ref 102, .ref 102]) dm_X12_putValue_106 rfl rfl rfl rfl ?_
                refine me1 (pc' := 109) (L' := [(0, .ref 102), (1, ii (hd : Int)), (2, ii (vk v : Int)), (3, ii (vm v : Int)), (4, ii ((k : Nat) : Int))]) (S' := [ii ((k : Nat) : Int), ii (hd : Int), .ref 102, .ref 102]) dm_X12_putValue_107 rfl rfl rfl rfl ?_
                refine x_cp (pc' := 112) (v := .long (vn v k)) (rest := [.ref 102]) dm_X12_putValue_109 rfl (q_inv (As := [ii (hd : Int), ii ((k : Nat) : Int)]) (S := [.ref 102]) hm rfl rfl rfl) rfl rfl rfl (r_number_ (k := k) hm (by omega) hBt hvt (by omega) (by omega)) ?_
                refine me3 (pc' := 115) (S' := [.long (Int64.ofInt 32), .long (vn v k), .ref 102]) dm_X12_putValue_112 rfl rfl rfl rfl ?_
                refine y_llt (x := vn v k) (y := Int64.ofInt 32) (t := 147) (pc1 := 116) (pc' := 119) dm_X12_putValue_115 rfl dm_X12_putValue_116 rfl rfl (fun hb14 => ?_) (fun hb14 => ?_)
                · rw [h32] at hb14
                  refine me0 (pc' := 149) (S' := [ii 46, .ref 102]) dm_X12_putValue_147 rfl rfl rfl rfl ?_
                  refine me2 (pc' := 160) (S' := [ii 46, .ref 102]) dm_X12_putValue_149 rfl rfl rfl ?_
                  have hsg1 : sgn (vn v k) = 46 := by unfold sgn; rw [if_pos (by omega)]
                  refine x_cn (pc' := 163) (rest := []) dm_X12_putValue_160 rfl (q_inv (As := [ii 46]) (S := []) hm rfl rfl rfl) rfl rfl rfl (r_put2 hm (by omega) hPt (by omega)) ?_
                  rintro _ ⟨u17, rfl, hRa17, hPa17⟩
                  rw [take_tk2] at hPa17
                  replace hRa17 := prR_tr hRt hRa17
                  have hva17 := rv_pr hRa17 hv
                  have hBa17 := rB_pr hRa17 hB0
                  refine y_iinc (pc' := 166) (L' := [(4, ii (((k : Nat) : Int) + 1)), (0, .ref 102), (1, ii (hd : Int)), (2, ii (vk v : Int)), (3, ii (vm v : Int))]) dm_X12_putValue_163 (y_incp (a := ((k : Nat) : Int)) (c := 1) rfl rfl (by decide)) rfl ?_
                  refine me2 (pc' := 98) (S' := []) dm_X12_putValue_166 rfl rfl rfl ?_
                  exact pg_sub (L := [(0, .ref 102), (1, ii (hd : Int)), (2, ii (vk v : Int)), (3, ii (vm v : Int)), (4, ii (((k + 1) : Nat) : Int))]) rfl rfl rfl (ih98 (vm v - (k + 1)) (by omega) (k + 1) u17 rfl (by omega) hRa17 (show rpr u17 ((l ++ ((((if vk v = 3 ∧ vm v = 1 then [44] else []) : List Int) ++ [39]) ++ sgsL v (k + 1))).take 400) from (show ((((if vk v = 3 ∧ vm v = 1 then [44] else []) : List Int) ++ [39]) ++ sgsL v k) ++ ([46]) = (((if vk v = 3 ∧ vm v = 1 then [44] else []) : List Int) ++ [39]) ++ sgsL v (k + 1) by show _ = (((if vk v = 3 ∧ vm v = 1 then [44] else []) : List Int) ++ [39]) ++ (sgsL v k ++ [sgn (vn v k)]); rw [hsg1, List.append_assoc]) ▸ hPa17))
                · rw [h32] at hb14
                  refine me1 (pc' := 120) (L' := [(0, .ref 102), (1, ii (hd : Int)), (2, ii (vk v : Int)), (3, ii (vm v : Int)), (4, ii ((k : Nat) : Int))]) (S' := [.ref 102, .ref 102]) dm_X12_putValue_119 rfl rfl rfl rfl ?_
                  refine me1 (pc' := 121) (L' := [(0, .ref 102), (1, ii (hd : Int)), (2, ii (vk v : Int)), (3, ii (vm v : Int)), (4, ii ((k : Nat) : Int))]) (S' := [ii (hd : Int), .ref 102, .ref 102]) dm_X12_putValue_120 rfl rfl rfl rfl ?_
                  refine me1 (pc' := 123) (L' := [(0, .ref 102), (1, ii (hd : Int)), (2, ii (vk v : Int)), (3, ii (vm v : Int)), (4, ii ((k : Nat) : Int))]) (S' := [ii ((k : Nat) : Int), ii (hd : Int), .ref 102, .ref 102]) dm_X12_putValue_121 rfl rfl rfl rfl ?_
                  refine x_cp (pc' := 126) (v := .long (vn v k)) (rest := [.ref 102]) dm_X12_putValue_123 rfl (q_inv (As := [ii (hd : Int), ii ((k : Nat) : Int)]) (S := [.ref 102]) hm rfl rfl rfl) rfl rfl rfl (r_number_ (k := k) hm (by omega) hBt hvt (by omega) (by omega)) ?_
                  refine me3 (pc' := 129) (S' := [.long (Int64.ofInt 126), .long (vn v k), .ref 102]) dm_X12_putValue_126 rfl rfl rfl rfl ?_
                  refine y_lgt (x := vn v k) (y := Int64.ofInt 126) (t := 147) (pc1 := 130) (pc' := 133) dm_X12_putValue_129 rfl dm_X12_putValue_130 rfl rfl (fun hb15 => ?_) (fun hb15 => ?_)
                  · rw [h126] at hb15
                    refine me0 (pc' := 149) (S' := [ii 46, .ref 102]) dm_X12_putValue_147 rfl rfl rfl rfl ?_
                    refine me2 (pc' := 160) (S' := [ii 46, .ref 102]) dm_X12_putValue_149 rfl rfl rfl ?_
                    have hsg1 : sgn (vn v k) = 46 := by unfold sgn; rw [if_pos (by omega)]
                    refine x_cn (pc' := 163) (rest := []) dm_X12_putValue_160 rfl (q_inv (As := [ii 46]) (S := []) hm rfl rfl rfl) rfl rfl rfl (r_put2 hm (by omega) hPt (by omega)) ?_
                    rintro _ ⟨u18, rfl, hRa18, hPa18⟩
                    rw [take_tk2] at hPa18
                    replace hRa18 := prR_tr hRt hRa18
                    have hva18 := rv_pr hRa18 hv
                    have hBa18 := rB_pr hRa18 hB0
                    refine y_iinc (pc' := 166) (L' := [(4, ii (((k : Nat) : Int) + 1)), (0, .ref 102), (1, ii (hd : Int)), (2, ii (vk v : Int)), (3, ii (vm v : Int))]) dm_X12_putValue_163 (y_incp (a := ((k : Nat) : Int)) (c := 1) rfl rfl (by decide)) rfl ?_
                    refine me2 (pc' := 98) (S' := []) dm_X12_putValue_166 rfl rfl rfl ?_
                    exact pg_sub (L := [(0, .ref 102), (1, ii (hd : Int)), (2, ii (vk v : Int)), (3, ii (vm v : Int)), (4, ii (((k + 1) : Nat) : Int))]) rfl rfl rfl (ih98 (vm v - (k + 1)) (by omega) (k + 1) u18 rfl (by omega) hRa18 (show rpr u18 ((l ++ ((((if vk v = 3 ∧ vm v = 1 then [44] else []) : List Int) ++ [39]) ++ sgsL v (k + 1))).take 400) from (show ((((if vk v = 3 ∧ vm v = 1 then [44] else []) : List Int) ++ [39]) ++ sgsL v k) ++ ([46]) = (((if vk v = 3 ∧ vm v = 1 then [44] else []) : List Int) ++ [39]) ++ sgsL v (k + 1) by show _ = (((if vk v = 3 ∧ vm v = 1 then [44] else []) : List Int) ++ [39]) ++ (sgsL v k ++ [sgn (vn v k)]); rw [hsg1, List.append_assoc]) ▸ hPa18))
                  · rw [h126] at hb15
                    refine me1 (pc' := 134) (L' := [(0, .ref 102), (1, ii (hd : Int)), (2, ii (vk v : Int)), (3, ii (vm v : Int)), (4, ii ((k : Nat) : Int))]) (S' := [.ref 102, .ref 102]) dm_X12_putValue_133 rfl rfl rfl rfl ?_
                    refine me1 (pc' := 135) (L' := [(0, .ref 102), (1, ii (hd : Int)), (2, ii (vk v : Int)), (3, ii (vm v : Int)), (4, ii ((k : Nat) : Int))]) (S' := [ii (hd : Int), .ref 102, .ref 102]) dm_X12_putValue_134 rfl rfl rfl rfl ?_
                    refine me1 (pc' := 137) (L' := [(0, .ref 102), (1, ii (hd : Int)), (2, ii (vk v : Int)), (3, ii (vm v : Int)), (4, ii ((k : Nat) : Int))]) (S' := [ii ((k : Nat) : Int), ii (hd : Int), .ref 102, .ref 102]) dm_X12_putValue_135 rfl rfl rfl rfl ?_
                    refine x_cp (pc' := 140) (v := .long (vn v k)) (rest := [.ref 102]) dm_X12_putValue_137 rfl (q_inv (As := [ii (hd : Int), ii ((k : Nat) : Int)]) (S := [.ref 102]) hm rfl rfl rfl) rfl rfl rfl (r_number_ (k := k) hm (by omega) hBt hvt (by omega) (by omega)) ?_
                    refine me3 (pc' := 143) (S' := [.long (Int64.ofInt 39), .long (vn v k), .ref 102]) dm_X12_putValue_140 rfl rfl rfl rfl ?_
                    refine y_lne (x := vn v k) (y := Int64.ofInt 39) (t := 152) (pc1 := 144) (pc' := 147) dm_X12_putValue_143 rfl dm_X12_putValue_144 rfl rfl (fun hb16 => ?_) (fun hb16 => ?_)
                    · have hbx : (vn v k).toInt ≠ 39 := fun z => hb16 (Int64.toInt_inj.mp (z.trans h39.symm))
                      refine me1 (pc' := 153) (L' := [(0, .ref 102), (1, ii (hd : Int)), (2, ii (vk v : Int)), (3, ii (vm v : Int)), (4, ii ((k : Nat) : Int))]) (S' := [.ref 102, .ref 102]) dm_X12_putValue_152 rfl rfl rfl rfl ?_
                      refine me1 (pc' := 154) (L' := [(0, .ref 102), (1, ii (hd : Int)), (2, ii (vk v : Int)), (3, ii (vm v : Int)), (4, ii ((k : Nat) : Int))]) (S' := [ii (hd : Int), .ref 102, .ref 102]) dm_X12_putValue_153 rfl rfl rfl rfl ?_
                      refine me1 (pc' := 156) (L' := [(0, .ref 102), (1, ii (hd : Int)), (2, ii (vk v : Int)), (3, ii (vm v : Int)), (4, ii ((k : Nat) : Int))]) (S' := [ii ((k : Nat) : Int), ii (hd : Int), .ref 102, .ref 102]) dm_X12_putValue_154 rfl rfl rfl rfl ?_
                      refine x_cp (pc' := 159) (v := .long (vn v k)) (rest := [.ref 102]) dm_X12_putValue_156 rfl (q_inv (As := [ii (hd : Int), ii ((k : Nat) : Int)]) (S := [.ref 102]) hm rfl rfl rfl) rfl rfl rfl (r_number_ (k := k) hm (by omega) hBt hvt (by omega) (by omega)) ?_
                      refine y_l2i (a := (vn v k).toInt) dm_X12_putValue_159 (pc' := 160) rfl (n_l2i _ rfl) ?_
                      have hsg1 : sgn (vn v k) = (vn v k).toInt := by unfold sgn; rw [if_neg (by omega)]
                      refine x_cn (pc' := 163) (rest := []) dm_X12_putValue_160 rfl (q_inv (As := [ii ((vn v k).toInt)]) (S := []) hm rfl rfl rfl) rfl rfl rfl (r_put2 hm (by omega) hPt (by omega)) ?_
                      rintro _ ⟨u19, rfl, hRa19, hPa19⟩
                      rw [take_tk2] at hPa19
                      replace hRa19 := prR_tr hRt hRa19
                      have hva19 := rv_pr hRa19 hv
                      have hBa19 := rB_pr hRa19 hB0
                      refine y_iinc (pc' := 166) (L' := [(4, ii (((k : Nat) : Int) + 1)), (0, .ref 102), (1, ii (hd : Int)), (2, ii (vk v : Int)), (3, ii (vm v : Int))]) dm_X12_putValue_163 (y_incp (a := ((k : Nat) : Int)) (c := 1) rfl rfl (by decide)) rfl ?_
                      refine me2 (pc' := 98) (S' := []) dm_X12_putValue_166 rfl rfl rfl ?_
                      exact pg_sub (L := [(0, .ref 102), (1, ii (hd : Int)), (2, ii (vk v : Int)), (3, ii (vm v : Int)), (4, ii (((k + 1) : Nat) : Int))]) rfl rfl rfl (ih98 (vm v - (k + 1)) (by omega) (k + 1) u19 rfl (by omega) hRa19 (show rpr u19 ((l ++ ((((if vk v = 3 ∧ vm v = 1 then [44] else []) : List Int) ++ [39]) ++ sgsL v (k + 1))).take 400) from (show ((((if vk v = 3 ∧ vm v = 1 then [44] else []) : List Int) ++ [39]) ++ sgsL v k) ++ ([(vn v k).toInt]) = (((if vk v = 3 ∧ vm v = 1 then [44] else []) : List Int) ++ [39]) ++ sgsL v (k + 1) by show _ = (((if vk v = 3 ∧ vm v = 1 then [44] else []) : List Int) ++ [39]) ++ (sgsL v k ++ [sgn (vn v k)]); rw [hsg1, List.append_assoc]) ▸ hPa19))
                    · have hbx := congrArg Int64.toInt hb16
                      rw [h39] at hbx
                      refine me0 (pc' := 149) (S' := [ii 46, .ref 102]) dm_X12_putValue_147 rfl rfl rfl rfl ?_
                      refine me2 (pc' := 160) (S' := [ii 46, .ref 102]) dm_X12_putValue_149 rfl rfl rfl ?_
                      have hsg1 : sgn (vn v k) = 46 := by unfold sgn; rw [if_pos (by omega)]
                      refine x_cn (pc' := 163) (rest := []) dm_X12_putValue_160 rfl (q_inv (As := [ii 46]) (S := []) hm rfl rfl rfl) rfl rfl rfl (r_put2 hm (by omega) hPt (by omega)) ?_
                      rintro _ ⟨u20, rfl, hRa20, hPa20⟩
                      rw [take_tk2] at hPa20
                      replace hRa20 := prR_tr hRt hRa20
                      have hva20 := rv_pr hRa20 hv
                      have hBa20 := rB_pr hRa20 hB0
                      refine y_iinc (pc' := 166) (L' := [(4, ii (((k : Nat) : Int) + 1)), (0, .ref 102), (1, ii (hd : Int)), (2, ii (vk v : Int)), (3, ii (vm v : Int))]) dm_X12_putValue_163 (y_incp (a := ((k : Nat) : Int)) (c := 1) rfl rfl (by decide)) rfl ?_
                      refine me2 (pc' := 98) (S' := []) dm_X12_putValue_166 rfl rfl rfl ?_
                      exact pg_sub (L := [(0, .ref 102), (1, ii (hd : Int)), (2, ii (vk v : Int)), (3, ii (vm v : Int)), (4, ii (((k + 1) : Nat) : Int))]) rfl rfl rfl (ih98 (vm v - (k + 1)) (by omega) (k + 1) u20 rfl (by omega) hRa20 (show rpr u20 ((l ++ ((((if vk v = 3 ∧ vm v = 1 then [44] else []) : List Int) ++ [39]) ++ sgsL v (k + 1))).take 400) from (show ((((if vk v = 3 ∧ vm v = 1 then [44] else []) : List Int) ++ [39]) ++ sgsL v k) ++ ([46]) = (((if vk v = 3 ∧ vm v = 1 then [44] else []) : List Int) ++ [39]) ++ sgsL v (k + 1) by show _ = (((if vk v = 3 ∧ vm v = 1 then [44] else []) : List Int) ++ [39]) ++ (sgsL v k ++ [sgn (vn v k)]); rw [hsg1, List.append_assoc]) ▸ hPa20))
          exact pg_sub (L := [(0, .ref 102), (1, ii (hd : Int)), (2, ii (vk v : Int)), (3, ii (vm v : Int)), (4, ii ((0 : Nat) : Int))]) rfl rfl rfl (lp98 _ 0 u15 rfl (Nat.zero_le _) hRa15 (show rpr u15 ((l ++ ((((if vk v = 3 ∧ vm v = 1 then [44] else []) : List Int) ++ [39]) ++ sgsL v 0)).take 400) from (show ([44]) ++ ([39]) = (((if vk v = 3 ∧ vm v = 1 then [44] else []) : List Int) ++ [39]) ++ sgsL v 0 by rw [hpre]; rfl) ▸ hPa15))
    refine y_sw (a := (vk v : Int)) (2) (t := 178) (i := .tableswitch 316 0 7 #[47, 60, 165, 60, 316, 316, 205, 264]) (len := 47) dm_X12_putValue_13 rfl rfl rfl (by omega) (by decide) (fun hb17 => ?_) (fun hb17 => ?_)
    · refine me0 (pc' := 179) (S' := [ii 0]) dm_X12_putValue_178 rfl rfl rfl rfl ?_
      refine me1 (pc' := 181) (L' := [(4, ii 0), (3, ii (vm v : Int)), (2, ii (vk v : Int)), (0, .ref 102), (1, ii (hd : Int))]) (S' := []) dm_X12_putValue_179 rfl rfl rfl rfl ?_
      have lp181 : ∀ (n181 : Nat) (k : Nat) (t : RS), vm v - k = n181 → (k ≤ vm v) → (prR s t) → (rpr t ((l ++ (nmsL v k)).take 400)) → pgE xt (d - 1) 12 5 false (Option.none : Option Jvm.ClassFile.FieldType) (mj_dec prog_14_method_46_code) 181 [(0, .ref 102), (1, ii (hd : Int)), (2, ii (vk v : Int)), (3, ii (vm v : Int)), (4, ii ((k : Nat) : Int))] [] (rI pre post t.1 t.2.1 t.2.2.1 t.2.2.2) (fun r h' => r = none ∧ ∃ t, h' = rS pre post t ∧ prR s t ∧ rpr t ((l ++ vaL (e + 1) v).take 400)) := by
        intro n181
        induction n181 using Nat.strongRecOn with
        | ind n181 ih181 =>
          intro k t hm181 hk hRt hPt
          have hvt := rv_pr hRt hv
          have hBt := rB_pr hRt hB0
          refine me1 (pc' := 183) (L' := [(0, .ref 102), (1, ii (hd : Int)), (2, ii (vk v : Int)), (3, ii (vm v : Int)), (4, ii ((k : Nat) : Int))]) (S' := [ii ((k : Nat) : Int)]) dm_X12_putValue_181 rfl rfl rfl rfl ?_
          refine me1 (pc' := 184) (L' := [(0, .ref 102), (1, ii (hd : Int)), (2, ii (vk v : Int)), (3, ii (vm v : Int)), (4, ii ((k : Nat) : Int))]) (S' := [ii (vm v : Int), ii ((k : Nat) : Int)]) dm_X12_putValue_183 rfl rfl rfl rfl ?_
          refine y_2ge (a := ((k : Nat) : Int)) (b := (vm v : Int)) (t := 209) (pc' := 187) dm_X12_putValue_184 rfl rfl (by omega) (fun hb18 => ?_) (fun hb18 => ?_)
          · refine me1 (pc' := 210) (L' := [(0, .ref 102), (1, ii (hd : Int)), (2, ii (vk v : Int)), (3, ii (vm v : Int)), (4, ii ((k : Nat) : Int))]) (S' := [.ref 102]) dm_X12_putValue_209 rfl rfl rfl rfl ?_
            refine me0 (pc' := 212) (S' := [ii 98, .ref 102]) dm_X12_putValue_210 rfl rfl rfl rfl ?_
            refine x_cn (pc' := 215) (rest := []) dm_X12_putValue_212 rfl (q_inv (As := [ii 98]) (S := []) hm rfl rfl rfl) rfl rfl rfl (r_put2 hm (by omega) hPt (by omega)) ?_
            rintro _ ⟨u21, rfl, hRa21, hPa21⟩
            rw [take_tk2] at hPa21
            replace hRa21 := prR_tr hRt hRa21
            have hva21 := rv_pr hRa21 hv
            have hBa21 := rB_pr hRa21 hB0
            refine me2 (pc' := 367) (S' := []) dm_X12_putValue_215 rfl rfl rfl ?_
            refine y_ret (r := none) dm_X12_putValue_367 rfl rfl rfl ?_
            have hkq : k = vm v := by omega
            rw [hkq] at hPa21
            refine ⟨rfl, u21, rfl, hRa21, ?_⟩
            rw [show vaL (e + 1) v = (nmsL v (vm v)) ++ ([98]) by first | (exfalso; omega) | (rw [vaL_s]; first | rw [if_pos (by omega)] | (rw [if_neg (by omega), if_pos (by omega)]; unfold sgnL; simp only [List.append_assoc]) | rw [if_neg (by omega), if_neg (by omega), if_pos (by omega)] | (rw [if_neg (by omega), if_neg (by omega), if_neg (by omega), if_pos (by omega)]; simp only [List.append_assoc]) | (rw [if_neg (by omega), if_neg (by omega), if_neg (by omega), if_neg (by omega), if_pos (by omega)]; simp only [List.append_assoc]) | (rw [if_neg (by omega), if_neg (by omega), if_neg (by omega), if_neg (by omega), if_neg (by omega), ← spL_row (by omega) (by omega)]; simp only [Nat.zero_add]; first | (rw [if_pos (by omega)]; rfl) | (rw [if_neg (by omega), if_pos (by omega)]) | (rw [if_neg (by omega), if_neg (by omega)]; rfl)))]
            exact hPa21
          · have hbit := numL_bit (hv.1.2.2.2.2.2 (by omega) k (by omega))
            refine me1 (pc' := 188) (L' := [(0, .ref 102), (1, ii (hd : Int)), (2, ii (vk v : Int)), (3, ii (vm v : Int)), (4, ii ((k : Nat) : Int))]) (S' := [.ref 102]) dm_X12_putValue_187 rfl rfl rfl rfl ?_
            refine me3 (pc' := 191) (S' := [.long (Int64.ofInt 48), .ref 102]) dm_X12_putValue_188 rfl rfl rfl rfl ?_
            refine me1 (pc' := 192) (L' := [(0, .ref 102), (1, ii (hd : Int)), (2, ii (vk v : Int)), (3, ii (vm v : Int)), (4, ii ((k : Nat) : Int))]) (S' := [.ref 102, .long (Int64.ofInt 48), .ref 102]) dm_X12_putValue_191 rfl rfl rfl rfl ?_
            refine me1 (pc' := 193) (L' := [(0, .ref 102), (1, ii (hd : Int)), (2, ii (vk v : Int)), (3, ii (vm v : Int)), (4, ii ((k : Nat) : Int))]) (S' := [ii (hd : Int), .ref 102, .long (Int64.ofInt 48), .ref 102]) dm_X12_putValue_192 rfl rfl rfl rfl ?_
            refine me1 (pc' := 195) (L' := [(0, .ref 102), (1, ii (hd : Int)), (2, ii (vk v : Int)), (3, ii (vm v : Int)), (4, ii ((k : Nat) : Int))]) (S' := [ii ((k : Nat) : Int), ii (hd : Int), .ref 102, .long (Int64.ofInt 48), .ref 102]) dm_X12_putValue_193 rfl rfl rfl rfl ?_
            refine x_cp (pc' := 198) (v := .long (vn v k)) (rest := [.long (Int64.ofInt 48), .ref 102]) dm_X12_putValue_195 rfl (q_inv (As := [ii (hd : Int), ii ((k : Nat) : Int)]) (S := [.long (Int64.ofInt 48), .ref 102]) hm rfl rfl rfl) rfl rfl rfl (r_number_ (k := k) hm (by omega) hBt hvt (by omega) (by omega)) ?_
            refine me0 (pc' := 199) (S' := [.long ((Int64.ofInt 48) + (vn v k)), .ref 102]) dm_X12_putValue_198 rfl rfl rfl rfl ?_
            refine y_l2i (a := 48 + (vn v k).toInt) dm_X12_putValue_199 (pc' := 200) rfl (n_l2i _ (by rw [l_addI (by rw [h48]; omega), h48])) ?_
            refine x_cn (pc' := 203) (rest := []) dm_X12_putValue_200 rfl (q_inv (As := [ii (48 + (vn v k).toInt)]) (S := []) hm rfl rfl rfl) rfl rfl rfl (r_put2 hm (by omega) hPt (by omega)) ?_
            rintro _ ⟨u22, rfl, hRa22, hPa22⟩
            rw [take_tk2] at hPa22
            replace hRa22 := prR_tr hRt hRa22
            have hva22 := rv_pr hRa22 hv
            have hBa22 := rB_pr hRa22 hB0
            refine y_iinc (pc' := 206) (L' := [(4, ii (((k : Nat) : Int) + 1)), (0, .ref 102), (1, ii (hd : Int)), (2, ii (vk v : Int)), (3, ii (vm v : Int))]) dm_X12_putValue_203 (y_incp (a := ((k : Nat) : Int)) (c := 1) rfl rfl (by decide)) rfl ?_
            refine me2 (pc' := 181) (S' := []) dm_X12_putValue_206 rfl rfl rfl ?_
            exact pg_sub (L := [(0, .ref 102), (1, ii (hd : Int)), (2, ii (vk v : Int)), (3, ii (vm v : Int)), (4, ii (((k + 1) : Nat) : Int))]) rfl rfl rfl (ih181 (vm v - (k + 1)) (by omega) (k + 1) u22 rfl (by omega) hRa22 (show rpr u22 ((l ++ (nmsL v (k + 1))).take 400) from (show (nmsL v k) ++ ([48 + (vn v k).toInt]) = nmsL v (k + 1) by show _ = nmsL v k ++ (sepL v k ++ numL (vn v k)); rw [hbit.1, show sepL v k = [] by unfold sepL; rw [if_pos (by omega)]]; rfl) ▸ hPa22))
      exact pg_sub (L := [(0, .ref 102), (1, ii (hd : Int)), (2, ii (vk v : Int)), (3, ii (vm v : Int)), (4, ii ((0 : Nat) : Int))]) rfl rfl rfl (lp181 _ 0 s rfl (Nat.zero_le _) (prR_rf s) (by rw [show l ++ (nmsL v 0) = l from List.append_nil l, rpr_take hP]; exact hP))
    refine y_sw (a := (vk v : Int)) (3) (t := 73) (i := .tableswitch 316 0 7 #[47, 60, 165, 60, 316, 316, 205, 264]) (len := 47) dm_X12_putValue_13 rfl rfl rfl (by omega) (by decide) (fun hb19 => ?_) (fun hb19 => ?_)
    · refine me1 (pc' := 74) (L' := [(3, ii (vm v : Int)), (2, ii (vk v : Int)), (0, .ref 102), (1, ii (hd : Int))]) (S' := [ii (vk v : Int)]) dm_X12_putValue_73 rfl rfl rfl rfl ?_
      refine me0 (pc' := 75) (S' := [ii 3, ii (vk v : Int)]) dm_X12_putValue_74 rfl rfl rfl rfl ?_
      refine y_2ne (a := (vk v : Int)) (b := 3) (t := 89) (pc' := 78) dm_X12_putValue_75 rfl rfl (by omega) (fun hb20 => ?_) (fun hb20 => ?_)
      · have hpre : ((if vk v = 3 ∧ vm v = 1 then [44] else []) : List Int) = [] := if_neg (by omega)
        refine me1 (pc' := 90) (L' := [(3, ii (vm v : Int)), (2, ii (vk v : Int)), (0, .ref 102), (1, ii (hd : Int))]) (S' := [.ref 102]) dm_X12_putValue_89 rfl rfl rfl rfl ?_
        refine me0 (pc' := 92) (S' := [ii 39, .ref 102]) dm_X12_putValue_90 rfl rfl rfl rfl ?_
        refine x_cn (pc' := 95) (rest := []) dm_X12_putValue_92 rfl (q_inv (As := [ii 39]) (S := []) hm rfl rfl rfl) rfl rfl rfl (r_put2 hm (by omega) hP (by omega)) ?_
        rintro _ ⟨u23, rfl, hRa23, hPa23⟩
        have hva23 := rv_pr hRa23 hv
        have hBa23 := rB_pr hRa23 hB0
        refine me0 (pc' := 96) (S' := [ii 0]) dm_X12_putValue_95 rfl rfl rfl rfl ?_
        refine me1 (pc' := 98) (L' := [(4, ii 0), (3, ii (vm v : Int)), (2, ii (vk v : Int)), (0, .ref 102), (1, ii (hd : Int))]) (S' := []) dm_X12_putValue_96 rfl rfl rfl rfl ?_
        have lp98 : ∀ (n98 : Nat) (k : Nat) (t : RS), vm v - k = n98 → (k ≤ vm v) → (prR s t) → (rpr t ((l ++ ((((if vk v = 3 ∧ vm v = 1 then [44] else []) : List Int) ++ [39]) ++ sgsL v k)).take 400)) → pgE xt (d - 1) 12 5 false (Option.none : Option Jvm.ClassFile.FieldType) (mj_dec prog_14_method_46_code) 98 [(0, .ref 102), (1, ii (hd : Int)), (2, ii (vk v : Int)), (3, ii (vm v : Int)), (4, ii ((k : Nat) : Int))] [] (rI pre post t.1 t.2.1 t.2.2.1 t.2.2.2) (fun r h' => r = none ∧ ∃ t, h' = rS pre post t ∧ prR s t ∧ rpr t ((l ++ vaL (e + 1) v).take 400)) := by
          intro n98
          induction n98 using Nat.strongRecOn with
          | ind n98 ih98 =>
            intro k t hm98 hk hRt hPt
            have hvt := rv_pr hRt hv
            have hBt := rB_pr hRt hB0
            refine me1 (pc' := 100) (L' := [(0, .ref 102), (1, ii (hd : Int)), (2, ii (vk v : Int)), (3, ii (vm v : Int)), (4, ii ((k : Nat) : Int))]) (S' := [ii ((k : Nat) : Int)]) dm_X12_putValue_98 rfl rfl rfl rfl ?_
            refine me1 (pc' := 101) (L' := [(0, .ref 102), (1, ii (hd : Int)), (2, ii (vk v : Int)), (3, ii (vm v : Int)), (4, ii ((k : Nat) : Int))]) (S' := [ii (vm v : Int), ii ((k : Nat) : Int)]) dm_X12_putValue_100 rfl rfl rfl rfl ?_
            refine y_2ge (a := ((k : Nat) : Int)) (b := (vm v : Int)) (t := 169) (pc' := 104) dm_X12_putValue_101 rfl rfl (by omega) (fun hb21 => ?_) (fun hb21 => ?_)
            · refine me1 (pc' := 170) (L' := [(0, .ref 102), (1, ii (hd : Int)), (2, ii (vk v : Int)), (3, ii (vm v : Int)), (4, ii ((k : Nat) : Int))]) (S' := [.ref 102]) dm_X12_putValue_169 rfl rfl rfl rfl ?_
              refine me0 (pc' := 172) (S' := [ii 39, .ref 102]) dm_X12_putValue_170 rfl rfl rfl rfl ?_
              refine x_cn (pc' := 175) (rest := []) dm_X12_putValue_172 rfl (q_inv (As := [ii 39]) (S := []) hm rfl rfl rfl) rfl rfl rfl (r_put2 hm (by omega) hPt (by omega)) ?_
              rintro _ ⟨u24, rfl, hRa24, hPa24⟩
              rw [take_tk2] at hPa24
              replace hRa24 := prR_tr hRt hRa24
              have hva24 := rv_pr hRa24 hv
              have hBa24 := rB_pr hRa24 hB0
              refine me2 (pc' := 367) (S' := []) dm_X12_putValue_175 rfl rfl rfl ?_
              refine y_ret (r := none) dm_X12_putValue_367 rfl rfl rfl ?_
              have hkq : k = vm v := by omega
              rw [hkq] at hPa24
              refine ⟨rfl, u24, rfl, hRa24, ?_⟩
              rw [show vaL (e + 1) v = ((((if vk v = 3 ∧ vm v = 1 then [44] else []) : List Int) ++ [39]) ++ sgsL v (vm v)) ++ ([39]) by first | (exfalso; omega) | (rw [vaL_s]; first | rw [if_pos (by omega)] | (rw [if_neg (by omega), if_pos (by omega)]; unfold sgnL; simp only [List.append_assoc]) | rw [if_neg (by omega), if_neg (by omega), if_pos (by omega)] | (rw [if_neg (by omega), if_neg (by omega), if_neg (by omega), if_pos (by omega)]; simp only [List.append_assoc]) | (rw [if_neg (by omega), if_neg (by omega), if_neg (by omega), if_neg (by omega), if_pos (by omega)]; simp only [List.append_assoc]) | (rw [if_neg (by omega), if_neg (by omega), if_neg (by omega), if_neg (by omega), if_neg (by omega), ← spL_row (by omega) (by omega)]; simp only [Nat.zero_add]; first | (rw [if_pos (by omega)]; rfl) | (rw [if_neg (by omega), if_pos (by omega)]) | (rw [if_neg (by omega), if_neg (by omega)]; rfl)))]
              exact hPa24
            · refine me1 (pc' := 105) (L' := [(0, .ref 102), (1, ii (hd : Int)), (2, ii (vk v : Int)), (3, ii (vm v : Int)), (4, ii ((k : Nat) : Int))]) (S' := [.ref 102]) dm_X12_putValue_104 rfl rfl rfl rfl ?_
              refine me1 (pc' := 106) (L' := [(0, .ref 102), (1, ii (hd : Int)), (2, ii (vk v : Int)), (3, ii (vm v : Int)), (4, ii ((k : Nat) : Int))]) (S' := [.ref 102, .ref 102]) dm_X12_putValue_105 rfl rfl rfl rfl ?_
              refine me1 (pc' := 107) (L' := [(0, .ref 102), (1, ii (hd : Int)), (2, ii (vk v : Int)), (3, ii (vm v : Int)), (4, ii ((k : Nat) : Int))]) (S' := [ii (hd : Int), .ref 102, .ref 102]) dm_X12_putValue_106 rfl rfl rfl rfl ?_
              refine me1 (pc' := 109) (L' := [(0, .ref 102), (1, ii (hd : Int)), (2, ii (vk v : Int)), (3, ii (vm v : Int)), (4, ii ((k : Nat) : Int))]) (S' := [ii ((k : Nat) : Int), ii (hd : Int), .ref 102, .ref 102]) dm_X12_putValue_107 rfl rfl rfl rfl ?_
              refine x_cp (pc' := 112) (v := .long (vn v k)) (rest := [.ref 102]) dm_X12_putValue_109 rfl (q_inv (As := [ii (hd : Int), ii ((k : Nat) : Int)]) (S := [.ref 102]) hm rfl rfl rfl) rfl rfl rfl (r_number_ (k := k) hm (by omega) hBt hvt (by omega) (by omega)) ?_
              refine me3 (pc' := 115) (S' := [.long (Int64.ofInt 32), .long (vn v k), .ref 102]) dm_X12_putValue_112 rfl rfl rfl rfl ?_
              refine y_llt (x := vn v k) (y := Int64.ofInt 32) (t := 147) (pc1 := 116) (pc' := 119) dm_X12_putValue_115 rfl dm_X12_putValue_116 rfl rfl (fun hb22 => ?_) (fun hb22 => ?_)
              · rw [h32] at hb22
                refine me0 (pc' := 149) (S' := [ii 46, .ref 102]) dm_X12_putValue_147 rfl rfl rfl rfl ?_
                refine me2 (pc' := 160) (S' := [ii 46, .ref 102]) dm_X12_putValue_149 rfl rfl rfl ?_
                have hsg1 : sgn (vn v k) = 46 := by unfold sgn; rw [if_pos (by omega)]
                refine x_cn (pc' := 163) (rest := []) dm_X12_putValue_160 rfl (q_inv (As := [ii 46]) (S := []) hm rfl rfl rfl) rfl rfl rfl (r_put2 hm (by omega) hPt (by omega)) ?_
                rintro _ ⟨u25, rfl, hRa25, hPa25⟩
                rw [take_tk2] at hPa25
                replace hRa25 := prR_tr hRt hRa25
                have hva25 := rv_pr hRa25 hv
                have hBa25 := rB_pr hRa25 hB0
                refine y_iinc (pc' := 166) (L' := [(4, ii (((k : Nat) : Int) + 1)), (0, .ref 102), (1, ii (hd : Int)), (2, ii (vk v : Int)), (3, ii (vm v : Int))]) dm_X12_putValue_163 (y_incp (a := ((k : Nat) : Int)) (c := 1) rfl rfl (by decide)) rfl ?_
                refine me2 (pc' := 98) (S' := []) dm_X12_putValue_166 rfl rfl rfl ?_
                exact pg_sub (L := [(0, .ref 102), (1, ii (hd : Int)), (2, ii (vk v : Int)), (3, ii (vm v : Int)), (4, ii (((k + 1) : Nat) : Int))]) rfl rfl rfl (ih98 (vm v - (k + 1)) (by omega) (k + 1) u25 rfl (by omega) hRa25 (show rpr u25 ((l ++ ((((if vk v = 3 ∧ vm v = 1 then [44] else []) : List Int) ++ [39]) ++ sgsL v (k + 1))).take 400) from (show ((((if vk v = 3 ∧ vm v = 1 then [44] else []) : List Int) ++ [39]) ++ sgsL v k) ++ ([46]) = (((if vk v = 3 ∧ vm v = 1 then [44] else []) : List Int) ++ [39]) ++ sgsL v (k + 1) by show _ = (((if vk v = 3 ∧ vm v = 1 then [44] else []) : List Int) ++ [39]) ++ (sgsL v k ++ [sgn (vn v k)]); rw [hsg1, List.append_assoc]) ▸ hPa25))
              · rw [h32] at hb22
                refine me1 (pc' := 120) (L' := [(0, .ref 102), (1, ii (hd : Int)), (2, ii (vk v : Int)), (3, ii (vm v : Int)), (4, ii ((k : Nat) : Int))]) (S' := [.ref 102, .ref 102]) dm_X12_putValue_119 rfl rfl rfl rfl ?_
                refine me1 (pc' := 121) (L' := [(0, .ref 102), (1, ii (hd : Int)), (2, ii (vk v : Int)), (3, ii (vm v : Int)), (4, ii ((k : Nat) : Int))]) (S' := [ii (hd : Int), .ref 102, .ref 102]) dm_X12_putValue_120 rfl rfl rfl rfl ?_
                refine me1 (pc' := 123) (L' := [(0, .ref 102), (1, ii (hd : Int)), (2, ii (vk v : Int)), (3, ii (vm v : Int)), (4, ii ((k : Nat) : Int))]) (S' := [ii ((k : Nat) : Int), ii (hd : Int), .ref 102, .ref 102]) dm_X12_putValue_121 rfl rfl rfl rfl ?_
                refine x_cp (pc' := 126) (v := .long (vn v k)) (rest := [.ref 102]) dm_X12_putValue_123 rfl (q_inv (As := [ii (hd : Int), ii ((k : Nat) : Int)]) (S := [.ref 102]) hm rfl rfl rfl) rfl rfl rfl (r_number_ (k := k) hm (by omega) hBt hvt (by omega) (by omega)) ?_
                refine me3 (pc' := 129) (S' := [.long (Int64.ofInt 126), .long (vn v k), .ref 102]) dm_X12_putValue_126 rfl rfl rfl rfl ?_
                refine y_lgt (x := vn v k) (y := Int64.ofInt 126) (t := 147) (pc1 := 130) (pc' := 133) dm_X12_putValue_129 rfl dm_X12_putValue_130 rfl rfl (fun hb23 => ?_) (fun hb23 => ?_)
                · rw [h126] at hb23
                  refine me0 (pc' := 149) (S' := [ii 46, .ref 102]) dm_X12_putValue_147 rfl rfl rfl rfl ?_
                  refine me2 (pc' := 160) (S' := [ii 46, .ref 102]) dm_X12_putValue_149 rfl rfl rfl ?_
                  have hsg1 : sgn (vn v k) = 46 := by unfold sgn; rw [if_pos (by omega)]
                  refine x_cn (pc' := 163) (rest := []) dm_X12_putValue_160 rfl (q_inv (As := [ii 46]) (S := []) hm rfl rfl rfl) rfl rfl rfl (r_put2 hm (by omega) hPt (by omega)) ?_
                  rintro _ ⟨u26, rfl, hRa26, hPa26⟩
                  rw [take_tk2] at hPa26
                  replace hRa26 := prR_tr hRt hRa26
                  have hva26 := rv_pr hRa26 hv
                  have hBa26 := rB_pr hRa26 hB0
                  refine y_iinc (pc' := 166) (L' := [(4, ii (((k : Nat) : Int) + 1)), (0, .ref 102), (1, ii (hd : Int)), (2, ii (vk v : Int)), (3, ii (vm v : Int))]) dm_X12_putValue_163 (y_incp (a := ((k : Nat) : Int)) (c := 1) rfl rfl (by decide)) rfl ?_
                  refine me2 (pc' := 98) (S' := []) dm_X12_putValue_166 rfl rfl rfl ?_
                  exact pg_sub (L := [(0, .ref 102), (1, ii (hd : Int)), (2, ii (vk v : Int)), (3, ii (vm v : Int)), (4, ii (((k + 1) : Nat) : Int))]) rfl rfl rfl (ih98 (vm v - (k + 1)) (by omega) (k + 1) u26 rfl (by omega) hRa26 (show rpr u26 ((l ++ ((((if vk v = 3 ∧ vm v = 1 then [44] else []) : List Int) ++ [39]) ++ sgsL v (k + 1))).take 400) from (show ((((if vk v = 3 ∧ vm v = 1 then [44] else []) : List Int) ++ [39]) ++ sgsL v k) ++ ([46]) = (((if vk v = 3 ∧ vm v = 1 then [44] else []) : List Int) ++ [39]) ++ sgsL v (k + 1) by show _ = (((if vk v = 3 ∧ vm v = 1 then [44] else []) : List Int) ++ [39]) ++ (sgsL v k ++ [sgn (vn v k)]); rw [hsg1, List.append_assoc]) ▸ hPa26))
                · rw [h126] at hb23
                  refine me1 (pc' := 134) (L' := [(0, .ref 102), (1, ii (hd : Int)), (2, ii (vk v : Int)), (3, ii (vm v : Int)), (4, ii ((k : Nat) : Int))]) (S' := [.ref 102, .ref 102]) dm_X12_putValue_133 rfl rfl rfl rfl ?_
                  refine me1 (pc' := 135) (L' := [(0, .ref 102), (1, ii (hd : Int)), (2, ii (vk v : Int)), (3, ii (vm v : Int)), (4, ii ((k : Nat) : Int))]) (S' := [ii (hd : Int), .ref 102, .ref 102]) dm_X12_putValue_134 rfl rfl rfl rfl ?_
                  refine me1 (pc' := 137) (L' := [(0, .ref 102), (1, ii (hd : Int)), (2, ii (vk v : Int)), (3, ii (vm v : Int)), (4, ii ((k : Nat) : Int))]) (S' := [ii ((k : Nat) : Int), ii (hd : Int), .ref 102, .ref 102]) dm_X12_putValue_135 rfl rfl rfl rfl ?_
                  refine x_cp (pc' := 140) (v := .long (vn v k)) (rest := [.ref 102]) dm_X12_putValue_137 rfl (q_inv (As := [ii (hd : Int), ii ((k : Nat) : Int)]) (S := [.ref 102]) hm rfl rfl rfl) rfl rfl rfl (r_number_ (k := k) hm (by omega) hBt hvt (by omega) (by omega)) ?_
                  refine me3 (pc' := 143) (S' := [.long (Int64.ofInt 39), .long (vn v k), .ref 102]) dm_X12_putValue_140 rfl rfl rfl rfl ?_
                  refine y_lne (x := vn v k) (y := Int64.ofInt 39) (t := 152) (pc1 := 144) (pc' := 147) dm_X12_putValue_143 rfl dm_X12_putValue_144 rfl rfl (fun hb24 => ?_) (fun hb24 => ?_)
                  · have hbx : (vn v k).toInt ≠ 39 := fun z => hb24 (Int64.toInt_inj.mp (z.trans h39.symm))
                    refine me1 (pc' := 153) (L' := [(0, .ref 102), (1, ii (hd : Int)), (2, ii (vk v : Int)), (3, ii (vm v : Int)), (4, ii ((k : Nat) : Int))]) (S' := [.ref 102, .ref 102]) dm_X12_putValue_152 rfl rfl rfl rfl ?_
                    refine me1 (pc' := 154) (L' := [(0, .ref 102), (1, ii (hd : Int)), (2, ii (vk v : Int)), (3, ii (vm v : Int)), (4, ii ((k : Nat) : Int))]) (S' := [ii (hd : Int), .ref 102, .ref 102]) dm_X12_putValue_153 rfl rfl rfl rfl ?_
                    refine me1 (pc' := 156) (L' := [(0, .ref 102), (1, ii (hd : Int)), (2, ii (vk v : Int)), (3, ii (vm v : Int)), (4, ii ((k : Nat) : Int))]) (S' := [ii ((k : Nat) : Int), ii (hd : Int), .ref 102, .ref 102]) dm_X12_putValue_154 rfl rfl rfl rfl ?_
                    refine x_cp (pc' := 159) (v := .long (vn v k)) (rest := [.ref 102]) dm_X12_putValue_156 rfl (q_inv (As := [ii (hd : Int), ii ((k : Nat) : Int)]) (S := [.ref 102]) hm rfl rfl rfl) rfl rfl rfl (r_number_ (k := k) hm (by omega) hBt hvt (by omega) (by omega)) ?_
                    refine y_l2i (a := (vn v k).toInt) dm_X12_putValue_159 (pc' := 160) rfl (n_l2i _ rfl) ?_
                    have hsg1 : sgn (vn v k) = (vn v k).toInt := by unfold sgn; rw [if_neg (by omega)]
                    refine x_cn (pc' := 163) (rest := []) dm_X12_putValue_160 rfl (q_inv (As := [ii ((vn v k).toInt)]) (S := []) hm rfl rfl rfl) rfl rfl rfl (r_put2 hm (by omega) hPt (by omega)) ?_
                    rintro _ ⟨u27, rfl, hRa27, hPa27⟩
                    rw [take_tk2] at hPa27
                    replace hRa27 := prR_tr hRt hRa27
                    have hva27 := rv_pr hRa27 hv
                    have hBa27 := rB_pr hRa27 hB0
                    refine y_iinc (pc' := 166) (L' := [(4, ii (((k : Nat) : Int) + 1)), (0, .ref 102), (1, ii (hd : Int)), (2, ii (vk v : Int)), (3, ii (vm v : Int))]) dm_X12_putValue_163 (y_incp (a := ((k : Nat) : Int)) (c := 1) rfl rfl (by decide)) rfl ?_
                    refine me2 (pc' := 98) (S' := []) dm_X12_putValue_166 rfl rfl rfl ?_
                    exact pg_sub (L := [(0, .ref 102), (1, ii (hd : Int)), (2, ii (vk v : Int)), (3, ii (vm v : Int)), (4, ii (((k + 1) : Nat) : Int))]) rfl rfl rfl (ih98 (vm v - (k + 1)) (by omega) (k + 1) u27 rfl (by omega) hRa27 (show rpr u27 ((l ++ ((((if vk v = 3 ∧ vm v = 1 then [44] else []) : List Int) ++ [39]) ++ sgsL v (k + 1))).take 400) from (show ((((if vk v = 3 ∧ vm v = 1 then [44] else []) : List Int) ++ [39]) ++ sgsL v k) ++ ([(vn v k).toInt]) = (((if vk v = 3 ∧ vm v = 1 then [44] else []) : List Int) ++ [39]) ++ sgsL v (k + 1) by show _ = (((if vk v = 3 ∧ vm v = 1 then [44] else []) : List Int) ++ [39]) ++ (sgsL v k ++ [sgn (vn v k)]); rw [hsg1, List.append_assoc]) ▸ hPa27))
                  · have hbx := congrArg Int64.toInt hb24
                    rw [h39] at hbx
                    refine me0 (pc' := 149) (S' := [ii 46, .ref 102]) dm_X12_putValue_147 rfl rfl rfl rfl ?_
                    refine me2 (pc' := 160) (S' := [ii 46, .ref 102]) dm_X12_putValue_149 rfl rfl rfl ?_
                    have hsg1 : sgn (vn v k) = 46 := by unfold sgn; rw [if_pos (by omega)]
                    refine x_cn (pc' := 163) (rest := []) dm_X12_putValue_160 rfl (q_inv (As := [ii 46]) (S := []) hm rfl rfl rfl) rfl rfl rfl (r_put2 hm (by omega) hPt (by omega)) ?_
                    rintro _ ⟨u28, rfl, hRa28, hPa28⟩
                    rw [take_tk2] at hPa28
                    replace hRa28 := prR_tr hRt hRa28
                    have hva28 := rv_pr hRa28 hv
                    have hBa28 := rB_pr hRa28 hB0
                    refine y_iinc (pc' := 166) (L' := [(4, ii (((k : Nat) : Int) + 1)), (0, .ref 102), (1, ii (hd : Int)), (2, ii (vk v : Int)), (3, ii (vm v : Int))]) dm_X12_putValue_163 (y_incp (a := ((k : Nat) : Int)) (c := 1) rfl rfl (by decide)) rfl ?_
                    refine me2 (pc' := 98) (S' := []) dm_X12_putValue_166 rfl rfl rfl ?_
                    exact pg_sub (L := [(0, .ref 102), (1, ii (hd : Int)), (2, ii (vk v : Int)), (3, ii (vm v : Int)), (4, ii (((k + 1) : Nat) : Int))]) rfl rfl rfl (ih98 (vm v - (k + 1)) (by omega) (k + 1) u28 rfl (by omega) hRa28 (show rpr u28 ((l ++ ((((if vk v = 3 ∧ vm v = 1 then [44] else []) : List Int) ++ [39]) ++ sgsL v (k + 1))).take 400) from (show ((((if vk v = 3 ∧ vm v = 1 then [44] else []) : List Int) ++ [39]) ++ sgsL v k) ++ ([46]) = (((if vk v = 3 ∧ vm v = 1 then [44] else []) : List Int) ++ [39]) ++ sgsL v (k + 1) by show _ = (((if vk v = 3 ∧ vm v = 1 then [44] else []) : List Int) ++ [39]) ++ (sgsL v k ++ [sgn (vn v k)]); rw [hsg1, List.append_assoc]) ▸ hPa28))
        exact pg_sub (L := [(0, .ref 102), (1, ii (hd : Int)), (2, ii (vk v : Int)), (3, ii (vm v : Int)), (4, ii ((0 : Nat) : Int))]) rfl rfl rfl (lp98 _ 0 u23 rfl (Nat.zero_le _) hRa23 (show rpr u23 ((l ++ ((((if vk v = 3 ∧ vm v = 1 then [44] else []) : List Int) ++ [39]) ++ sgsL v 0)).take 400) from (show [39] = (((if vk v = 3 ∧ vm v = 1 then [44] else []) : List Int) ++ [39]) ++ sgsL v 0 by rw [hpre]; rfl) ▸ hPa23))
      · refine me1 (pc' := 79) (L' := [(3, ii (vm v : Int)), (2, ii (vk v : Int)), (0, .ref 102), (1, ii (hd : Int))]) (S' := [ii (vm v : Int)]) dm_X12_putValue_78 rfl rfl rfl rfl ?_
        refine me0 (pc' := 80) (S' := [ii 1, ii (vm v : Int)]) dm_X12_putValue_79 rfl rfl rfl rfl ?_
        refine y_2ne (a := (vm v : Int)) (b := 1) (t := 89) (pc' := 83) dm_X12_putValue_80 rfl rfl (by omega) (fun hb25 => ?_) (fun hb25 => ?_)
        · have hpre : ((if vk v = 3 ∧ vm v = 1 then [44] else []) : List Int) = [] := if_neg (by omega)
          refine me1 (pc' := 90) (L' := [(3, ii (vm v : Int)), (2, ii (vk v : Int)), (0, .ref 102), (1, ii (hd : Int))]) (S' := [.ref 102]) dm_X12_putValue_89 rfl rfl rfl rfl ?_
          refine me0 (pc' := 92) (S' := [ii 39, .ref 102]) dm_X12_putValue_90 rfl rfl rfl rfl ?_
          refine x_cn (pc' := 95) (rest := []) dm_X12_putValue_92 rfl (q_inv (As := [ii 39]) (S := []) hm rfl rfl rfl) rfl rfl rfl (r_put2 hm (by omega) hP (by omega)) ?_
          rintro _ ⟨u29, rfl, hRa29, hPa29⟩
          have hva29 := rv_pr hRa29 hv
          have hBa29 := rB_pr hRa29 hB0
          refine me0 (pc' := 96) (S' := [ii 0]) dm_X12_putValue_95 rfl rfl rfl rfl ?_
          refine me1 (pc' := 98) (L' := [(4, ii 0), (3, ii (vm v : Int)), (2, ii (vk v : Int)), (0, .ref 102), (1, ii (hd : Int))]) (S' := []) dm_X12_putValue_96 rfl rfl rfl rfl ?_
          have lp98 : ∀ (n98 : Nat) (k : Nat) (t : RS), vm v - k = n98 → (k ≤ vm v) → (prR s t) → (rpr t ((l ++ ((((if vk v = 3 ∧ vm v = 1 then [44] else []) : List Int) ++ [39]) ++ sgsL v k)).take 400)) → pgE xt (d - 1) 12 5 false (Option.none : Option Jvm.ClassFile.FieldType) (mj_dec prog_14_method_46_code) 98 [(0, .ref 102), (1, ii (hd : Int)), (2, ii (vk v : Int)), (3, ii (vm v : Int)), (4, ii ((k : Nat) : Int))] [] (rI pre post t.1 t.2.1 t.2.2.1 t.2.2.2) (fun r h' => r = none ∧ ∃ t, h' = rS pre post t ∧ prR s t ∧ rpr t ((l ++ vaL (e + 1) v).take 400)) := by
            intro n98
            induction n98 using Nat.strongRecOn with
            | ind n98 ih98 =>
              intro k t hm98 hk hRt hPt
              have hvt := rv_pr hRt hv
              have hBt := rB_pr hRt hB0
              refine me1 (pc' := 100) (L' := [(0, .ref 102), (1, ii (hd : Int)), (2, ii (vk v : Int)), (3, ii (vm v : Int)), (4, ii ((k : Nat) : Int))]) (S' := [ii ((k : Nat) : Int)]) dm_X12_putValue_98 rfl rfl rfl rfl ?_
              refine me1 (pc' := 101) (L' := [(0, .ref 102), (1, ii (hd : Int)), (2, ii (vk v : Int)), (3, ii (vm v : Int)), (4, ii ((k : Nat) : Int))]) (S' := [ii (vm v : Int), ii ((k : Nat) : Int)]) dm_X12_putValue_100 rfl rfl rfl rfl ?_
              refine y_2ge (a := ((k : Nat) : Int)) (b := (vm v : Int)) (t := 169) (pc' := 104) dm_X12_putValue_101 rfl rfl (by omega) (fun hb26 => ?_) (fun hb26 => ?_)
              · refine me1 (pc' := 170) (L' := [(0, .ref 102), (1, ii (hd : Int)), (2, ii (vk v : Int)), (3, ii (vm v : Int)), (4, ii ((k : Nat) : Int))]) (S' := [.ref 102]) dm_X12_putValue_169 rfl rfl rfl rfl ?_
                refine me0 (pc' := 172) (S' := [ii 39, .ref 102]) dm_X12_putValue_170 rfl rfl rfl rfl ?_
                refine x_cn (pc' := 175) (rest := []) dm_X12_putValue_172 rfl (q_inv (As := [ii 39]) (S := []) hm rfl rfl rfl) rfl rfl rfl (r_put2 hm (by omega) hPt (by omega)) ?_
                rintro _ ⟨u30, rfl, hRa30, hPa30⟩
                rw [take_tk2] at hPa30
                replace hRa30 := prR_tr hRt hRa30
                have hva30 := rv_pr hRa30 hv
                have hBa30 := rB_pr hRa30 hB0
                refine me2 (pc' := 367) (S' := []) dm_X12_putValue_175 rfl rfl rfl ?_
                refine y_ret (r := none) dm_X12_putValue_367 rfl rfl rfl ?_
                have hkq : k = vm v := by omega
                rw [hkq] at hPa30
                refine ⟨rfl, u30, rfl, hRa30, ?_⟩
                rw [show vaL (e + 1) v = ((((if vk v = 3 ∧ vm v = 1 then [44] else []) : List Int) ++ [39]) ++ sgsL v (vm v)) ++ ([39]) by first | (exfalso; omega) | (rw [vaL_s]; first | rw [if_pos (by omega)] | (rw [if_neg (by omega), if_pos (by omega)]; unfold sgnL; simp only [List.append_assoc]) | rw [if_neg (by omega), if_neg (by omega), if_pos (by omega)] | (rw [if_neg (by omega), if_neg (by omega), if_neg (by omega), if_pos (by omega)]; simp only [List.append_assoc]) | (rw [if_neg (by omega), if_neg (by omega), if_neg (by omega), if_neg (by omega), if_pos (by omega)]; simp only [List.append_assoc]) | (rw [if_neg (by omega), if_neg (by omega), if_neg (by omega), if_neg (by omega), if_neg (by omega), ← spL_row (by omega) (by omega)]; simp only [Nat.zero_add]; first | (rw [if_pos (by omega)]; rfl) | (rw [if_neg (by omega), if_pos (by omega)]) | (rw [if_neg (by omega), if_neg (by omega)]; rfl)))]
                exact hPa30
              · refine me1 (pc' := 105) (L' := [(0, .ref 102), (1, ii (hd : Int)), (2, ii (vk v : Int)), (3, ii (vm v : Int)), (4, ii ((k : Nat) : Int))]) (S' := [.ref 102]) dm_X12_putValue_104 rfl rfl rfl rfl ?_
                refine me1 (pc' := 106) (L' := [(0, .ref 102), (1, ii (hd : Int)), (2, ii (vk v : Int)), (3, ii (vm v : Int)), (4, ii ((k : Nat) : Int))]) (S' := [.ref 102, .ref 102]) dm_X12_putValue_105 rfl rfl rfl rfl ?_
                refine me1 (pc' := 107) (L' := [(0, .ref 102), (1, ii (hd : Int)), (2, ii (vk v : Int)), (3, ii (vm v : Int)), (4, ii ((k : Nat) : Int))]) (S' := [ii (hd : Int), .ref 102, .ref 102]) dm_X12_putValue_106 rfl rfl rfl rfl ?_
                refine me1 (pc' := 109) (L' := [(0, .ref 102), (1, ii (hd : Int)), (2, ii (vk v : Int)), (3, ii (vm v : Int)), (4, ii ((k : Nat) : Int))]) (S' := [ii ((k : Nat) : Int), ii (hd : Int), .ref 102, .ref 102]) dm_X12_putValue_107 rfl rfl rfl rfl ?_
                refine x_cp (pc' := 112) (v := .long (vn v k)) (rest := [.ref 102]) dm_X12_putValue_109 rfl (q_inv (As := [ii (hd : Int), ii ((k : Nat) : Int)]) (S := [.ref 102]) hm rfl rfl rfl) rfl rfl rfl (r_number_ (k := k) hm (by omega) hBt hvt (by omega) (by omega)) ?_
                refine me3 (pc' := 115) (S' := [.long (Int64.ofInt 32), .long (vn v k), .ref 102]) dm_X12_putValue_112 rfl rfl rfl rfl ?_
                refine y_llt (x := vn v k) (y := Int64.ofInt 32) (t := 147) (pc1 := 116) (pc' := 119) dm_X12_putValue_115 rfl dm_X12_putValue_116 rfl rfl (fun hb27 => ?_) (fun hb27 => ?_)
                · rw [h32] at hb27
                  refine me0 (pc' := 149) (S' := [ii 46, .ref 102]) dm_X12_putValue_147 rfl rfl rfl rfl ?_
                  refine me2 (pc' := 160) (S' := [ii 46, .ref 102]) dm_X12_putValue_149 rfl rfl rfl ?_
                  have hsg1 : sgn (vn v k) = 46 := by unfold sgn; rw [if_pos (by omega)]
                  refine x_cn (pc' := 163) (rest := []) dm_X12_putValue_160 rfl (q_inv (As := [ii 46]) (S := []) hm rfl rfl rfl) rfl rfl rfl (r_put2 hm (by omega) hPt (by omega)) ?_
                  rintro _ ⟨u31, rfl, hRa31, hPa31⟩
                  rw [take_tk2] at hPa31
                  replace hRa31 := prR_tr hRt hRa31
                  have hva31 := rv_pr hRa31 hv
                  have hBa31 := rB_pr hRa31 hB0
                  refine y_iinc (pc' := 166) (L' := [(4, ii (((k : Nat) : Int) + 1)), (0, .ref 102), (1, ii (hd : Int)), (2, ii (vk v : Int)), (3, ii (vm v : Int))]) dm_X12_putValue_163 (y_incp (a := ((k : Nat) : Int)) (c := 1) rfl rfl (by decide)) rfl ?_
                  refine me2 (pc' := 98) (S' := []) dm_X12_putValue_166 rfl rfl rfl ?_
                  exact pg_sub (L := [(0, .ref 102), (1, ii (hd : Int)), (2, ii (vk v : Int)), (3, ii (vm v : Int)), (4, ii (((k + 1) : Nat) : Int))]) rfl rfl rfl (ih98 (vm v - (k + 1)) (by omega) (k + 1) u31 rfl (by omega) hRa31 (show rpr u31 ((l ++ ((((if vk v = 3 ∧ vm v = 1 then [44] else []) : List Int) ++ [39]) ++ sgsL v (k + 1))).take 400) from (show ((((if vk v = 3 ∧ vm v = 1 then [44] else []) : List Int) ++ [39]) ++ sgsL v k) ++ ([46]) = (((if vk v = 3 ∧ vm v = 1 then [44] else []) : List Int) ++ [39]) ++ sgsL v (k + 1) by show _ = (((if vk v = 3 ∧ vm v = 1 then [44] else []) : List Int) ++ [39]) ++ (sgsL v k ++ [sgn (vn v k)]); rw [hsg1, List.append_assoc]) ▸ hPa31))
                · rw [h32] at hb27
                  refine me1 (pc' := 120) (L' := [(0, .ref 102), (1, ii (hd : Int)), (2, ii (vk v : Int)), (3, ii (vm v : Int)), (4, ii ((k : Nat) : Int))]) (S' := [.ref 102, .ref 102]) dm_X12_putValue_119 rfl rfl rfl rfl ?_
                  refine me1 (pc' := 121) (L' := [(0, .ref 102), (1, ii (hd : Int)), (2, ii (vk v : Int)), (3, ii (vm v : Int)), (4, ii ((k : Nat) : Int))]) (S' := [ii (hd : Int), .ref 102, .ref 102]) dm_X12_putValue_120 rfl rfl rfl rfl ?_
                  refine me1 (pc' := 123) (L' := [(0, .ref 102), (1, ii (hd : Int)), (2, ii (vk v : Int)), (3, ii (vm v : Int)), (4, ii ((k : Nat) : Int))]) (S' := [ii ((k : Nat) : Int), ii (hd : Int), .ref 102, .ref 102]) dm_X12_putValue_121 rfl rfl rfl rfl ?_
                  refine x_cp (pc' := 126) (v := .long (vn v k)) (rest := [.ref 102]) dm_X12_putValue_123 rfl (q_inv (As := [ii (hd : Int), ii ((k : Nat) : Int)]) (S := [.ref 102]) hm rfl rfl rfl) rfl rfl rfl (r_number_ (k := k) hm (by omega) hBt hvt (by omega) (by omega)) ?_
                  refine me3 (pc' := 129) (S' := [.long (Int64.ofInt 126), .long (vn v k), .ref 102]) dm_X12_putValue_126 rfl rfl rfl rfl ?_
                  refine y_lgt (x := vn v k) (y := Int64.ofInt 126) (t := 147) (pc1 := 130) (pc' := 133) dm_X12_putValue_129 rfl dm_X12_putValue_130 rfl rfl (fun hb28 => ?_) (fun hb28 => ?_)
                  · rw [h126] at hb28
                    refine me0 (pc' := 149) (S' := [ii 46, .ref 102]) dm_X12_putValue_147 rfl rfl rfl rfl ?_
                    refine me2 (pc' := 160) (S' := [ii 46, .ref 102]) dm_X12_putValue_149 rfl rfl rfl ?_
                    have hsg1 : sgn (vn v k) = 46 := by unfold sgn; rw [if_pos (by omega)]
                    refine x_cn (pc' := 163) (rest := []) dm_X12_putValue_160 rfl (q_inv (As := [ii 46]) (S := []) hm rfl rfl rfl) rfl rfl rfl (r_put2 hm (by omega) hPt (by omega)) ?_
                    rintro _ ⟨u32, rfl, hRa32, hPa32⟩
                    rw [take_tk2] at hPa32
                    replace hRa32 := prR_tr hRt hRa32
                    have hva32 := rv_pr hRa32 hv
                    have hBa32 := rB_pr hRa32 hB0
                    refine y_iinc (pc' := 166) (L' := [(4, ii (((k : Nat) : Int) + 1)), (0, .ref 102), (1, ii (hd : Int)), (2, ii (vk v : Int)), (3, ii (vm v : Int))]) dm_X12_putValue_163 (y_incp (a := ((k : Nat) : Int)) (c := 1) rfl rfl (by decide)) rfl ?_
                    refine me2 (pc' := 98) (S' := []) dm_X12_putValue_166 rfl rfl rfl ?_
                    exact pg_sub (L := [(0, .ref 102), (1, ii (hd : Int)), (2, ii (vk v : Int)), (3, ii (vm v : Int)), (4, ii (((k + 1) : Nat) : Int))]) rfl rfl rfl (ih98 (vm v - (k + 1)) (by omega) (k + 1) u32 rfl (by omega) hRa32 (show rpr u32 ((l ++ ((((if vk v = 3 ∧ vm v = 1 then [44] else []) : List Int) ++ [39]) ++ sgsL v (k + 1))).take 400) from (show ((((if vk v = 3 ∧ vm v = 1 then [44] else []) : List Int) ++ [39]) ++ sgsL v k) ++ ([46]) = (((if vk v = 3 ∧ vm v = 1 then [44] else []) : List Int) ++ [39]) ++ sgsL v (k + 1) by show _ = (((if vk v = 3 ∧ vm v = 1 then [44] else []) : List Int) ++ [39]) ++ (sgsL v k ++ [sgn (vn v k)]); rw [hsg1, List.append_assoc]) ▸ hPa32))
                  · rw [h126] at hb28
                    refine me1 (pc' := 134) (L' := [(0, .ref 102), (1, ii (hd : Int)), (2, ii (vk v : Int)), (3, ii (vm v : Int)), (4, ii ((k : Nat) : Int))]) (S' := [.ref 102, .ref 102]) dm_X12_putValue_133 rfl rfl rfl rfl ?_
                    refine me1 (pc' := 135) (L' := [(0, .ref 102), (1, ii (hd : Int)), (2, ii (vk v : Int)), (3, ii (vm v : Int)), (4, ii ((k : Nat) : Int))]) (S' := [ii (hd : Int), .ref 102, .ref 102]) dm_X12_putValue_134 rfl rfl rfl rfl ?_
                    refine me1 (pc' := 137) (L' := [(0, .ref 102), (1, ii (hd : Int)), (2, ii (vk v : Int)), (3, ii (vm v : Int)), (4, ii ((k : Nat) : Int))]) (S' := [ii ((k : Nat) : Int), ii (hd : Int), .ref 102, .ref 102]) dm_X12_putValue_135 rfl rfl rfl rfl ?_
                    refine x_cp (pc' := 140) (v := .long (vn v k)) (rest := [.ref 102]) dm_X12_putValue_137 rfl (q_inv (As := [ii (hd : Int), ii ((k : Nat) : Int)]) (S := [.ref 102]) hm rfl rfl rfl) rfl rfl rfl (r_number_ (k := k) hm (by omega) hBt hvt (by omega) (by omega)) ?_
                    refine me3 (pc' := 143) (S' := [.long (Int64.ofInt 39), .long (vn v k), .ref 102]) dm_X12_putValue_140 rfl rfl rfl rfl ?_
                    refine y_lne (x := vn v k) (y := Int64.ofInt 39) (t := 152) (pc1 := 144) (pc' := 147) dm_X12_putValue_143 rfl dm_X12_putValue_144 rfl rfl (fun hb29 => ?_) (fun hb29 => ?_)
                    · have hbx : (vn v k).toInt ≠ 39 := fun z => hb29 (Int64.toInt_inj.mp (z.trans h39.symm))
                      refine me1 (pc' := 153) (L' := [(0, .ref 102), (1, ii (hd : Int)), (2, ii (vk v : Int)), (3, ii (vm v : Int)), (4, ii ((k : Nat) : Int))]) (S' := [.ref 102, .ref 102]) dm_X12_putValue_152 rfl rfl rfl rfl ?_
                      refine me1 (pc' := 154) (L' := [(0, .ref 102), (1, ii (hd : Int)), (2, ii (vk v : Int)), (3, ii (vm v : Int)), (4, ii ((k : Nat) : Int))]) (S' := [ii (hd : Int), .ref 102, .ref 102]) dm_X12_putValue_153 rfl rfl rfl rfl ?_
                      refine me1 (pc' := 156) (L' := [(0, .ref 102), (1, ii (hd : Int)), (2, ii (vk v : Int)), (3, ii (vm v : Int)), (4, ii ((k : Nat) : Int))]) (S' := [ii ((k : Nat) : Int), ii (hd : Int), .ref 102, .ref 102]) dm_X12_putValue_154 rfl rfl rfl rfl ?_
                      refine x_cp (pc' := 159) (v := .long (vn v k)) (rest := [.ref 102]) dm_X12_putValue_156 rfl (q_inv (As := [ii (hd : Int), ii ((k : Nat) : Int)]) (S := [.ref 102]) hm rfl rfl rfl) rfl rfl rfl (r_number_ (k := k) hm (by omega) hBt hvt (by omega) (by omega)) ?_
                      refine y_l2i (a := (vn v k).toInt) dm_X12_putValue_159 (pc' := 160) rfl (n_l2i _ rfl) ?_
                      have hsg1 : sgn (vn v k) = (vn v k).toInt := by unfold sgn; rw [if_neg (by omega)]
                      refine x_cn (pc' := 163) (rest := []) dm_X12_putValue_160 rfl (q_inv (As := [ii ((vn v k).toInt)]) (S := []) hm rfl rfl rfl) rfl rfl rfl (r_put2 hm (by omega) hPt (by omega)) ?_
                      rintro _ ⟨u33, rfl, hRa33, hPa33⟩
                      rw [take_tk2] at hPa33
                      replace hRa33 := prR_tr hRt hRa33
                      have hva33 := rv_pr hRa33 hv
                      have hBa33 := rB_pr hRa33 hB0
                      refine y_iinc (pc' := 166) (L' := [(4, ii (((k : Nat) : Int) + 1)), (0, .ref 102), (1, ii (hd : Int)), (2, ii (vk v : Int)), (3, ii (vm v : Int))]) dm_X12_putValue_163 (y_incp (a := ((k : Nat) : Int)) (c := 1) rfl rfl (by decide)) rfl ?_
                      refine me2 (pc' := 98) (S' := []) dm_X12_putValue_166 rfl rfl rfl ?_
                      exact pg_sub (L := [(0, .ref 102), (1, ii (hd : Int)), (2, ii (vk v : Int)), (3, ii (vm v : Int)), (4, ii (((k + 1) : Nat) : Int))]) rfl rfl rfl (ih98 (vm v - (k + 1)) (by omega) (k + 1) u33 rfl (by omega) hRa33 (show rpr u33 ((l ++ ((((if vk v = 3 ∧ vm v = 1 then [44] else []) : List Int) ++ [39]) ++ sgsL v (k + 1))).take 400) from (show ((((if vk v = 3 ∧ vm v = 1 then [44] else []) : List Int) ++ [39]) ++ sgsL v k) ++ ([(vn v k).toInt]) = (((if vk v = 3 ∧ vm v = 1 then [44] else []) : List Int) ++ [39]) ++ sgsL v (k + 1) by show _ = (((if vk v = 3 ∧ vm v = 1 then [44] else []) : List Int) ++ [39]) ++ (sgsL v k ++ [sgn (vn v k)]); rw [hsg1, List.append_assoc]) ▸ hPa33))
                    · have hbx := congrArg Int64.toInt hb29
                      rw [h39] at hbx
                      refine me0 (pc' := 149) (S' := [ii 46, .ref 102]) dm_X12_putValue_147 rfl rfl rfl rfl ?_
                      refine me2 (pc' := 160) (S' := [ii 46, .ref 102]) dm_X12_putValue_149 rfl rfl rfl ?_
                      have hsg1 : sgn (vn v k) = 46 := by unfold sgn; rw [if_pos (by omega)]
                      refine x_cn (pc' := 163) (rest := []) dm_X12_putValue_160 rfl (q_inv (As := [ii 46]) (S := []) hm rfl rfl rfl) rfl rfl rfl (r_put2 hm (by omega) hPt (by omega)) ?_
                      rintro _ ⟨u34, rfl, hRa34, hPa34⟩
                      rw [take_tk2] at hPa34
                      replace hRa34 := prR_tr hRt hRa34
                      have hva34 := rv_pr hRa34 hv
                      have hBa34 := rB_pr hRa34 hB0
                      refine y_iinc (pc' := 166) (L' := [(4, ii (((k : Nat) : Int) + 1)), (0, .ref 102), (1, ii (hd : Int)), (2, ii (vk v : Int)), (3, ii (vm v : Int))]) dm_X12_putValue_163 (y_incp (a := ((k : Nat) : Int)) (c := 1) rfl rfl (by decide)) rfl ?_
                      refine me2 (pc' := 98) (S' := []) dm_X12_putValue_166 rfl rfl rfl ?_
                      exact pg_sub (L := [(0, .ref 102), (1, ii (hd : Int)), (2, ii (vk v : Int)), (3, ii (vm v : Int)), (4, ii (((k + 1) : Nat) : Int))]) rfl rfl rfl (ih98 (vm v - (k + 1)) (by omega) (k + 1) u34 rfl (by omega) hRa34 (show rpr u34 ((l ++ ((((if vk v = 3 ∧ vm v = 1 then [44] else []) : List Int) ++ [39]) ++ sgsL v (k + 1))).take 400) from (show ((((if vk v = 3 ∧ vm v = 1 then [44] else []) : List Int) ++ [39]) ++ sgsL v k) ++ ([46]) = (((if vk v = 3 ∧ vm v = 1 then [44] else []) : List Int) ++ [39]) ++ sgsL v (k + 1) by show _ = (((if vk v = 3 ∧ vm v = 1 then [44] else []) : List Int) ++ [39]) ++ (sgsL v k ++ [sgn (vn v k)]); rw [hsg1, List.append_assoc]) ▸ hPa34))
          exact pg_sub (L := [(0, .ref 102), (1, ii (hd : Int)), (2, ii (vk v : Int)), (3, ii (vm v : Int)), (4, ii ((0 : Nat) : Int))]) rfl rfl rfl (lp98 _ 0 u29 rfl (Nat.zero_le _) hRa29 (show rpr u29 ((l ++ ((((if vk v = 3 ∧ vm v = 1 then [44] else []) : List Int) ++ [39]) ++ sgsL v 0)).take 400) from (show [39] = (((if vk v = 3 ∧ vm v = 1 then [44] else []) : List Int) ++ [39]) ++ sgsL v 0 by rw [hpre]; rfl) ▸ hPa29))
        · have hpre : ((if vk v = 3 ∧ vm v = 1 then [44] else []) : List Int) = [44] := if_pos (by omega)
          refine me1 (pc' := 84) (L' := [(3, ii (vm v : Int)), (2, ii (vk v : Int)), (0, .ref 102), (1, ii (hd : Int))]) (S' := [.ref 102]) dm_X12_putValue_83 rfl rfl rfl rfl ?_
          refine me0 (pc' := 86) (S' := [ii 44, .ref 102]) dm_X12_putValue_84 rfl rfl rfl rfl ?_
          refine x_cn (pc' := 89) (rest := []) dm_X12_putValue_86 rfl (q_inv (As := [ii 44]) (S := []) hm rfl rfl rfl) rfl rfl rfl (r_put2 hm (by omega) hP (by omega)) ?_
          rintro _ ⟨u35, rfl, hRa35, hPa35⟩
          have hva35 := rv_pr hRa35 hv
          have hBa35 := rB_pr hRa35 hB0
          refine me1 (pc' := 90) (L' := [(3, ii (vm v : Int)), (2, ii (vk v : Int)), (0, .ref 102), (1, ii (hd : Int))]) (S' := [.ref 102]) dm_X12_putValue_89 rfl rfl rfl rfl ?_
          refine me0 (pc' := 92) (S' := [ii 39, .ref 102]) dm_X12_putValue_90 rfl rfl rfl rfl ?_
          refine x_cn (pc' := 95) (rest := []) dm_X12_putValue_92 rfl (q_inv (As := [ii 39]) (S := []) hm rfl rfl rfl) rfl rfl rfl (r_put2 hm (by omega) hPa35 (by omega)) ?_
          rintro _ ⟨u36, rfl, hRa36, hPa36⟩
          rw [take_tk2] at hPa36
          replace hRa36 := prR_tr hRa35 hRa36
          have hva36 := rv_pr hRa36 hv
          have hBa36 := rB_pr hRa36 hB0
          refine me0 (pc' := 96) (S' := [ii 0]) dm_X12_putValue_95 rfl rfl rfl rfl ?_
          refine me1 (pc' := 98) (L' := [(4, ii 0), (3, ii (vm v : Int)), (2, ii (vk v : Int)), (0, .ref 102), (1, ii (hd : Int))]) (S' := []) dm_X12_putValue_96 rfl rfl rfl rfl ?_
          have lp98 : ∀ (n98 : Nat) (k : Nat) (t : RS), vm v - k = n98 → (k ≤ vm v) → (prR s t) → (rpr t ((l ++ ((((if vk v = 3 ∧ vm v = 1 then [44] else []) : List Int) ++ [39]) ++ sgsL v k)).take 400)) → pgE xt (d - 1) 12 5 false (Option.none : Option Jvm.ClassFile.FieldType) (mj_dec prog_14_method_46_code) 98 [(0, .ref 102), (1, ii (hd : Int)), (2, ii (vk v : Int)), (3, ii (vm v : Int)), (4, ii ((k : Nat) : Int))] [] (rI pre post t.1 t.2.1 t.2.2.1 t.2.2.2) (fun r h' => r = none ∧ ∃ t, h' = rS pre post t ∧ prR s t ∧ rpr t ((l ++ vaL (e + 1) v).take 400)) := by
            intro n98
            induction n98 using Nat.strongRecOn with
            | ind n98 ih98 =>
              intro k t hm98 hk hRt hPt
              have hvt := rv_pr hRt hv
              have hBt := rB_pr hRt hB0
              refine me1 (pc' := 100) (L' := [(0, .ref 102), (1, ii (hd : Int)), (2, ii (vk v : Int)), (3, ii (vm v : Int)), (4, ii ((k : Nat) : Int))]) (S' := [ii ((k : Nat) : Int)]) dm_X12_putValue_98 rfl rfl rfl rfl ?_
              refine me1 (pc' := 101) (L' := [(0, .ref 102), (1, ii (hd : Int)), (2, ii (vk v : Int)), (3, ii (vm v : Int)), (4, ii ((k : Nat) : Int))]) (S' := [ii (vm v : Int), ii ((k : Nat) : Int)]) dm_X12_putValue_100 rfl rfl rfl rfl ?_
              refine y_2ge (a := ((k : Nat) : Int)) (b := (vm v : Int)) (t := 169) (pc' := 104) dm_X12_putValue_101 rfl rfl (by omega) (fun hb30 => ?_) (fun hb30 => ?_)
              · refine me1 (pc' := 170) (L' := [(0, .ref 102), (1, ii (hd : Int)), (2, ii (vk v : Int)), (3, ii (vm v : Int)), (4, ii ((k : Nat) : Int))]) (S' := [.ref 102]) dm_X12_putValue_169 rfl rfl rfl rfl ?_
                refine me0 (pc' := 172) (S' := [ii 39, .ref 102]) dm_X12_putValue_170 rfl rfl rfl rfl ?_
                refine x_cn (pc' := 175) (rest := []) dm_X12_putValue_172 rfl (q_inv (As := [ii 39]) (S := []) hm rfl rfl rfl) rfl rfl rfl (r_put2 hm (by omega) hPt (by omega)) ?_
                rintro _ ⟨u37, rfl, hRa37, hPa37⟩
                rw [take_tk2] at hPa37
                replace hRa37 := prR_tr hRt hRa37
                have hva37 := rv_pr hRa37 hv
                have hBa37 := rB_pr hRa37 hB0
                refine me2 (pc' := 367) (S' := []) dm_X12_putValue_175 rfl rfl rfl ?_
                refine y_ret (r := none) dm_X12_putValue_367 rfl rfl rfl ?_
                have hkq : k = vm v := by omega
                rw [hkq] at hPa37
                refine ⟨rfl, u37, rfl, hRa37, ?_⟩
                rw [show vaL (e + 1) v = ((((if vk v = 3 ∧ vm v = 1 then [44] else []) : List Int) ++ [39]) ++ sgsL v (vm v)) ++ ([39]) by first | (exfalso; omega) | (rw [vaL_s]; first | rw [if_pos (by omega)] | (rw [if_neg (by omega), if_pos (by omega)]; unfold sgnL; simp only [List.append_assoc]) | rw [if_neg (by omega), if_neg (by omega), if_pos (by omega)] | (rw [if_neg (by omega), if_neg (by omega), if_neg (by omega), if_pos (by omega)]; simp only [List.append_assoc]) | (rw [if_neg (by omega), if_neg (by omega), if_neg (by omega), if_neg (by omega), if_pos (by omega)]; simp only [List.append_assoc]) | (rw [if_neg (by omega), if_neg (by omega), if_neg (by omega), if_neg (by omega), if_neg (by omega), ← spL_row (by omega) (by omega)]; simp only [Nat.zero_add]; first | (rw [if_pos (by omega)]; rfl) | (rw [if_neg (by omega), if_pos (by omega)]) | (rw [if_neg (by omega), if_neg (by omega)]; rfl)))]
                exact hPa37
              · refine me1 (pc' := 105) (L' := [(0, .ref 102), (1, ii (hd : Int)), (2, ii (vk v : Int)), (3, ii (vm v : Int)), (4, ii ((k : Nat) : Int))]) (S' := [.ref 102]) dm_X12_putValue_104 rfl rfl rfl rfl ?_
                refine me1 (pc' := 106) (L' := [(0, .ref 102), (1, ii (hd : Int)), (2, ii (vk v : Int)), (3, ii (vm v : Int)), (4, ii ((k : Nat) : Int))]) (S' := [.ref 102, .ref 102]) dm_X12_putValue_105 rfl rfl rfl rfl ?_
                refine me1 (pc' := 107) (L' := [(0, .ref 102), (1, ii (hd : Int)), (2, ii (vk v : Int)), (3, ii (vm v : Int)), (4, ii ((k : Nat) : Int))]) (S' := [ii (hd : Int), .ref 102, .ref 102]) dm_X12_putValue_106 rfl rfl rfl rfl ?_
                refine me1 (pc' := 109) (L' := [(0, .ref 102), (1, ii (hd : Int)), (2, ii (vk v : Int)), (3, ii (vm v : Int)), (4, ii ((k : Nat) : Int))]) (S' := [ii ((k : Nat) : Int), ii (hd : Int), .ref 102, .ref 102]) dm_X12_putValue_107 rfl rfl rfl rfl ?_
                refine x_cp (pc' := 112) (v := .long (vn v k)) (rest := [.ref 102]) dm_X12_putValue_109 rfl (q_inv (As := [ii (hd : Int), ii ((k : Nat) : Int)]) (S := [.ref 102]) hm rfl rfl rfl) rfl rfl rfl (r_number_ (k := k) hm (by omega) hBt hvt (by omega) (by omega)) ?_
                refine me3 (pc' := 115) (S' := [.long (Int64.ofInt 32), .long (vn v k), .ref 102]) dm_X12_putValue_112 rfl rfl rfl rfl ?_
                refine y_llt (x := vn v k) (y := Int64.ofInt 32) (t := 147) (pc1 := 116) (pc' := 119) dm_X12_putValue_115 rfl dm_X12_putValue_116 rfl rfl (fun hb31 => ?_) (fun hb31 => ?_)
                · rw [h32] at hb31
                  refine me0 (pc' := 149) (S' := [ii 46, .ref 102]) dm_X12_putValue_147 rfl rfl rfl rfl ?_
                  refine me2 (pc' := 160) (S' := [ii 46, .ref 102]) dm_X12_putValue_149 rfl rfl rfl ?_
                  have hsg1 : sgn (vn v k) = 46 := by unfold sgn; rw [if_pos (by omega)]
                  refine x_cn (pc' := 163) (rest := []) dm_X12_putValue_160 rfl (q_inv (As := [ii 46]) (S := []) hm rfl rfl rfl) rfl rfl rfl (r_put2 hm (by omega) hPt (by omega)) ?_
                  rintro _ ⟨u38, rfl, hRa38, hPa38⟩
                  rw [take_tk2] at hPa38
                  replace hRa38 := prR_tr hRt hRa38
                  have hva38 := rv_pr hRa38 hv
                  have hBa38 := rB_pr hRa38 hB0
                  refine y_iinc (pc' := 166) (L' := [(4, ii (((k : Nat) : Int) + 1)), (0, .ref 102), (1, ii (hd : Int)), (2, ii (vk v : Int)), (3, ii (vm v : Int))]) dm_X12_putValue_163 (y_incp (a := ((k : Nat) : Int)) (c := 1) rfl rfl (by decide)) rfl ?_
                  refine me2 (pc' := 98) (S' := []) dm_X12_putValue_166 rfl rfl rfl ?_
                  exact pg_sub (L := [(0, .ref 102), (1, ii (hd : Int)), (2, ii (vk v : Int)), (3, ii (vm v : Int)), (4, ii (((k + 1) : Nat) : Int))]) rfl rfl rfl (ih98 (vm v - (k + 1)) (by omega) (k + 1) u38 rfl (by omega) hRa38 (show rpr u38 ((l ++ ((((if vk v = 3 ∧ vm v = 1 then [44] else []) : List Int) ++ [39]) ++ sgsL v (k + 1))).take 400) from (show ((((if vk v = 3 ∧ vm v = 1 then [44] else []) : List Int) ++ [39]) ++ sgsL v k) ++ ([46]) = (((if vk v = 3 ∧ vm v = 1 then [44] else []) : List Int) ++ [39]) ++ sgsL v (k + 1) by show _ = (((if vk v = 3 ∧ vm v = 1 then [44] else []) : List Int) ++ [39]) ++ (sgsL v k ++ [sgn (vn v k)]); rw [hsg1, List.append_assoc]) ▸ hPa38))
                · rw [h32] at hb31
                  refine me1 (pc' := 120) (L' := [(0, .ref 102), (1, ii (hd : Int)), (2, ii (vk v : Int)), (3, ii (vm v : Int)), (4, ii ((k : Nat) : Int))]) (S' := [.ref 102, .ref 102]) dm_X12_putValue_119 rfl rfl rfl rfl ?_
                  refine me1 (pc' := 121) (L' := [(0, .ref 102), (1, ii (hd : Int)), (2, ii (vk v : Int)), (3, ii (vm v : Int)), (4, ii ((k : Nat) : Int))]) (S' := [ii (hd : Int), .ref 102, .ref 102]) dm_X12_putValue_120 rfl rfl rfl rfl ?_
                  refine me1 (pc' := 123) (L' := [(0, .ref 102), (1, ii (hd : Int)), (2, ii (vk v : Int)), (3, ii (vm v : Int)), (4, ii ((k : Nat) : Int))]) (S' := [ii ((k : Nat) : Int), ii (hd : Int), .ref 102, .ref 102]) dm_X12_putValue_121 rfl rfl rfl rfl ?_
                  refine x_cp (pc' := 126) (v := .long (vn v k)) (rest := [.ref 102]) dm_X12_putValue_123 rfl (q_inv (As := [ii (hd : Int), ii ((k : Nat) : Int)]) (S := [.ref 102]) hm rfl rfl rfl) rfl rfl rfl (r_number_ (k := k) hm (by omega) hBt hvt (by omega) (by omega)) ?_
                  refine me3 (pc' := 129) (S' := [.long (Int64.ofInt 126), .long (vn v k), .ref 102]) dm_X12_putValue_126 rfl rfl rfl rfl ?_
                  refine y_lgt (x := vn v k) (y := Int64.ofInt 126) (t := 147) (pc1 := 130) (pc' := 133) dm_X12_putValue_129 rfl dm_X12_putValue_130 rfl rfl (fun hb32 => ?_) (fun hb32 => ?_)
                  · rw [h126] at hb32
                    refine me0 (pc' := 149) (S' := [ii 46, .ref 102]) dm_X12_putValue_147 rfl rfl rfl rfl ?_
                    refine me2 (pc' := 160) (S' := [ii 46, .ref 102]) dm_X12_putValue_149 rfl rfl rfl ?_
                    have hsg1 : sgn (vn v k) = 46 := by unfold sgn; rw [if_pos (by omega)]
                    refine x_cn (pc' := 163) (rest := []) dm_X12_putValue_160 rfl (q_inv (As := [ii 46]) (S := []) hm rfl rfl rfl) rfl rfl rfl (r_put2 hm (by omega) hPt (by omega)) ?_
                    rintro _ ⟨u39, rfl, hRa39, hPa39⟩
                    rw [take_tk2] at hPa39
                    replace hRa39 := prR_tr hRt hRa39
                    have hva39 := rv_pr hRa39 hv
                    have hBa39 := rB_pr hRa39 hB0
                    refine y_iinc (pc' := 166) (L' := [(4, ii (((k : Nat) : Int) + 1)), (0, .ref 102), (1, ii (hd : Int)), (2, ii (vk v : Int)), (3, ii (vm v : Int))]) dm_X12_putValue_163 (y_incp (a := ((k : Nat) : Int)) (c := 1) rfl rfl (by decide)) rfl ?_
                    refine me2 (pc' := 98) (S' := []) dm_X12_putValue_166 rfl rfl rfl ?_
                    exact pg_sub (L := [(0, .ref 102), (1, ii (hd : Int)), (2, ii (vk v : Int)), (3, ii (vm v : Int)), (4, ii (((k + 1) : Nat) : Int))]) rfl rfl rfl (ih98 (vm v - (k + 1)) (by omega) (k + 1) u39 rfl (by omega) hRa39 (show rpr u39 ((l ++ ((((if vk v = 3 ∧ vm v = 1 then [44] else []) : List Int) ++ [39]) ++ sgsL v (k + 1))).take 400) from (show ((((if vk v = 3 ∧ vm v = 1 then [44] else []) : List Int) ++ [39]) ++ sgsL v k) ++ ([46]) = (((if vk v = 3 ∧ vm v = 1 then [44] else []) : List Int) ++ [39]) ++ sgsL v (k + 1) by show _ = (((if vk v = 3 ∧ vm v = 1 then [44] else []) : List Int) ++ [39]) ++ (sgsL v k ++ [sgn (vn v k)]); rw [hsg1, List.append_assoc]) ▸ hPa39))
                  · rw [h126] at hb32
                    refine me1 (pc' := 134) (L' := [(0, .ref 102), (1, ii (hd : Int)), (2, ii (vk v : Int)), (3, ii (vm v : Int)), (4, ii ((k : Nat) : Int))]) (S' := [.ref 102, .ref 102]) dm_X12_putValue_133 rfl rfl rfl rfl ?_
                    refine me1 (pc' := 135) (L' := [(0, .ref 102), (1, ii (hd : Int)), (2, ii (vk v : Int)), (3, ii (vm v : Int)), (4, ii ((k : Nat) : Int))]) (S' := [ii (hd : Int), .ref 102, .ref 102]) dm_X12_putValue_134 rfl rfl rfl rfl ?_
                    refine me1 (pc' := 137) (L' := [(0, .ref 102), (1, ii (hd : Int)), (2, ii (vk v : Int)), (3, ii (vm v : Int)), (4, ii ((k : Nat) : Int))]) (S' := [ii ((k : Nat) : Int), ii (hd : Int), .ref 102, .ref 102]) dm_X12_putValue_135 rfl rfl rfl rfl ?_
                    refine x_cp (pc' := 140) (v := .long (vn v k)) (rest := [.ref 102]) dm_X12_putValue_137 rfl (q_inv (As := [ii (hd : Int), ii ((k : Nat) : Int)]) (S := [.ref 102]) hm rfl rfl rfl) rfl rfl rfl (r_number_ (k := k) hm (by omega) hBt hvt (by omega) (by omega)) ?_
                    refine me3 (pc' := 143) (S' := [.long (Int64.ofInt 39), .long (vn v k), .ref 102]) dm_X12_putValue_140 rfl rfl rfl rfl ?_
                    refine y_lne (x := vn v k) (y := Int64.ofInt 39) (t := 152) (pc1 := 144) (pc' := 147) dm_X12_putValue_143 rfl dm_X12_putValue_144 rfl rfl (fun hb33 => ?_) (fun hb33 => ?_)
                    · have hbx : (vn v k).toInt ≠ 39 := fun z => hb33 (Int64.toInt_inj.mp (z.trans h39.symm))
                      refine me1 (pc' := 153) (L' := [(0, .ref 102), (1, ii (hd : Int)), (2, ii (vk v : Int)), (3, ii (vm v : Int)), (4, ii ((k : Nat) : Int))]) (S' := [.ref 102, .ref 102]) dm_X12_putValue_152 rfl rfl rfl rfl ?_
                      refine me1 (pc' := 154) (L' := [(0, .ref 102), (1, ii (hd : Int)), (2, ii (vk v : Int)), (3, ii (vm v : Int)), (4, ii ((k : Nat) : Int))]) (S' := [ii (hd : Int), .ref 102, .ref 102]) dm_X12_putValue_153 rfl rfl rfl rfl ?_
                      refine me1 (pc' := 156) (L' := [(0, .ref 102), (1, ii (hd : Int)), (2, ii (vk v : Int)), (3, ii (vm v : Int)), (4, ii ((k : Nat) : Int))]) (S' := [ii ((k : Nat) : Int), ii (hd : Int), .ref 102, .ref 102]) dm_X12_putValue_154 rfl rfl rfl rfl ?_
                      refine x_cp (pc' := 159) (v := .long (vn v k)) (rest := [.ref 102]) dm_X12_putValue_156 rfl (q_inv (As := [ii (hd : Int), ii ((k : Nat) : Int)]) (S := [.ref 102]) hm rfl rfl rfl) rfl rfl rfl (r_number_ (k := k) hm (by omega) hBt hvt (by omega) (by omega)) ?_
                      refine y_l2i (a := (vn v k).toInt) dm_X12_putValue_159 (pc' := 160) rfl (n_l2i _ rfl) ?_
                      have hsg1 : sgn (vn v k) = (vn v k).toInt := by unfold sgn; rw [if_neg (by omega)]
                      refine x_cn (pc' := 163) (rest := []) dm_X12_putValue_160 rfl (q_inv (As := [ii ((vn v k).toInt)]) (S := []) hm rfl rfl rfl) rfl rfl rfl (r_put2 hm (by omega) hPt (by omega)) ?_
                      rintro _ ⟨u40, rfl, hRa40, hPa40⟩
                      rw [take_tk2] at hPa40
                      replace hRa40 := prR_tr hRt hRa40
                      have hva40 := rv_pr hRa40 hv
                      have hBa40 := rB_pr hRa40 hB0
                      refine y_iinc (pc' := 166) (L' := [(4, ii (((k : Nat) : Int) + 1)), (0, .ref 102), (1, ii (hd : Int)), (2, ii (vk v : Int)), (3, ii (vm v : Int))]) dm_X12_putValue_163 (y_incp (a := ((k : Nat) : Int)) (c := 1) rfl rfl (by decide)) rfl ?_
                      refine me2 (pc' := 98) (S' := []) dm_X12_putValue_166 rfl rfl rfl ?_
                      exact pg_sub (L := [(0, .ref 102), (1, ii (hd : Int)), (2, ii (vk v : Int)), (3, ii (vm v : Int)), (4, ii (((k + 1) : Nat) : Int))]) rfl rfl rfl (ih98 (vm v - (k + 1)) (by omega) (k + 1) u40 rfl (by omega) hRa40 (show rpr u40 ((l ++ ((((if vk v = 3 ∧ vm v = 1 then [44] else []) : List Int) ++ [39]) ++ sgsL v (k + 1))).take 400) from (show ((((if vk v = 3 ∧ vm v = 1 then [44] else []) : List Int) ++ [39]) ++ sgsL v k) ++ ([(vn v k).toInt]) = (((if vk v = 3 ∧ vm v = 1 then [44] else []) : List Int) ++ [39]) ++ sgsL v (k + 1) by show _ = (((if vk v = 3 ∧ vm v = 1 then [44] else []) : List Int) ++ [39]) ++ (sgsL v k ++ [sgn (vn v k)]); rw [hsg1, List.append_assoc]) ▸ hPa40))
                    · have hbx := congrArg Int64.toInt hb33
                      rw [h39] at hbx
                      refine me0 (pc' := 149) (S' := [ii 46, .ref 102]) dm_X12_putValue_147 rfl rfl rfl rfl ?_
                      refine me2 (pc' := 160) (S' := [ii 46, .ref 102]) dm_X12_putValue_149 rfl rfl rfl ?_
                      have hsg1 : sgn (vn v k) = 46 := by unfold sgn; rw [if_pos (by omega)]
                      refine x_cn (pc' := 163) (rest := []) dm_X12_putValue_160 rfl (q_inv (As := [ii 46]) (S := []) hm rfl rfl rfl) rfl rfl rfl (r_put2 hm (by omega) hPt (by omega)) ?_
                      rintro _ ⟨u41, rfl, hRa41, hPa41⟩
                      rw [take_tk2] at hPa41
                      replace hRa41 := prR_tr hRt hRa41
                      have hva41 := rv_pr hRa41 hv
                      have hBa41 := rB_pr hRa41 hB0
                      refine y_iinc (pc' := 166) (L' := [(4, ii (((k : Nat) : Int) + 1)), (0, .ref 102), (1, ii (hd : Int)), (2, ii (vk v : Int)), (3, ii (vm v : Int))]) dm_X12_putValue_163 (y_incp (a := ((k : Nat) : Int)) (c := 1) rfl rfl (by decide)) rfl ?_
                      refine me2 (pc' := 98) (S' := []) dm_X12_putValue_166 rfl rfl rfl ?_
                      exact pg_sub (L := [(0, .ref 102), (1, ii (hd : Int)), (2, ii (vk v : Int)), (3, ii (vm v : Int)), (4, ii (((k + 1) : Nat) : Int))]) rfl rfl rfl (ih98 (vm v - (k + 1)) (by omega) (k + 1) u41 rfl (by omega) hRa41 (show rpr u41 ((l ++ ((((if vk v = 3 ∧ vm v = 1 then [44] else []) : List Int) ++ [39]) ++ sgsL v (k + 1))).take 400) from (show ((((if vk v = 3 ∧ vm v = 1 then [44] else []) : List Int) ++ [39]) ++ sgsL v k) ++ ([46]) = (((if vk v = 3 ∧ vm v = 1 then [44] else []) : List Int) ++ [39]) ++ sgsL v (k + 1) by show _ = (((if vk v = 3 ∧ vm v = 1 then [44] else []) : List Int) ++ [39]) ++ (sgsL v k ++ [sgn (vn v k)]); rw [hsg1, List.append_assoc]) ▸ hPa41))
          exact pg_sub (L := [(0, .ref 102), (1, ii (hd : Int)), (2, ii (vk v : Int)), (3, ii (vm v : Int)), (4, ii ((0 : Nat) : Int))]) rfl rfl rfl (lp98 _ 0 u36 rfl (Nat.zero_le _) hRa36 (show rpr u36 ((l ++ ((((if vk v = 3 ∧ vm v = 1 then [44] else []) : List Int) ++ [39]) ++ sgsL v 0)).take 400) from (show ([44]) ++ ([39]) = (((if vk v = 3 ∧ vm v = 1 then [44] else []) : List Int) ++ [39]) ++ sgsL v 0 by rw [hpre]; rfl) ▸ hPa36))
    refine y_sw (a := (vk v : Int)) (6) (t := 218) (i := .tableswitch 316 0 7 #[47, 60, 165, 60, 316, 316, 205, 264]) (len := 47) dm_X12_putValue_13 rfl rfl rfl (by omega) (by decide) (fun hb34 => ?_) (fun hb34 => ?_)
    · refine me1 (pc' := 219) (L' := [(3, ii (vm v : Int)), (2, ii (vk v : Int)), (0, .ref 102), (1, ii (hd : Int))]) (S' := [.ref 102]) dm_X12_putValue_218 rfl rfl rfl rfl ?_
      refine me0 (pc' := 221) (S' := [ii 91, .ref 102]) dm_X12_putValue_219 rfl rfl rfl rfl ?_
      refine x_cn (pc' := 224) (rest := []) dm_X12_putValue_221 rfl (q_inv (As := [ii 91]) (S := []) hm rfl rfl rfl) rfl rfl rfl (r_put2 hm (by omega) hP (by omega)) ?_
      rintro _ ⟨u42, rfl, hRa42, hPa42⟩
      have hva42 := rv_pr hRa42 hv
      have hBa42 := rB_pr hRa42 hB0
      refine me0 (pc' := 225) (S' := [ii 0]) dm_X12_putValue_224 rfl rfl rfl rfl ?_
      refine me1 (pc' := 227) (L' := [(4, ii 0), (3, ii (vm v : Int)), (2, ii (vk v : Int)), (0, .ref 102), (1, ii (hd : Int))]) (S' := []) dm_X12_putValue_225 rfl rfl rfl rfl ?_
      have lp227 : ∀ (n227 : Nat) (k : Nat) (t : RS), vm v - k = n227 → (k ≤ vm v) → (prR s t) → (rpr t ((l ++ ([91] ++ nmsL v (k * vc v))).take 400)) → pgE xt (d - 1) 12 5 false (Option.none : Option Jvm.ClassFile.FieldType) (mj_dec prog_14_method_46_code) 227 [(0, .ref 102), (1, ii (hd : Int)), (2, ii (vk v : Int)), (3, ii (vm v : Int)), (4, ii ((k : Nat) : Int))] [] (rI pre post t.1 t.2.1 t.2.2.1 t.2.2.2) (fun r h' => r = none ∧ ∃ t, h' = rS pre post t ∧ prR s t ∧ rpr t ((l ++ vaL (e + 1) v).take 400)) := by
        intro n227
        induction n227 using Nat.strongRecOn with
        | ind n227 ih227 =>
          intro k t hm227 hk hRt hPt
          have hvt := rv_pr hRt hv
          have hBt := rB_pr hRt hB0
          refine me1 (pc' := 229) (L' := [(0, .ref 102), (1, ii (hd : Int)), (2, ii (vk v : Int)), (3, ii (vm v : Int)), (4, ii ((k : Nat) : Int))]) (S' := [ii ((k : Nat) : Int)]) dm_X12_putValue_227 rfl rfl rfl rfl ?_
          refine me1 (pc' := 230) (L' := [(0, .ref 102), (1, ii (hd : Int)), (2, ii (vk v : Int)), (3, ii (vm v : Int)), (4, ii ((k : Nat) : Int))]) (S' := [ii (vm v : Int), ii ((k : Nat) : Int)]) dm_X12_putValue_229 rfl rfl rfl rfl ?_
          refine y_2ge (a := ((k : Nat) : Int)) (b := (vm v : Int)) (t := 268) (pc' := 233) dm_X12_putValue_230 rfl rfl (by omega) (fun hb35 => ?_) (fun hb35 => ?_)
          · refine me1 (pc' := 269) (L' := [(0, .ref 102), (1, ii (hd : Int)), (2, ii (vk v : Int)), (3, ii (vm v : Int)), (4, ii ((k : Nat) : Int))]) (S' := [.ref 102]) dm_X12_putValue_268 rfl rfl rfl rfl ?_
            refine me0 (pc' := 271) (S' := [ii 93, .ref 102]) dm_X12_putValue_269 rfl rfl rfl rfl ?_
            refine x_cn (pc' := 274) (rest := []) dm_X12_putValue_271 rfl (q_inv (As := [ii 93]) (S := []) hm rfl rfl rfl) rfl rfl rfl (r_put2 hm (by omega) hPt (by omega)) ?_
            rintro _ ⟨u43, rfl, hRa43, hPa43⟩
            rw [take_tk2] at hPa43
            replace hRa43 := prR_tr hRt hRa43
            have hva43 := rv_pr hRa43 hv
            have hBa43 := rB_pr hRa43 hB0
            refine me2 (pc' := 367) (S' := []) dm_X12_putValue_274 rfl rfl rfl ?_
            refine y_ret (r := none) dm_X12_putValue_367 rfl rfl rfl ?_
            have hkq : k = vm v := by omega
            rw [hkq] at hPa43
            refine ⟨rfl, u43, rfl, hRa43, ?_⟩
            rw [show vaL (e + 1) v = ([91] ++ nmsL v (vm v * vc v)) ++ ([93]) by first | (exfalso; omega) | (rw [vaL_s]; first | rw [if_pos (by omega)] | (rw [if_neg (by omega), if_pos (by omega)]; unfold sgnL; simp only [List.append_assoc]) | rw [if_neg (by omega), if_neg (by omega), if_pos (by omega)] | (rw [if_neg (by omega), if_neg (by omega), if_neg (by omega), if_pos (by omega)]; simp only [List.append_assoc]) | (rw [if_neg (by omega), if_neg (by omega), if_neg (by omega), if_neg (by omega), if_pos (by omega)]; simp only [List.append_assoc]) | (rw [if_neg (by omega), if_neg (by omega), if_neg (by omega), if_neg (by omega), if_neg (by omega), ← spL_row (by omega) (by omega)]; simp only [Nat.zero_add]; first | (rw [if_pos (by omega)]; rfl) | (rw [if_neg (by omega), if_pos (by omega)]) | (rw [if_neg (by omega), if_neg (by omega)]; rfl)))]
            exact hPa43
          · refine me1 (pc' := 235) (L' := [(0, .ref 102), (1, ii (hd : Int)), (2, ii (vk v : Int)), (3, ii (vm v : Int)), (4, ii ((k : Nat) : Int))]) (S' := [ii ((k : Nat) : Int)]) dm_X12_putValue_233 rfl rfl rfl rfl ?_
            refine y_1le (a := ((k : Nat) : Int)) (t := 244) (pc' := 238) dm_X12_putValue_235 rfl rfl (by omega) (fun hb36 => ?_) (fun hb36 => ?_)
            · have h6t : vk v = 6 := by omega
              have hix : k * vc v + vc v ≤ vq v := by rw [vq_tb h6t, ← Nat.succ_mul]; exact Nat.mul_le_mul_right _ (by omega)
              refine me1 (pc' := 245) (L' := [(0, .ref 102), (1, ii (hd : Int)), (2, ii (vk v : Int)), (3, ii (vm v : Int)), (4, ii ((k : Nat) : Int))]) (S' := [.ref 102]) dm_X12_putValue_244 rfl rfl rfl rfl ?_
              refine me1 (pc' := 246) (L' := [(0, .ref 102), (1, ii (hd : Int)), (2, ii (vk v : Int)), (3, ii (vm v : Int)), (4, ii ((k : Nat) : Int))]) (S' := [ii (hd : Int), .ref 102]) dm_X12_putValue_245 rfl rfl rfl rfl ?_
              refine me1 (pc' := 248) (L' := [(0, .ref 102), (1, ii (hd : Int)), (2, ii (vk v : Int)), (3, ii (vm v : Int)), (4, ii ((k : Nat) : Int))]) (S' := [ii ((k : Nat) : Int), ii (hd : Int), .ref 102]) dm_X12_putValue_246 rfl rfl rfl rfl ?_
              refine me1 (pc' := 249) (L' := [(0, .ref 102), (1, ii (hd : Int)), (2, ii (vk v : Int)), (3, ii (vm v : Int)), (4, ii ((k : Nat) : Int))]) (S' := [.ref 102, ii ((k : Nat) : Int), ii (hd : Int), .ref 102]) dm_X12_putValue_248 rfl rfl rfl rfl ?_
              refine me1 (pc' := 250) (L' := [(0, .ref 102), (1, ii (hd : Int)), (2, ii (vk v : Int)), (3, ii (vm v : Int)), (4, ii ((k : Nat) : Int))]) (S' := [ii (hd : Int), .ref 102, ii ((k : Nat) : Int), ii (hd : Int), .ref 102]) dm_X12_putValue_249 rfl rfl rfl rfl ?_
              refine x_cp (pc' := 253) (v := ii (vc v : Int)) (rest := [ii ((k : Nat) : Int), ii (hd : Int), .ref 102]) dm_X12_putValue_250 rfl (q_inv (As := [ii (hd : Int)]) (S := [ii ((k : Nat) : Int), ii (hd : Int), .ref 102]) hm rfl rfl rfl) rfl rfl rfl (r_columns_ hm (by omega) hBt hvt) ?_
              refine y_imul (a := ((k : Nat) : Int)) (b := (vc v : Int)) dm_X12_putValue_253 (pc' := 254) rfl ?_
              refine pg_st0 (S' := [ii ((k * vc v : Nat) : Int), ii (hd : Int), .ref 102]) (congrArg (fun z => ii z :: [ii (hd : Int), .ref 102]) (by push_cast; rfl)) ?_
              refine me1 (pc' := 255) (L' := [(0, .ref 102), (1, ii (hd : Int)), (2, ii (vk v : Int)), (3, ii (vm v : Int)), (4, ii ((k : Nat) : Int))]) (S' := [.ref 102, ii ((k * vc v : Nat) : Int), ii (hd : Int), .ref 102]) dm_X12_putValue_254 rfl rfl rfl rfl ?_
              refine me1 (pc' := 256) (L' := [(0, .ref 102), (1, ii (hd : Int)), (2, ii (vk v : Int)), (3, ii (vm v : Int)), (4, ii ((k : Nat) : Int))]) (S' := [ii (hd : Int), .ref 102, ii ((k * vc v : Nat) : Int), ii (hd : Int), .ref 102]) dm_X12_putValue_255 rfl rfl rfl rfl ?_
              refine x_cp (pc' := 259) (v := ii (vc v : Int)) (rest := [ii ((k * vc v : Nat) : Int), ii (hd : Int), .ref 102]) dm_X12_putValue_256 rfl (q_inv (As := [ii (hd : Int)]) (S := [ii ((k * vc v : Nat) : Int), ii (hd : Int), .ref 102]) hm rfl rfl rfl) rfl rfl rfl (r_columns_ hm (by omega) hBt hvt) ?_
              refine x_cn (pc' := 262) (rest := []) dm_X12_putValue_259 rfl (q_inv (As := [ii (hd : Int), ii ((k * vc v : Nat) : Int), ii (vc v : Int)]) (S := []) hm rfl rfl rfl) rfl rfl rfl (r_putNumbers_ (a := k * vc v) (n := vc v) hm (by omega) hPt hBt hvt (by omega) (by omega)) ?_
              rintro _ ⟨u44, rfl, hRa44, hPa44⟩
              rw [take_tk2] at hPa44
              replace hRa44 := prR_tr hRt hRa44
              have hva44 := rv_pr hRa44 hv
              have hBa44 := rB_pr hRa44 hB0
              refine y_iinc (pc' := 265) (L' := [(4, ii (((k : Nat) : Int) + 1)), (0, .ref 102), (1, ii (hd : Int)), (2, ii (vk v : Int)), (3, ii (vm v : Int))]) dm_X12_putValue_262 (y_incp (a := ((k : Nat) : Int)) (c := 1) rfl rfl (by decide)) rfl ?_
              refine me2 (pc' := 227) (S' := []) dm_X12_putValue_265 rfl rfl rfl ?_
              exact pg_sub (L := [(0, .ref 102), (1, ii (hd : Int)), (2, ii (vk v : Int)), (3, ii (vm v : Int)), (4, ii (((k + 1) : Nat) : Int))]) rfl rfl rfl (ih227 (vm v - (k + 1)) (by omega) (k + 1) u44 rfl (by omega) hRa44 (show rpr u44 ((l ++ ([91] ++ nmsL v ((k + 1) * vc v))).take 400) from (show ([91] ++ nmsL v (k * vc v)) ++ (spL (fun i => vn v (k * vc v + i)) (vc v)) = [91] ++ nmsL v ((k + 1) * vc v) by rw [Nat.succ_mul, spL_tab h6t (by omega) k (vc v) (Nat.le_refl _) (by omega)]; first | (rw [if_pos (show k = 0 by omega)]; simp only [List.append_assoc, List.nil_append]) | (rw [if_neg (show ¬ k = 0 by omega)]; simp only [List.append_assoc])) ▸ hPa44))
            · refine me1 (pc' := 239) (L' := [(0, .ref 102), (1, ii (hd : Int)), (2, ii (vk v : Int)), (3, ii (vm v : Int)), (4, ii ((k : Nat) : Int))]) (S' := [.ref 102]) dm_X12_putValue_238 rfl rfl rfl rfl ?_
              refine me0 (pc' := 241) (S' := [ii 59, .ref 102]) dm_X12_putValue_239 rfl rfl rfl rfl ?_
              refine x_cn (pc' := 244) (rest := []) dm_X12_putValue_241 rfl (q_inv (As := [ii 59]) (S := []) hm rfl rfl rfl) rfl rfl rfl (r_put2 hm (by omega) hPt (by omega)) ?_
              rintro _ ⟨u45, rfl, hRa45, hPa45⟩
              rw [take_tk2] at hPa45
              replace hRa45 := prR_tr hRt hRa45
              have hva45 := rv_pr hRa45 hv
              have hBa45 := rB_pr hRa45 hB0
              have h6t : vk v = 6 := by omega
              have hix : k * vc v + vc v ≤ vq v := by rw [vq_tb h6t, ← Nat.succ_mul]; exact Nat.mul_le_mul_right _ (by omega)
              refine me1 (pc' := 245) (L' := [(0, .ref 102), (1, ii (hd : Int)), (2, ii (vk v : Int)), (3, ii (vm v : Int)), (4, ii ((k : Nat) : Int))]) (S' := [.ref 102]) dm_X12_putValue_244 rfl rfl rfl rfl ?_
              refine me1 (pc' := 246) (L' := [(0, .ref 102), (1, ii (hd : Int)), (2, ii (vk v : Int)), (3, ii (vm v : Int)), (4, ii ((k : Nat) : Int))]) (S' := [ii (hd : Int), .ref 102]) dm_X12_putValue_245 rfl rfl rfl rfl ?_
              refine me1 (pc' := 248) (L' := [(0, .ref 102), (1, ii (hd : Int)), (2, ii (vk v : Int)), (3, ii (vm v : Int)), (4, ii ((k : Nat) : Int))]) (S' := [ii ((k : Nat) : Int), ii (hd : Int), .ref 102]) dm_X12_putValue_246 rfl rfl rfl rfl ?_
              refine me1 (pc' := 249) (L' := [(0, .ref 102), (1, ii (hd : Int)), (2, ii (vk v : Int)), (3, ii (vm v : Int)), (4, ii ((k : Nat) : Int))]) (S' := [.ref 102, ii ((k : Nat) : Int), ii (hd : Int), .ref 102]) dm_X12_putValue_248 rfl rfl rfl rfl ?_
              refine me1 (pc' := 250) (L' := [(0, .ref 102), (1, ii (hd : Int)), (2, ii (vk v : Int)), (3, ii (vm v : Int)), (4, ii ((k : Nat) : Int))]) (S' := [ii (hd : Int), .ref 102, ii ((k : Nat) : Int), ii (hd : Int), .ref 102]) dm_X12_putValue_249 rfl rfl rfl rfl ?_
              refine x_cp (pc' := 253) (v := ii (vc v : Int)) (rest := [ii ((k : Nat) : Int), ii (hd : Int), .ref 102]) dm_X12_putValue_250 rfl (q_inv (As := [ii (hd : Int)]) (S := [ii ((k : Nat) : Int), ii (hd : Int), .ref 102]) hm rfl rfl rfl) rfl rfl rfl (r_columns_ hm (by omega) hBa45 hva45) ?_
              refine y_imul (a := ((k : Nat) : Int)) (b := (vc v : Int)) dm_X12_putValue_253 (pc' := 254) rfl ?_
              refine pg_st0 (S' := [ii ((k * vc v : Nat) : Int), ii (hd : Int), .ref 102]) (congrArg (fun z => ii z :: [ii (hd : Int), .ref 102]) (by push_cast; rfl)) ?_
              refine me1 (pc' := 255) (L' := [(0, .ref 102), (1, ii (hd : Int)), (2, ii (vk v : Int)), (3, ii (vm v : Int)), (4, ii ((k : Nat) : Int))]) (S' := [.ref 102, ii ((k * vc v : Nat) : Int), ii (hd : Int), .ref 102]) dm_X12_putValue_254 rfl rfl rfl rfl ?_
              refine me1 (pc' := 256) (L' := [(0, .ref 102), (1, ii (hd : Int)), (2, ii (vk v : Int)), (3, ii (vm v : Int)), (4, ii ((k : Nat) : Int))]) (S' := [ii (hd : Int), .ref 102, ii ((k * vc v : Nat) : Int), ii (hd : Int), .ref 102]) dm_X12_putValue_255 rfl rfl rfl rfl ?_
              refine x_cp (pc' := 259) (v := ii (vc v : Int)) (rest := [ii ((k * vc v : Nat) : Int), ii (hd : Int), .ref 102]) dm_X12_putValue_256 rfl (q_inv (As := [ii (hd : Int)]) (S := [ii ((k * vc v : Nat) : Int), ii (hd : Int), .ref 102]) hm rfl rfl rfl) rfl rfl rfl (r_columns_ hm (by omega) hBa45 hva45) ?_
              refine x_cn (pc' := 262) (rest := []) dm_X12_putValue_259 rfl (q_inv (As := [ii (hd : Int), ii ((k * vc v : Nat) : Int), ii (vc v : Int)]) (S := []) hm rfl rfl rfl) rfl rfl rfl (r_putNumbers_ (a := k * vc v) (n := vc v) hm (by omega) hPa45 hBa45 hva45 (by omega) (by omega)) ?_
              rintro _ ⟨u46, rfl, hRa46, hPa46⟩
              rw [take_tk2] at hPa46
              replace hRa46 := prR_tr hRa45 hRa46
              have hva46 := rv_pr hRa46 hv
              have hBa46 := rB_pr hRa46 hB0
              refine y_iinc (pc' := 265) (L' := [(4, ii (((k : Nat) : Int) + 1)), (0, .ref 102), (1, ii (hd : Int)), (2, ii (vk v : Int)), (3, ii (vm v : Int))]) dm_X12_putValue_262 (y_incp (a := ((k : Nat) : Int)) (c := 1) rfl rfl (by decide)) rfl ?_
              refine me2 (pc' := 227) (S' := []) dm_X12_putValue_265 rfl rfl rfl ?_
              exact pg_sub (L := [(0, .ref 102), (1, ii (hd : Int)), (2, ii (vk v : Int)), (3, ii (vm v : Int)), (4, ii (((k + 1) : Nat) : Int))]) rfl rfl rfl (ih227 (vm v - (k + 1)) (by omega) (k + 1) u46 rfl (by omega) hRa46 (show rpr u46 ((l ++ ([91] ++ nmsL v ((k + 1) * vc v))).take 400) from (show (([91] ++ nmsL v (k * vc v)) ++ ([59])) ++ (spL (fun i => vn v (k * vc v + i)) (vc v)) = [91] ++ nmsL v ((k + 1) * vc v) by rw [Nat.succ_mul, spL_tab h6t (by omega) k (vc v) (Nat.le_refl _) (by omega)]; first | (rw [if_pos (show k = 0 by omega)]; simp only [List.append_assoc, List.nil_append]) | (rw [if_neg (show ¬ k = 0 by omega)]; simp only [List.append_assoc])) ▸ hPa46))
      exact pg_sub (L := [(0, .ref 102), (1, ii (hd : Int)), (2, ii (vk v : Int)), (3, ii (vm v : Int)), (4, ii ((0 : Nat) : Int))]) rfl rfl rfl (lp227 _ 0 u42 rfl (Nat.zero_le _) hRa42 (show rpr u42 ((l ++ ([91] ++ nmsL v (0 * vc v))).take 400) from (show [91] = [91] ++ nmsL v (0 * vc v) by rw [Nat.zero_mul]; rfl) ▸ hPa42))
    refine y_sw (a := (vk v : Int)) (7) (t := 277) (i := .tableswitch 316 0 7 #[47, 60, 165, 60, 316, 316, 205, 264]) (len := 47) dm_X12_putValue_13 rfl rfl rfl (by omega) (by decide) (fun hb37 => ?_) (fun hb37 => ?_)
    · refine me1 (pc' := 278) (L' := [(3, ii (vm v : Int)), (2, ii (vk v : Int)), (0, .ref 102), (1, ii (hd : Int))]) (S' := [.ref 102]) dm_X12_putValue_277 rfl rfl rfl rfl ?_
      refine me0 (pc' := 280) (S' := [ii 40, .ref 102]) dm_X12_putValue_278 rfl rfl rfl rfl ?_
      refine x_cn (pc' := 283) (rest := []) dm_X12_putValue_280 rfl (q_inv (As := [ii 40]) (S := []) hm rfl rfl rfl) rfl rfl rfl (r_put2 hm (by omega) hP (by omega)) ?_
      rintro _ ⟨u47, rfl, hRa47, hPa47⟩
      have hva47 := rv_pr hRa47 hv
      have hBa47 := rB_pr hRa47 hB0
      refine me0 (pc' := 284) (S' := [ii 0]) dm_X12_putValue_283 rfl rfl rfl rfl ?_
      refine me1 (pc' := 286) (L' := [(4, ii 0), (3, ii (vm v : Int)), (2, ii (vk v : Int)), (0, .ref 102), (1, ii (hd : Int))]) (S' := []) dm_X12_putValue_284 rfl rfl rfl rfl ?_
      have lp286 : ∀ (n286 : Nat) (k : Nat) (t : RS), vm v - k = n286 → (k ≤ vm v) → (prR s t) → (rpr t ((l ++ ([40] ++ nstL (fun k => vaL e (vd v k)) k)).take 400)) → pgE xt (d - 1) 12 5 false (Option.none : Option Jvm.ClassFile.FieldType) (mj_dec prog_14_method_46_code) 286 [(0, .ref 102), (1, ii (hd : Int)), (2, ii (vk v : Int)), (3, ii (vm v : Int)), (4, ii ((k : Nat) : Int))] [] (rI pre post t.1 t.2.1 t.2.2.1 t.2.2.2) (fun r h' => r = none ∧ ∃ t, h' = rS pre post t ∧ prR s t ∧ rpr t ((l ++ vaL (e + 1) v).take 400)) := by
        intro n286
        induction n286 using Nat.strongRecOn with
        | ind n286 ih286 =>
          intro k t hm286 hk hRt hPt
          have hvt := rv_pr hRt hv
          have hBt := rB_pr hRt hB0
          refine me1 (pc' := 288) (L' := [(0, .ref 102), (1, ii (hd : Int)), (2, ii (vk v : Int)), (3, ii (vm v : Int)), (4, ii ((k : Nat) : Int))]) (S' := [ii ((k : Nat) : Int)]) dm_X12_putValue_286 rfl rfl rfl rfl ?_
          refine me1 (pc' := 289) (L' := [(0, .ref 102), (1, ii (hd : Int)), (2, ii (vk v : Int)), (3, ii (vm v : Int)), (4, ii ((k : Nat) : Int))]) (S' := [ii (vm v : Int), ii ((k : Nat) : Int)]) dm_X12_putValue_288 rfl rfl rfl rfl ?_
          refine y_2ge (a := ((k : Nat) : Int)) (b := (vm v : Int)) (t := 320) (pc' := 292) dm_X12_putValue_289 rfl rfl (by omega) (fun hb38 => ?_) (fun hb38 => ?_)
          · refine me1 (pc' := 321) (L' := [(0, .ref 102), (1, ii (hd : Int)), (2, ii (vk v : Int)), (3, ii (vm v : Int)), (4, ii ((k : Nat) : Int))]) (S' := [.ref 102]) dm_X12_putValue_320 rfl rfl rfl rfl ?_
            refine me0 (pc' := 323) (S' := [ii 41, .ref 102]) dm_X12_putValue_321 rfl rfl rfl rfl ?_
            refine x_cn (pc' := 326) (rest := []) dm_X12_putValue_323 rfl (q_inv (As := [ii 41]) (S := []) hm rfl rfl rfl) rfl rfl rfl (r_put2 hm (by omega) hPt (by omega)) ?_
            rintro _ ⟨u48, rfl, hRa48, hPa48⟩
            rw [take_tk2] at hPa48
            replace hRa48 := prR_tr hRt hRa48
            have hva48 := rv_pr hRa48 hv
            have hBa48 := rB_pr hRa48 hB0
            refine me2 (pc' := 367) (S' := []) dm_X12_putValue_326 rfl rfl rfl ?_
            refine y_ret (r := none) dm_X12_putValue_367 rfl rfl rfl ?_
            have hkq : k = vm v := by omega
            rw [hkq] at hPa48
            refine ⟨rfl, u48, rfl, hRa48, ?_⟩
            rw [show vaL (e + 1) v = ([40] ++ nstL (fun k => vaL e (vd v k)) (vm v)) ++ ([41]) by first | (exfalso; omega) | (rw [vaL_s]; first | rw [if_pos (by omega)] | (rw [if_neg (by omega), if_pos (by omega)]; unfold sgnL; simp only [List.append_assoc]) | rw [if_neg (by omega), if_neg (by omega), if_pos (by omega)] | (rw [if_neg (by omega), if_neg (by omega), if_neg (by omega), if_pos (by omega)]; simp only [List.append_assoc]) | (rw [if_neg (by omega), if_neg (by omega), if_neg (by omega), if_neg (by omega), if_pos (by omega)]; simp only [List.append_assoc]) | (rw [if_neg (by omega), if_neg (by omega), if_neg (by omega), if_neg (by omega), if_neg (by omega), ← spL_row (by omega) (by omega)]; simp only [Nat.zero_add]; first | (rw [if_pos (by omega)]; rfl) | (rw [if_neg (by omega), if_pos (by omega)]) | (rw [if_neg (by omega), if_neg (by omega)]; rfl)))]
            exact hPa48
          · refine me1 (pc' := 294) (L' := [(0, .ref 102), (1, ii (hd : Int)), (2, ii (vk v : Int)), (3, ii (vm v : Int)), (4, ii ((k : Nat) : Int))]) (S' := [ii ((k : Nat) : Int)]) dm_X12_putValue_292 rfl rfl rfl rfl ?_
            refine y_1le (a := ((k : Nat) : Int)) (t := 303) (pc' := 297) dm_X12_putValue_294 rfl rfl (by omega) (fun hb39 => ?_) (fun hb39 => ?_)
            · refine me1 (pc' := 304) (L' := [(0, .ref 102), (1, ii (hd : Int)), (2, ii (vk v : Int)), (3, ii (vm v : Int)), (4, ii ((k : Nat) : Int))]) (S' := [.ref 102]) dm_X12_putValue_303 rfl rfl rfl rfl ?_
              refine me1 (pc' := 305) (L' := [(0, .ref 102), (1, ii (hd : Int)), (2, ii (vk v : Int)), (3, ii (vm v : Int)), (4, ii ((k : Nat) : Int))]) (S' := [.ref 102, .ref 102]) dm_X12_putValue_304 rfl rfl rfl rfl ?_
              refine me1 (pc' := 306) (L' := [(0, .ref 102), (1, ii (hd : Int)), (2, ii (vk v : Int)), (3, ii (vm v : Int)), (4, ii ((k : Nat) : Int))]) (S' := [ii (hd : Int), .ref 102, .ref 102]) dm_X12_putValue_305 rfl rfl rfl rfl ?_
              refine me1 (pc' := 308) (L' := [(0, .ref 102), (1, ii (hd : Int)), (2, ii (vk v : Int)), (3, ii (vm v : Int)), (4, ii ((k : Nat) : Int))]) (S' := [ii ((k : Nat) : Int), ii (hd : Int), .ref 102, .ref 102]) dm_X12_putValue_306 rfl rfl rfl rfl ?_
              obtain ⟨q, hq3, hqlt, hqk, hcq⟩ := r_value_ (xt := xt) (d := d - 1) (pre := pre) (post := post) (k := k) hm (by omega) hBt hvt (by omega) (by omega)
              have hBk := hBt
              refine x_cp (pc' := 311) (v := ii (q : Int)) (rest := [.ref 102]) dm_X12_putValue_308 rfl (q_inv (As := [ii (hd : Int), ii ((k : Nat) : Int)]) (S := [.ref 102]) hm rfl rfl rfl) rfl rfl rfl (hcq) ?_
              refine x_cn (pc' := 314) (rest := []) dm_X12_putValue_311 rfl (q_inv (As := [ii (q : Int)]) (S := []) hm rfl rfl rfl) rfl rfl rfl (ih (by omega) hPt (hBk) hqk) ?_
              rintro _ ⟨u49, rfl, hRa49, hPa49⟩
              rw [take_tk2] at hPa49
              replace hRa49 := prR_tr hRt hRa49
              have hva49 := rv_pr hRa49 hv
              have hBa49 := rB_pr hRa49 hB0
              refine y_iinc (pc' := 317) (L' := [(4, ii (((k : Nat) : Int) + 1)), (0, .ref 102), (1, ii (hd : Int)), (2, ii (vk v : Int)), (3, ii (vm v : Int))]) dm_X12_putValue_314 (y_incp (a := ((k : Nat) : Int)) (c := 1) rfl rfl (by decide)) rfl ?_
              refine me2 (pc' := 286) (S' := []) dm_X12_putValue_317 rfl rfl rfl ?_
              exact pg_sub (L := [(0, .ref 102), (1, ii (hd : Int)), (2, ii (vk v : Int)), (3, ii (vm v : Int)), (4, ii (((k + 1) : Nat) : Int))]) rfl rfl rfl (ih286 (vm v - (k + 1)) (by omega) (k + 1) u49 rfl (by omega) hRa49 (show rpr u49 ((l ++ ([40] ++ nstL (fun k => vaL e (vd v k)) (k + 1))).take 400) from (show ([40] ++ nstL (fun k => vaL e (vd v k)) k) ++ (vaL e (vd v k)) = [40] ++ nstL (fun k => vaL e (vd v k)) (k + 1) by show _ = [40] ++ (nstL (fun k => vaL e (vd v k)) k ++ ((if k = 0 then [] else [59]) ++ vaL e (vd v k))); first | (rw [if_pos (show k = 0 by omega)]; simp only [List.append_assoc, List.nil_append]) | (rw [if_neg (show ¬ k = 0 by omega)]; simp only [List.append_assoc])) ▸ hPa49))
            · refine me1 (pc' := 298) (L' := [(0, .ref 102), (1, ii (hd : Int)), (2, ii (vk v : Int)), (3, ii (vm v : Int)), (4, ii ((k : Nat) : Int))]) (S' := [.ref 102]) dm_X12_putValue_297 rfl rfl rfl rfl ?_
              refine me0 (pc' := 300) (S' := [ii 59, .ref 102]) dm_X12_putValue_298 rfl rfl rfl rfl ?_
              refine x_cn (pc' := 303) (rest := []) dm_X12_putValue_300 rfl (q_inv (As := [ii 59]) (S := []) hm rfl rfl rfl) rfl rfl rfl (r_put2 hm (by omega) hPt (by omega)) ?_
              rintro _ ⟨u50, rfl, hRa50, hPa50⟩
              rw [take_tk2] at hPa50
              replace hRa50 := prR_tr hRt hRa50
              have hva50 := rv_pr hRa50 hv
              have hBa50 := rB_pr hRa50 hB0
              refine me1 (pc' := 304) (L' := [(0, .ref 102), (1, ii (hd : Int)), (2, ii (vk v : Int)), (3, ii (vm v : Int)), (4, ii ((k : Nat) : Int))]) (S' := [.ref 102]) dm_X12_putValue_303 rfl rfl rfl rfl ?_
              refine me1 (pc' := 305) (L' := [(0, .ref 102), (1, ii (hd : Int)), (2, ii (vk v : Int)), (3, ii (vm v : Int)), (4, ii ((k : Nat) : Int))]) (S' := [.ref 102, .ref 102]) dm_X12_putValue_304 rfl rfl rfl rfl ?_
              refine me1 (pc' := 306) (L' := [(0, .ref 102), (1, ii (hd : Int)), (2, ii (vk v : Int)), (3, ii (vm v : Int)), (4, ii ((k : Nat) : Int))]) (S' := [ii (hd : Int), .ref 102, .ref 102]) dm_X12_putValue_305 rfl rfl rfl rfl ?_
              refine me1 (pc' := 308) (L' := [(0, .ref 102), (1, ii (hd : Int)), (2, ii (vk v : Int)), (3, ii (vm v : Int)), (4, ii ((k : Nat) : Int))]) (S' := [ii ((k : Nat) : Int), ii (hd : Int), .ref 102, .ref 102]) dm_X12_putValue_306 rfl rfl rfl rfl ?_
              obtain ⟨q, hq3, hqlt, hqk, hcq⟩ := r_value_ (xt := xt) (d := d - 1) (pre := pre) (post := post) (k := k) hm (by omega) hBa50 hva50 (by omega) (by omega)
              have hBk := hBa50
              refine x_cp (pc' := 311) (v := ii (q : Int)) (rest := [.ref 102]) dm_X12_putValue_308 rfl (q_inv (As := [ii (hd : Int), ii ((k : Nat) : Int)]) (S := [.ref 102]) hm rfl rfl rfl) rfl rfl rfl (hcq) ?_
              refine x_cn (pc' := 314) (rest := []) dm_X12_putValue_311 rfl (q_inv (As := [ii (q : Int)]) (S := []) hm rfl rfl rfl) rfl rfl rfl (ih (by omega) hPa50 (hBk) hqk) ?_
              rintro _ ⟨u51, rfl, hRa51, hPa51⟩
              rw [take_tk2] at hPa51
              replace hRa51 := prR_tr hRa50 hRa51
              have hva51 := rv_pr hRa51 hv
              have hBa51 := rB_pr hRa51 hB0
              refine y_iinc (pc' := 317) (L' := [(4, ii (((k : Nat) : Int) + 1)), (0, .ref 102), (1, ii (hd : Int)), (2, ii (vk v : Int)), (3, ii (vm v : Int))]) dm_X12_putValue_314 (y_incp (a := ((k : Nat) : Int)) (c := 1) rfl rfl (by decide)) rfl ?_
              refine me2 (pc' := 286) (S' := []) dm_X12_putValue_317 rfl rfl rfl ?_
              exact pg_sub (L := [(0, .ref 102), (1, ii (hd : Int)), (2, ii (vk v : Int)), (3, ii (vm v : Int)), (4, ii (((k + 1) : Nat) : Int))]) rfl rfl rfl (ih286 (vm v - (k + 1)) (by omega) (k + 1) u51 rfl (by omega) hRa51 (show rpr u51 ((l ++ ([40] ++ nstL (fun k => vaL e (vd v k)) (k + 1))).take 400) from (show (([40] ++ nstL (fun k => vaL e (vd v k)) k) ++ ([59])) ++ (vaL e (vd v k)) = [40] ++ nstL (fun k => vaL e (vd v k)) (k + 1) by show _ = [40] ++ (nstL (fun k => vaL e (vd v k)) k ++ ((if k = 0 then [] else [59]) ++ vaL e (vd v k))); first | (rw [if_pos (show k = 0 by omega)]; simp only [List.append_assoc, List.nil_append]) | (rw [if_neg (show ¬ k = 0 by omega)]; simp only [List.append_assoc])) ▸ hPa51))
      exact pg_sub (L := [(0, .ref 102), (1, ii (hd : Int)), (2, ii (vk v : Int)), (3, ii (vm v : Int)), (4, ii ((0 : Nat) : Int))]) rfl rfl rfl (lp286 _ 0 u47 rfl (Nat.zero_le _) hRa47 (show rpr u47 ((l ++ ([40] ++ nstL (fun k => vaL e (vd v k)) 0)).take 400) from (show [40] = [40] ++ nstL (fun k => vaL e (vd v k)) 0 from rfl) ▸ hPa47))
    refine me2 (pc' := 329) (S' := []) dm_X12_putValue_13 (sw_tdef [Int32.ofInt 0, Int32.ofInt 1, Int32.ofInt 2, Int32.ofInt 3, Int32.ofInt 6, Int32.ofInt 7] rfl rfl rfl ⟨y_no (by omega) (by decide) hb1, y_no (by omega) (by decide) hb2, y_no (by omega) (by decide) hb17, y_no (by omega) (by decide) hb19, y_no (by omega) (by decide) hb34, y_no (by omega) (by decide) hb37, trivial⟩) rfl rfl ?_
    refine me1 (pc' := 330) (L' := [(3, ii (vm v : Int)), (2, ii (vk v : Int)), (0, .ref 102), (1, ii (hd : Int))]) (S' := [ii (vm v : Int)]) dm_X12_putValue_329 rfl rfl rfl rfl ?_
    refine y_1ne (a := (vm v : Int)) (t := 339) (pc' := 333) dm_X12_putValue_330 rfl rfl (by omega) (fun hb40 => ?_) (fun hb40 => ?_)
    · refine me1 (pc' := 340) (L' := [(3, ii (vm v : Int)), (2, ii (vk v : Int)), (0, .ref 102), (1, ii (hd : Int))]) (S' := [ii (vm v : Int)]) dm_X12_putValue_339 rfl rfl rfl rfl ?_
      refine y_1ne (a := (vm v : Int)) (t := 349) (pc' := 343) dm_X12_putValue_340 rfl rfl (by omega) (fun hb41 => ?_) (fun hb41 => ?_)
      · refine me1 (pc' := 350) (L' := [(3, ii (vm v : Int)), (2, ii (vk v : Int)), (0, .ref 102), (1, ii (hd : Int))]) (S' := [ii (vm v : Int)]) dm_X12_putValue_349 rfl rfl rfl rfl ?_
        refine me0 (pc' := 351) (S' := [ii 1, ii (vm v : Int)]) dm_X12_putValue_350 rfl rfl rfl rfl ?_
        refine y_2ne (a := (vm v : Int)) (b := 1) (t := 360) (pc' := 354) dm_X12_putValue_351 rfl rfl (by omega) (fun hb42 => ?_) (fun hb42 => ?_)
        · refine me1 (pc' := 361) (L' := [(3, ii (vm v : Int)), (2, ii (vk v : Int)), (0, .ref 102), (1, ii (hd : Int))]) (S' := [.ref 102]) dm_X12_putValue_360 rfl rfl rfl rfl ?_
          refine me1 (pc' := 362) (L' := [(3, ii (vm v : Int)), (2, ii (vk v : Int)), (0, .ref 102), (1, ii (hd : Int))]) (S' := [ii (hd : Int), .ref 102]) dm_X12_putValue_361 rfl rfl rfl rfl ?_
          refine me0 (pc' := 363) (S' := [ii 0, ii (hd : Int), .ref 102]) dm_X12_putValue_362 rfl rfl rfl rfl ?_
          refine me1 (pc' := 364) (L' := [(3, ii (vm v : Int)), (2, ii (vk v : Int)), (0, .ref 102), (1, ii (hd : Int))]) (S' := [ii (vm v : Int), ii 0, ii (hd : Int), .ref 102]) dm_X12_putValue_363 rfl rfl rfl rfl ?_
          refine x_cn (pc' := 367) (rest := []) dm_X12_putValue_364 rfl (q_inv (As := [ii (hd : Int), ii 0, ii (vm v : Int)]) (S := []) hm rfl rfl rfl) rfl rfl rfl (r_putNumbers_ (a := 0) (n := vm v) hm (by omega) hP hB0 hv (by omega) (by omega)) ?_
          rintro _ ⟨u52, rfl, hRa52, hPa52⟩
          have hva52 := rv_pr hRa52 hv
          have hBa52 := rB_pr hRa52 hB0
          refine y_ret (r := none) dm_X12_putValue_367 rfl rfl rfl ?_
          refine ⟨rfl, u52, rfl, hRa52, ?_⟩
          rw [show vaL (e + 1) v = spL (fun i => vn v (0 + i)) (vm v) by first | (exfalso; omega) | (rw [vaL_s]; first | rw [if_pos (by omega)] | (rw [if_neg (by omega), if_pos (by omega)]; unfold sgnL; simp only [List.append_assoc]) | rw [if_neg (by omega), if_neg (by omega), if_pos (by omega)] | (rw [if_neg (by omega), if_neg (by omega), if_neg (by omega), if_pos (by omega)]; simp only [List.append_assoc]) | (rw [if_neg (by omega), if_neg (by omega), if_neg (by omega), if_neg (by omega), if_pos (by omega)]; simp only [List.append_assoc]) | (rw [if_neg (by omega), if_neg (by omega), if_neg (by omega), if_neg (by omega), if_neg (by omega), ← spL_row (by omega) (by omega)]; simp only [Nat.zero_add]; first | (rw [if_pos (by omega)]; rfl) | (rw [if_neg (by omega), if_pos (by omega)]) | (rw [if_neg (by omega), if_neg (by omega)]; rfl)))]
          exact hPa52
        · refine me1 (pc' := 355) (L' := [(3, ii (vm v : Int)), (2, ii (vk v : Int)), (0, .ref 102), (1, ii (hd : Int))]) (S' := [.ref 102]) dm_X12_putValue_354 rfl rfl rfl rfl ?_
          refine me0 (pc' := 357) (S' := [ii 44, .ref 102]) dm_X12_putValue_355 rfl rfl rfl rfl ?_
          refine x_cn (pc' := 360) (rest := []) dm_X12_putValue_357 rfl (q_inv (As := [ii 44]) (S := []) hm rfl rfl rfl) rfl rfl rfl (r_put2 hm (by omega) hP (by omega)) ?_
          rintro _ ⟨u53, rfl, hRa53, hPa53⟩
          have hva53 := rv_pr hRa53 hv
          have hBa53 := rB_pr hRa53 hB0
          refine me1 (pc' := 361) (L' := [(3, ii (vm v : Int)), (2, ii (vk v : Int)), (0, .ref 102), (1, ii (hd : Int))]) (S' := [.ref 102]) dm_X12_putValue_360 rfl rfl rfl rfl ?_
          refine me1 (pc' := 362) (L' := [(3, ii (vm v : Int)), (2, ii (vk v : Int)), (0, .ref 102), (1, ii (hd : Int))]) (S' := [ii (hd : Int), .ref 102]) dm_X12_putValue_361 rfl rfl rfl rfl ?_
          refine me0 (pc' := 363) (S' := [ii 0, ii (hd : Int), .ref 102]) dm_X12_putValue_362 rfl rfl rfl rfl ?_
          refine me1 (pc' := 364) (L' := [(3, ii (vm v : Int)), (2, ii (vk v : Int)), (0, .ref 102), (1, ii (hd : Int))]) (S' := [ii (vm v : Int), ii 0, ii (hd : Int), .ref 102]) dm_X12_putValue_363 rfl rfl rfl rfl ?_
          refine x_cn (pc' := 367) (rest := []) dm_X12_putValue_364 rfl (q_inv (As := [ii (hd : Int), ii 0, ii (vm v : Int)]) (S := []) hm rfl rfl rfl) rfl rfl rfl (r_putNumbers_ (a := 0) (n := vm v) hm (by omega) hPa53 hBa53 hva53 (by omega) (by omega)) ?_
          rintro _ ⟨u54, rfl, hRa54, hPa54⟩
          rw [take_tk2] at hPa54
          replace hRa54 := prR_tr hRa53 hRa54
          have hva54 := rv_pr hRa54 hv
          have hBa54 := rB_pr hRa54 hB0
          refine y_ret (r := none) dm_X12_putValue_367 rfl rfl rfl ?_
          refine ⟨rfl, u54, rfl, hRa54, ?_⟩
          rw [show vaL (e + 1) v = ([44]) ++ (spL (fun i => vn v (0 + i)) (vm v)) by first | (exfalso; omega) | (rw [vaL_s]; first | rw [if_pos (by omega)] | (rw [if_neg (by omega), if_pos (by omega)]; unfold sgnL; simp only [List.append_assoc]) | rw [if_neg (by omega), if_neg (by omega), if_pos (by omega)] | (rw [if_neg (by omega), if_neg (by omega), if_neg (by omega), if_pos (by omega)]; simp only [List.append_assoc]) | (rw [if_neg (by omega), if_neg (by omega), if_neg (by omega), if_neg (by omega), if_pos (by omega)]; simp only [List.append_assoc]) | (rw [if_neg (by omega), if_neg (by omega), if_neg (by omega), if_neg (by omega), if_neg (by omega), ← spL_row (by omega) (by omega)]; simp only [Nat.zero_add]; first | (rw [if_pos (by omega)]; rfl) | (rw [if_neg (by omega), if_pos (by omega)]) | (rw [if_neg (by omega), if_neg (by omega)]; rfl)))]
          exact hPa54
      · refine me1 (pc' := 344) (L' := [(3, ii (vm v : Int)), (2, ii (vk v : Int)), (0, .ref 102), (1, ii (hd : Int))]) (S' := [.ref 102]) dm_X12_putValue_343 rfl rfl rfl rfl ?_
        refine me0 (pc' := 346) (S' := [ii 48, .ref 102]) dm_X12_putValue_344 rfl rfl rfl rfl ?_
        refine x_cn (pc' := 349) (rest := []) dm_X12_putValue_346 rfl (q_inv (As := [ii 48]) (S := []) hm rfl rfl rfl) rfl rfl rfl (r_put2 hm (by omega) hP (by omega)) ?_
        rintro _ ⟨u55, rfl, hRa55, hPa55⟩
        have hva55 := rv_pr hRa55 hv
        have hBa55 := rB_pr hRa55 hB0
        refine me1 (pc' := 350) (L' := [(3, ii (vm v : Int)), (2, ii (vk v : Int)), (0, .ref 102), (1, ii (hd : Int))]) (S' := [ii (vm v : Int)]) dm_X12_putValue_349 rfl rfl rfl rfl ?_
        refine me0 (pc' := 351) (S' := [ii 1, ii (vm v : Int)]) dm_X12_putValue_350 rfl rfl rfl rfl ?_
        refine y_2ne (a := (vm v : Int)) (b := 1) (t := 360) (pc' := 354) dm_X12_putValue_351 rfl rfl (by omega) (fun hb43 => ?_) (fun hb43 => ?_)
        · refine me1 (pc' := 361) (L' := [(3, ii (vm v : Int)), (2, ii (vk v : Int)), (0, .ref 102), (1, ii (hd : Int))]) (S' := [.ref 102]) dm_X12_putValue_360 rfl rfl rfl rfl ?_
          refine me1 (pc' := 362) (L' := [(3, ii (vm v : Int)), (2, ii (vk v : Int)), (0, .ref 102), (1, ii (hd : Int))]) (S' := [ii (hd : Int), .ref 102]) dm_X12_putValue_361 rfl rfl rfl rfl ?_
          refine me0 (pc' := 363) (S' := [ii 0, ii (hd : Int), .ref 102]) dm_X12_putValue_362 rfl rfl rfl rfl ?_
          refine me1 (pc' := 364) (L' := [(3, ii (vm v : Int)), (2, ii (vk v : Int)), (0, .ref 102), (1, ii (hd : Int))]) (S' := [ii (vm v : Int), ii 0, ii (hd : Int), .ref 102]) dm_X12_putValue_363 rfl rfl rfl rfl ?_
          refine x_cn (pc' := 367) (rest := []) dm_X12_putValue_364 rfl (q_inv (As := [ii (hd : Int), ii 0, ii (vm v : Int)]) (S := []) hm rfl rfl rfl) rfl rfl rfl (r_putNumbers_ (a := 0) (n := vm v) hm (by omega) hPa55 hBa55 hva55 (by omega) (by omega)) ?_
          rintro _ ⟨u56, rfl, hRa56, hPa56⟩
          rw [take_tk2] at hPa56
          replace hRa56 := prR_tr hRa55 hRa56
          have hva56 := rv_pr hRa56 hv
          have hBa56 := rB_pr hRa56 hB0
          refine y_ret (r := none) dm_X12_putValue_367 rfl rfl rfl ?_
          refine ⟨rfl, u56, rfl, hRa56, ?_⟩
          rw [show vaL (e + 1) v = ([48]) ++ (spL (fun i => vn v (0 + i)) (vm v)) by first | (exfalso; omega) | (rw [vaL_s]; first | rw [if_pos (by omega)] | (rw [if_neg (by omega), if_pos (by omega)]; unfold sgnL; simp only [List.append_assoc]) | rw [if_neg (by omega), if_neg (by omega), if_pos (by omega)] | (rw [if_neg (by omega), if_neg (by omega), if_neg (by omega), if_pos (by omega)]; simp only [List.append_assoc]) | (rw [if_neg (by omega), if_neg (by omega), if_neg (by omega), if_neg (by omega), if_pos (by omega)]; simp only [List.append_assoc]) | (rw [if_neg (by omega), if_neg (by omega), if_neg (by omega), if_neg (by omega), if_neg (by omega), ← spL_row (by omega) (by omega)]; simp only [Nat.zero_add]; first | (rw [if_pos (by omega)]; rfl) | (rw [if_neg (by omega), if_pos (by omega)]) | (rw [if_neg (by omega), if_neg (by omega)]; rfl)))]
          exact hPa56
        · refine me1 (pc' := 355) (L' := [(3, ii (vm v : Int)), (2, ii (vk v : Int)), (0, .ref 102), (1, ii (hd : Int))]) (S' := [.ref 102]) dm_X12_putValue_354 rfl rfl rfl rfl ?_
          refine me0 (pc' := 357) (S' := [ii 44, .ref 102]) dm_X12_putValue_355 rfl rfl rfl rfl ?_
          refine x_cn (pc' := 360) (rest := []) dm_X12_putValue_357 rfl (q_inv (As := [ii 44]) (S := []) hm rfl rfl rfl) rfl rfl rfl (r_put2 hm (by omega) hPa55 (by omega)) ?_
          rintro _ ⟨u57, rfl, hRa57, hPa57⟩
          rw [take_tk2] at hPa57
          replace hRa57 := prR_tr hRa55 hRa57
          have hva57 := rv_pr hRa57 hv
          have hBa57 := rB_pr hRa57 hB0
          refine me1 (pc' := 361) (L' := [(3, ii (vm v : Int)), (2, ii (vk v : Int)), (0, .ref 102), (1, ii (hd : Int))]) (S' := [.ref 102]) dm_X12_putValue_360 rfl rfl rfl rfl ?_
          refine me1 (pc' := 362) (L' := [(3, ii (vm v : Int)), (2, ii (vk v : Int)), (0, .ref 102), (1, ii (hd : Int))]) (S' := [ii (hd : Int), .ref 102]) dm_X12_putValue_361 rfl rfl rfl rfl ?_
          refine me0 (pc' := 363) (S' := [ii 0, ii (hd : Int), .ref 102]) dm_X12_putValue_362 rfl rfl rfl rfl ?_
          refine me1 (pc' := 364) (L' := [(3, ii (vm v : Int)), (2, ii (vk v : Int)), (0, .ref 102), (1, ii (hd : Int))]) (S' := [ii (vm v : Int), ii 0, ii (hd : Int), .ref 102]) dm_X12_putValue_363 rfl rfl rfl rfl ?_
          refine x_cn (pc' := 367) (rest := []) dm_X12_putValue_364 rfl (q_inv (As := [ii (hd : Int), ii 0, ii (vm v : Int)]) (S := []) hm rfl rfl rfl) rfl rfl rfl (r_putNumbers_ (a := 0) (n := vm v) hm (by omega) hPa57 hBa57 hva57 (by omega) (by omega)) ?_
          rintro _ ⟨u58, rfl, hRa58, hPa58⟩
          rw [take_tk2] at hPa58
          replace hRa58 := prR_tr hRa57 hRa58
          have hva58 := rv_pr hRa58 hv
          have hBa58 := rB_pr hRa58 hB0
          refine y_ret (r := none) dm_X12_putValue_367 rfl rfl rfl ?_
          refine ⟨rfl, u58, rfl, hRa58, ?_⟩
          rw [show vaL (e + 1) v = (([48]) ++ ([44])) ++ (spL (fun i => vn v (0 + i)) (vm v)) by first | (exfalso; omega) | (rw [vaL_s]; first | rw [if_pos (by omega)] | (rw [if_neg (by omega), if_pos (by omega)]; unfold sgnL; simp only [List.append_assoc]) | rw [if_neg (by omega), if_neg (by omega), if_pos (by omega)] | (rw [if_neg (by omega), if_neg (by omega), if_neg (by omega), if_pos (by omega)]; simp only [List.append_assoc]) | (rw [if_neg (by omega), if_neg (by omega), if_neg (by omega), if_neg (by omega), if_pos (by omega)]; simp only [List.append_assoc]) | (rw [if_neg (by omega), if_neg (by omega), if_neg (by omega), if_neg (by omega), if_neg (by omega), ← spL_row (by omega) (by omega)]; simp only [Nat.zero_add]; first | (rw [if_pos (by omega)]; rfl) | (rw [if_neg (by omega), if_pos (by omega)]) | (rw [if_neg (by omega), if_neg (by omega)]; rfl)))]
          exact hPa58
    · refine me1 (pc' := 334) (L' := [(3, ii (vm v : Int)), (2, ii (vk v : Int)), (0, .ref 102), (1, ii (hd : Int))]) (S' := [.ref 102]) dm_X12_putValue_333 rfl rfl rfl rfl ?_
      refine me0 (pc' := 336) (S' := [ii 33, .ref 102]) dm_X12_putValue_334 rfl rfl rfl rfl ?_
      refine x_cn (pc' := 339) (rest := []) dm_X12_putValue_336 rfl (q_inv (As := [ii 33]) (S := []) hm rfl rfl rfl) rfl rfl rfl (r_put2 hm (by omega) hP (by omega)) ?_
      rintro _ ⟨u59, rfl, hRa59, hPa59⟩
      have hva59 := rv_pr hRa59 hv
      have hBa59 := rB_pr hRa59 hB0
      refine me1 (pc' := 340) (L' := [(3, ii (vm v : Int)), (2, ii (vk v : Int)), (0, .ref 102), (1, ii (hd : Int))]) (S' := [ii (vm v : Int)]) dm_X12_putValue_339 rfl rfl rfl rfl ?_
      refine y_1ne (a := (vm v : Int)) (t := 349) (pc' := 343) dm_X12_putValue_340 rfl rfl (by omega) (fun hb44 => ?_) (fun hb44 => ?_)
      · refine me1 (pc' := 350) (L' := [(3, ii (vm v : Int)), (2, ii (vk v : Int)), (0, .ref 102), (1, ii (hd : Int))]) (S' := [ii (vm v : Int)]) dm_X12_putValue_349 rfl rfl rfl rfl ?_
        refine me0 (pc' := 351) (S' := [ii 1, ii (vm v : Int)]) dm_X12_putValue_350 rfl rfl rfl rfl ?_
        refine y_2ne (a := (vm v : Int)) (b := 1) (t := 360) (pc' := 354) dm_X12_putValue_351 rfl rfl (by omega) (fun hb45 => ?_) (fun hb45 => ?_)
        · refine me1 (pc' := 361) (L' := [(3, ii (vm v : Int)), (2, ii (vk v : Int)), (0, .ref 102), (1, ii (hd : Int))]) (S' := [.ref 102]) dm_X12_putValue_360 rfl rfl rfl rfl ?_
          refine me1 (pc' := 362) (L' := [(3, ii (vm v : Int)), (2, ii (vk v : Int)), (0, .ref 102), (1, ii (hd : Int))]) (S' := [ii (hd : Int), .ref 102]) dm_X12_putValue_361 rfl rfl rfl rfl ?_
          refine me0 (pc' := 363) (S' := [ii 0, ii (hd : Int), .ref 102]) dm_X12_putValue_362 rfl rfl rfl rfl ?_
          refine me1 (pc' := 364) (L' := [(3, ii (vm v : Int)), (2, ii (vk v : Int)), (0, .ref 102), (1, ii (hd : Int))]) (S' := [ii (vm v : Int), ii 0, ii (hd : Int), .ref 102]) dm_X12_putValue_363 rfl rfl rfl rfl ?_
          refine x_cn (pc' := 367) (rest := []) dm_X12_putValue_364 rfl (q_inv (As := [ii (hd : Int), ii 0, ii (vm v : Int)]) (S := []) hm rfl rfl rfl) rfl rfl rfl (r_putNumbers_ (a := 0) (n := vm v) hm (by omega) hPa59 hBa59 hva59 (by omega) (by omega)) ?_
          rintro _ ⟨u60, rfl, hRa60, hPa60⟩
          rw [take_tk2] at hPa60
          replace hRa60 := prR_tr hRa59 hRa60
          have hva60 := rv_pr hRa60 hv
          have hBa60 := rB_pr hRa60 hB0
          refine y_ret (r := none) dm_X12_putValue_367 rfl rfl rfl ?_
          refine ⟨rfl, u60, rfl, hRa60, ?_⟩
          rw [show vaL (e + 1) v = ([33]) ++ (spL (fun i => vn v (0 + i)) (vm v)) by first | (exfalso; omega) | (rw [vaL_s]; first | rw [if_pos (by omega)] | (rw [if_neg (by omega), if_pos (by omega)]; unfold sgnL; simp only [List.append_assoc]) | rw [if_neg (by omega), if_neg (by omega), if_pos (by omega)] | (rw [if_neg (by omega), if_neg (by omega), if_neg (by omega), if_pos (by omega)]; simp only [List.append_assoc]) | (rw [if_neg (by omega), if_neg (by omega), if_neg (by omega), if_neg (by omega), if_pos (by omega)]; simp only [List.append_assoc]) | (rw [if_neg (by omega), if_neg (by omega), if_neg (by omega), if_neg (by omega), if_neg (by omega), ← spL_row (by omega) (by omega)]; simp only [Nat.zero_add]; first | (rw [if_pos (by omega)]; rfl) | (rw [if_neg (by omega), if_pos (by omega)]) | (rw [if_neg (by omega), if_neg (by omega)]; rfl)))]
          exact hPa60
        · refine me1 (pc' := 355) (L' := [(3, ii (vm v : Int)), (2, ii (vk v : Int)), (0, .ref 102), (1, ii (hd : Int))]) (S' := [.ref 102]) dm_X12_putValue_354 rfl rfl rfl rfl ?_
          refine me0 (pc' := 357) (S' := [ii 44, .ref 102]) dm_X12_putValue_355 rfl rfl rfl rfl ?_
          refine x_cn (pc' := 360) (rest := []) dm_X12_putValue_357 rfl (q_inv (As := [ii 44]) (S := []) hm rfl rfl rfl) rfl rfl rfl (r_put2 hm (by omega) hPa59 (by omega)) ?_
          rintro _ ⟨u61, rfl, hRa61, hPa61⟩
          rw [take_tk2] at hPa61
          replace hRa61 := prR_tr hRa59 hRa61
          have hva61 := rv_pr hRa61 hv
          have hBa61 := rB_pr hRa61 hB0
          refine me1 (pc' := 361) (L' := [(3, ii (vm v : Int)), (2, ii (vk v : Int)), (0, .ref 102), (1, ii (hd : Int))]) (S' := [.ref 102]) dm_X12_putValue_360 rfl rfl rfl rfl ?_
          refine me1 (pc' := 362) (L' := [(3, ii (vm v : Int)), (2, ii (vk v : Int)), (0, .ref 102), (1, ii (hd : Int))]) (S' := [ii (hd : Int), .ref 102]) dm_X12_putValue_361 rfl rfl rfl rfl ?_
          refine me0 (pc' := 363) (S' := [ii 0, ii (hd : Int), .ref 102]) dm_X12_putValue_362 rfl rfl rfl rfl ?_
          refine me1 (pc' := 364) (L' := [(3, ii (vm v : Int)), (2, ii (vk v : Int)), (0, .ref 102), (1, ii (hd : Int))]) (S' := [ii (vm v : Int), ii 0, ii (hd : Int), .ref 102]) dm_X12_putValue_363 rfl rfl rfl rfl ?_
          refine x_cn (pc' := 367) (rest := []) dm_X12_putValue_364 rfl (q_inv (As := [ii (hd : Int), ii 0, ii (vm v : Int)]) (S := []) hm rfl rfl rfl) rfl rfl rfl (r_putNumbers_ (a := 0) (n := vm v) hm (by omega) hPa61 hBa61 hva61 (by omega) (by omega)) ?_
          rintro _ ⟨u62, rfl, hRa62, hPa62⟩
          rw [take_tk2] at hPa62
          replace hRa62 := prR_tr hRa61 hRa62
          have hva62 := rv_pr hRa62 hv
          have hBa62 := rB_pr hRa62 hB0
          refine y_ret (r := none) dm_X12_putValue_367 rfl rfl rfl ?_
          refine ⟨rfl, u62, rfl, hRa62, ?_⟩
          rw [show vaL (e + 1) v = (([33]) ++ ([44])) ++ (spL (fun i => vn v (0 + i)) (vm v)) by first | (exfalso; omega) | (rw [vaL_s]; first | rw [if_pos (by omega)] | (rw [if_neg (by omega), if_pos (by omega)]; unfold sgnL; simp only [List.append_assoc]) | rw [if_neg (by omega), if_neg (by omega), if_pos (by omega)] | (rw [if_neg (by omega), if_neg (by omega), if_neg (by omega), if_pos (by omega)]; simp only [List.append_assoc]) | (rw [if_neg (by omega), if_neg (by omega), if_neg (by omega), if_neg (by omega), if_pos (by omega)]; simp only [List.append_assoc]) | (rw [if_neg (by omega), if_neg (by omega), if_neg (by omega), if_neg (by omega), if_neg (by omega), ← spL_row (by omega) (by omega)]; simp only [Nat.zero_add]; first | (rw [if_pos (by omega)]; rfl) | (rw [if_neg (by omega), if_pos (by omega)]) | (rw [if_neg (by omega), if_neg (by omega)]; rfl)))]
          exact hPa62
      · refine me1 (pc' := 344) (L' := [(3, ii (vm v : Int)), (2, ii (vk v : Int)), (0, .ref 102), (1, ii (hd : Int))]) (S' := [.ref 102]) dm_X12_putValue_343 rfl rfl rfl rfl ?_
        refine me0 (pc' := 346) (S' := [ii 48, .ref 102]) dm_X12_putValue_344 rfl rfl rfl rfl ?_
        refine x_cn (pc' := 349) (rest := []) dm_X12_putValue_346 rfl (q_inv (As := [ii 48]) (S := []) hm rfl rfl rfl) rfl rfl rfl (r_put2 hm (by omega) hPa59 (by omega)) ?_
        rintro _ ⟨u63, rfl, hRa63, hPa63⟩
        rw [take_tk2] at hPa63
        replace hRa63 := prR_tr hRa59 hRa63
        have hva63 := rv_pr hRa63 hv
        have hBa63 := rB_pr hRa63 hB0
        refine me1 (pc' := 350) (L' := [(3, ii (vm v : Int)), (2, ii (vk v : Int)), (0, .ref 102), (1, ii (hd : Int))]) (S' := [ii (vm v : Int)]) dm_X12_putValue_349 rfl rfl rfl rfl ?_
        refine me0 (pc' := 351) (S' := [ii 1, ii (vm v : Int)]) dm_X12_putValue_350 rfl rfl rfl rfl ?_
        refine y_2ne (a := (vm v : Int)) (b := 1) (t := 360) (pc' := 354) dm_X12_putValue_351 rfl rfl (by omega) (fun hb46 => ?_) (fun hb46 => ?_)
        · refine me1 (pc' := 361) (L' := [(3, ii (vm v : Int)), (2, ii (vk v : Int)), (0, .ref 102), (1, ii (hd : Int))]) (S' := [.ref 102]) dm_X12_putValue_360 rfl rfl rfl rfl ?_
          refine me1 (pc' := 362) (L' := [(3, ii (vm v : Int)), (2, ii (vk v : Int)), (0, .ref 102), (1, ii (hd : Int))]) (S' := [ii (hd : Int), .ref 102]) dm_X12_putValue_361 rfl rfl rfl rfl ?_
          refine me0 (pc' := 363) (S' := [ii 0, ii (hd : Int), .ref 102]) dm_X12_putValue_362 rfl rfl rfl rfl ?_
          refine me1 (pc' := 364) (L' := [(3, ii (vm v : Int)), (2, ii (vk v : Int)), (0, .ref 102), (1, ii (hd : Int))]) (S' := [ii (vm v : Int), ii 0, ii (hd : Int), .ref 102]) dm_X12_putValue_363 rfl rfl rfl rfl ?_
          refine x_cn (pc' := 367) (rest := []) dm_X12_putValue_364 rfl (q_inv (As := [ii (hd : Int), ii 0, ii (vm v : Int)]) (S := []) hm rfl rfl rfl) rfl rfl rfl (r_putNumbers_ (a := 0) (n := vm v) hm (by omega) hPa63 hBa63 hva63 (by omega) (by omega)) ?_
          rintro _ ⟨u64, rfl, hRa64, hPa64⟩
          rw [take_tk2] at hPa64
          replace hRa64 := prR_tr hRa63 hRa64
          have hva64 := rv_pr hRa64 hv
          have hBa64 := rB_pr hRa64 hB0
          refine y_ret (r := none) dm_X12_putValue_367 rfl rfl rfl ?_
          refine ⟨rfl, u64, rfl, hRa64, ?_⟩
          rw [show vaL (e + 1) v = (([33]) ++ ([48])) ++ (spL (fun i => vn v (0 + i)) (vm v)) by first | (exfalso; omega) | (rw [vaL_s]; first | rw [if_pos (by omega)] | (rw [if_neg (by omega), if_pos (by omega)]; unfold sgnL; simp only [List.append_assoc]) | rw [if_neg (by omega), if_neg (by omega), if_pos (by omega)] | (rw [if_neg (by omega), if_neg (by omega), if_neg (by omega), if_pos (by omega)]; simp only [List.append_assoc]) | (rw [if_neg (by omega), if_neg (by omega), if_neg (by omega), if_neg (by omega), if_pos (by omega)]; simp only [List.append_assoc]) | (rw [if_neg (by omega), if_neg (by omega), if_neg (by omega), if_neg (by omega), if_neg (by omega), ← spL_row (by omega) (by omega)]; simp only [Nat.zero_add]; first | (rw [if_pos (by omega)]; rfl) | (rw [if_neg (by omega), if_pos (by omega)]) | (rw [if_neg (by omega), if_neg (by omega)]; rfl)))]
          exact hPa64
        · refine me1 (pc' := 355) (L' := [(3, ii (vm v : Int)), (2, ii (vk v : Int)), (0, .ref 102), (1, ii (hd : Int))]) (S' := [.ref 102]) dm_X12_putValue_354 rfl rfl rfl rfl ?_
          refine me0 (pc' := 357) (S' := [ii 44, .ref 102]) dm_X12_putValue_355 rfl rfl rfl rfl ?_
          refine x_cn (pc' := 360) (rest := []) dm_X12_putValue_357 rfl (q_inv (As := [ii 44]) (S := []) hm rfl rfl rfl) rfl rfl rfl (r_put2 hm (by omega) hPa63 (by omega)) ?_
          rintro _ ⟨u65, rfl, hRa65, hPa65⟩
          rw [take_tk2] at hPa65
          replace hRa65 := prR_tr hRa63 hRa65
          have hva65 := rv_pr hRa65 hv
          have hBa65 := rB_pr hRa65 hB0
          refine me1 (pc' := 361) (L' := [(3, ii (vm v : Int)), (2, ii (vk v : Int)), (0, .ref 102), (1, ii (hd : Int))]) (S' := [.ref 102]) dm_X12_putValue_360 rfl rfl rfl rfl ?_
          refine me1 (pc' := 362) (L' := [(3, ii (vm v : Int)), (2, ii (vk v : Int)), (0, .ref 102), (1, ii (hd : Int))]) (S' := [ii (hd : Int), .ref 102]) dm_X12_putValue_361 rfl rfl rfl rfl ?_
          refine me0 (pc' := 363) (S' := [ii 0, ii (hd : Int), .ref 102]) dm_X12_putValue_362 rfl rfl rfl rfl ?_
          refine me1 (pc' := 364) (L' := [(3, ii (vm v : Int)), (2, ii (vk v : Int)), (0, .ref 102), (1, ii (hd : Int))]) (S' := [ii (vm v : Int), ii 0, ii (hd : Int), .ref 102]) dm_X12_putValue_363 rfl rfl rfl rfl ?_
          refine x_cn (pc' := 367) (rest := []) dm_X12_putValue_364 rfl (q_inv (As := [ii (hd : Int), ii 0, ii (vm v : Int)]) (S := []) hm rfl rfl rfl) rfl rfl rfl (r_putNumbers_ (a := 0) (n := vm v) hm (by omega) hPa65 hBa65 hva65 (by omega) (by omega)) ?_
          rintro _ ⟨u66, rfl, hRa66, hPa66⟩
          rw [take_tk2] at hPa66
          replace hRa66 := prR_tr hRa65 hRa66
          have hva66 := rv_pr hRa66 hv
          have hBa66 := rB_pr hRa66 hB0
          refine y_ret (r := none) dm_X12_putValue_367 rfl rfl rfl ?_
          refine ⟨rfl, u66, rfl, hRa66, ?_⟩
          rw [show vaL (e + 1) v = ((([33]) ++ ([48])) ++ ([44])) ++ (spL (fun i => vn v (0 + i)) (vm v)) by first | (exfalso; omega) | (rw [vaL_s]; first | rw [if_pos (by omega)] | (rw [if_neg (by omega), if_pos (by omega)]; unfold sgnL; simp only [List.append_assoc]) | rw [if_neg (by omega), if_neg (by omega), if_pos (by omega)] | (rw [if_neg (by omega), if_neg (by omega), if_neg (by omega), if_pos (by omega)]; simp only [List.append_assoc]) | (rw [if_neg (by omega), if_neg (by omega), if_neg (by omega), if_neg (by omega), if_pos (by omega)]; simp only [List.append_assoc]) | (rw [if_neg (by omega), if_neg (by omega), if_neg (by omega), if_neg (by omega), if_neg (by omega), ← spL_row (by omega) (by omega)]; simp only [Nat.zero_add]; first | (rw [if_pos (by omega)]; rfl) | (rw [if_neg (by omega), if_pos (by omega)]) | (rw [if_neg (by omega), if_neg (by omega)]; rfl)))]
          exact hPa66
