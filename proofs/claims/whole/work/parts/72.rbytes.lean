/-- the byte of the line at a place; 0 behind it -/
def byR (s : RS) (i : Int) : Int := if i < s.1 34 then s.2.2.1 32 i.toNat % 256 else 0
theorem byR_r (s : RS) (i : Int) : 0 ≤ byR s i ∧ byR s i ≤ 255 := by
  unfold byR; by_cases h : i < s.1 34
  · rw [if_pos h]; omega
  · rw [if_neg h]; omega
set_option maxRecDepth 20000 in
theorem n_andB {a : Int} (h1 : -128 ≤ a) (h2 : a ≤ 127) : Int32.ofInt a &&& Int32.ofInt 255 = Int32.ofInt (a % 256) := by
  have h : ∀ n : Fin 256, Int32.ofInt ((n.val : Int) - 128) &&& Int32.ofInt 255 = Int32.ofInt (((n.val : Int) - 128) % 256) := by decide
  have h3 := h ⟨(a + 128).toNat, by omega⟩
  have h4 : (((a + 128).toNat : Nat) : Int) - 128 = a := by omega
  simp only [h4] at h3
  exact h3
theorem y_andB {xt : mj_X} {d own nL : Nat} {ini : Bool} {ret : Option FieldType} {cf : Nat → Option (Instr × Nat)} {pc pc' : Nat} {L : mj_L} {S : List Value} {h : mj_H} {P : Option Value → mj_H → Prop} {a : Int} (hc : cf pc = some (.iand, 1)) (hp : pc + 1 = pc') (h0 : -128 ≤ a) (h1 : a ≤ 127) (k : pgE xt d own nL ini ret cf pc' L (ii (a % 256) :: S) h P) : pgE xt d own nL ini ret cf pc L (ii 255 :: ii a :: S) h P :=
  me0 hc (show mj_alu .iand (ii 255 :: ii a :: S) = some (ii (a % 256) :: S) from congrArg (fun z => some (Value.int z :: S)) (n_andB h0 h1)) rfl rfl hp k
set_option maxRecDepth 20000 in
theorem pm_X12_byteAt : mj_mmof pg_ms 206 = some ((⟨"ArrayCalculatorModel", "byteAt", "(I)I"⟩, prog_14_method_68_code, 2, (Option.some Jvm.ClassFile.FieldType.int)), 12, false, mj_dec prog_14_method_68_code) := rfl
theorem dm_X12_byteAt_0 : mj_dec prog_14_method_68_code 0 = some (.iload_n 1, 1) := by decide +kernel
theorem dm_X12_byteAt_1 : mj_dec prog_14_method_68_code 1 = some (.aload_n 0, 1) := by decide +kernel
theorem dm_X12_byteAt_2 : mj_dec prog_14_method_68_code 2 = some (.getfield 370, 3) := by decide +kernel
theorem dm_X12_byteAt_5 : mj_dec prog_14_method_68_code 5 = some (.if_icmp .ge 16, 3) := by decide +kernel
theorem dm_X12_byteAt_8 : mj_dec prog_14_method_68_code 8 = some (.aload_n 0, 1) := by decide +kernel
theorem dm_X12_byteAt_9 : mj_dec prog_14_method_68_code 9 = some (.getfield 71, 3) := by decide +kernel
theorem dm_X12_byteAt_12 : mj_dec prog_14_method_68_code 12 = some (.iload_n 1, 1) := by decide +kernel
theorem dm_X12_byteAt_13 : mj_dec prog_14_method_68_code 13 = some (.baload, 1) := by decide +kernel
theorem dm_X12_byteAt_14 : mj_dec prog_14_method_68_code 14 = some (.sipush 255, 3) := by decide +kernel
theorem dm_X12_byteAt_17 : mj_dec prog_14_method_68_code 17 = some (.iand, 1) := by decide +kernel
theorem dm_X12_byteAt_18 : mj_dec prog_14_method_68_code 18 = some (.goto 4, 3) := by decide +kernel
theorem dm_X12_byteAt_21 : mj_dec prog_14_method_68_code 21 = some (.iconst 0, 1) := by decide +kernel
theorem dm_X12_byteAt_22 : mj_dec prog_14_method_68_code 22 = some (.ireturn, 1) := by decide +kernel
theorem r_byteAt_ {xt : mj_X} {d : Nat} {pre post : mj_H} {s : RS} {i : Int} (hm : pre.length = 102) (hd : 1 ≤ d) (hi : 0 ≤ i ∧ i ≤ 2147483647) (h34 : 0 ≤ s.1 34 ∧ s.1 34 ≤ 220) (hbt : ∀ j : Nat, -128 ≤ s.2.2.1 32 j ∧ s.2.2.1 32 j ≤ 127) : pgP xt d 206 [.ref 102, ii i] (rS pre post s) (ii (byR s i)) := by
  have hbi := hbt i.toNat
  clear hbt
  refine x_enter pm_X12_byteAt (L0 := [(0, .ref 102), (1, ii i)]) rfl (Nat.le_of_ble_eq_true rfl) (by omega) ?_
  refine me1 (pc' := 1) (L' := [(0, .ref 102), (1, ii i)]) (S' := [ii i]) dm_X12_byteAt_0 rfl rfl rfl rfl ?_
  refine me1 (pc' := 2) (L' := [(0, .ref 102), (1, ii i)]) (S' := [.ref 102, ii i]) dm_X12_byteAt_1 rfl rfl rfl rfl ?_
  refine me3 (pc' := 5) (S' := [ii (s.1 34), ii i]) dm_X12_byteAt_2 (q_geti (v := s.1 34) hm rfl (fun m i l => rg_34 m i l) rfl) rfl rfl rfl ?_
  refine y_2ge (a := i) (b := s.1 34) (t := 21) (pc' := 8) dm_X12_byteAt_5 rfl rfl (by omega) (fun hb1 => ?_) (fun hb1 => ?_)
  · refine me0 (pc' := 22) (S' := [ii 0]) dm_X12_byteAt_21 rfl rfl rfl rfl ?_
    refine y_ret (r := some (ii 0)) dm_X12_byteAt_22 rfl rfl rfl ?_
    refine ⟨congrArg some (n_ii ?_), rfl⟩
    unfold byR
    rw [if_neg (by omega)]
  · refine me1 (pc' := 9) (L' := [(0, .ref 102), (1, ii i)]) (S' := [.ref 102]) dm_X12_byteAt_8 rfl rfl rfl rfl ?_
    refine me3 (pc' := 12) (S' := [.ref (102 + 17)]) dm_X12_byteAt_9 (q_getr hm rfl (fun m i l => rg_32 m i l)) rfl rfl rfl ?_
    refine me1 (pc' := 13) (L' := [(0, .ref 102), (1, ii i)]) (S' := [ii i, .ref (102 + 17)]) dm_X12_byteAt_12 rfl rfl rfl rfl ?_
    refine me3 (pc' := 14) (S' := [ii ((s.2.2.1 32) i.toNat)]) dm_X12_byteAt_13 (q_bald (v := (s.2.2.1 32) i.toNat) (k := 32) (n := 220) hm (fun m i l I J => rc_32 m i l I J) (by omega) (by omega) (by decide) rfl) rfl rfl rfl ?_
    refine me0 (pc' := 17) (S' := [ii 255, ii ((s.2.2.1 32) i.toNat)]) dm_X12_byteAt_14 rfl rfl rfl rfl ?_
    refine y_andB (a := (s.2.2.1 32) i.toNat) dm_X12_byteAt_17 (pc' := 18) rfl (by omega) (by omega) ?_
    refine me2 (pc' := 22) (S' := [ii (((s.2.2.1 32) i.toNat) % 256)]) dm_X12_byteAt_18 rfl rfl rfl ?_
    refine y_ret (r := some (ii (((s.2.2.1 32) i.toNat) % 256))) dm_X12_byteAt_22 rfl rfl rfl ?_
    refine ⟨congrArg some (n_ii ?_), rfl⟩
    unfold byR
    rw [if_pos (by omega)]
set_option maxRecDepth 20000 in
theorem pm_X12_isDigit : mj_mmof pg_ms 207 = some ((⟨"ArrayCalculatorModel", "isDigit", "(I)Z"⟩, prog_14_method_69_code, 2, (Option.some Jvm.ClassFile.FieldType.boolean)), 12, false, mj_dec prog_14_method_69_code) := rfl
theorem dm_X12_isDigit_0 : mj_dec prog_14_method_69_code 0 = some (.aload_n 0, 1) := by decide +kernel
theorem dm_X12_isDigit_1 : mj_dec prog_14_method_69_code 1 = some (.iload_n 1, 1) := by decide +kernel
theorem dm_X12_isDigit_2 : mj_dec prog_14_method_69_code 2 = some (.invokevirtual 373, 3) := by decide +kernel
theorem dm_X12_isDigit_5 : mj_dec prog_14_method_69_code 5 = some (.bipush 48, 2) := by decide +kernel
theorem dm_X12_isDigit_7 : mj_dec prog_14_method_69_code 7 = some (.if_icmp .lt 17, 3) := by decide +kernel
theorem dm_X12_isDigit_10 : mj_dec prog_14_method_69_code 10 = some (.aload_n 0, 1) := by decide +kernel
theorem dm_X12_isDigit_11 : mj_dec prog_14_method_69_code 11 = some (.iload_n 1, 1) := by decide +kernel
theorem dm_X12_isDigit_12 : mj_dec prog_14_method_69_code 12 = some (.invokevirtual 373, 3) := by decide +kernel
theorem dm_X12_isDigit_15 : mj_dec prog_14_method_69_code 15 = some (.bipush 57, 2) := by decide +kernel
theorem dm_X12_isDigit_17 : mj_dec prog_14_method_69_code 17 = some (.if_icmp .gt 7, 3) := by decide +kernel
theorem dm_X12_isDigit_20 : mj_dec prog_14_method_69_code 20 = some (.iconst 1, 1) := by decide +kernel
theorem dm_X12_isDigit_21 : mj_dec prog_14_method_69_code 21 = some (.goto 4, 3) := by decide +kernel
theorem dm_X12_isDigit_24 : mj_dec prog_14_method_69_code 24 = some (.iconst 0, 1) := by decide +kernel
theorem dm_X12_isDigit_25 : mj_dec prog_14_method_69_code 25 = some (.ireturn, 1) := by decide +kernel
theorem r_isDigit_ {xt : mj_X} {d : Nat} {pre post : mj_H} {s : RS} {i : Int} (hm : pre.length = 102) (hd : 2 ≤ d) (hi : 0 ≤ i ∧ i ≤ 2147483647) (h34 : 0 ≤ s.1 34 ∧ s.1 34 ≤ 220) (hbt : ∀ j : Nat, -128 ≤ s.2.2.1 32 j ∧ s.2.2.1 32 j ≤ 127) : pgP xt d 207 [.ref 102, ii i] (rS pre post s) (zz (decide (48 ≤ byR s i ∧ byR s i ≤ 57))) := by
  have hbr := byR_r s i
  refine x_enter pm_X12_isDigit (L0 := [(0, .ref 102), (1, ii i)]) rfl (Nat.le_of_ble_eq_true rfl) (by omega) ?_
  refine me1 (pc' := 1) (L' := [(0, .ref 102), (1, ii i)]) (S' := [.ref 102]) dm_X12_isDigit_0 rfl rfl rfl rfl ?_
  refine me1 (pc' := 2) (L' := [(0, .ref 102), (1, ii i)]) (S' := [ii i, .ref 102]) dm_X12_isDigit_1 rfl rfl rfl rfl ?_
  refine x_cp (pc' := 5) (v := ii (byR s i)) (rest := []) dm_X12_isDigit_2 rfl (q_inv (As := [ii i]) (S := []) hm rfl rfl rfl) rfl rfl rfl (r_byteAt_ hm (by omega) hi h34 hbt) ?_
  refine me0 (pc' := 7) (S' := [ii 48, ii (byR s i)]) dm_X12_isDigit_5 rfl rfl rfl rfl ?_
  refine y_2lt (a := byR s i) (b := 48) (t := 24) (pc' := 10) dm_X12_isDigit_7 rfl rfl (by omega) (fun hb1 => ?_) (fun hb1 => ?_)
  · refine me0 (pc' := 25) (S' := [ii 0]) dm_X12_isDigit_24 rfl rfl rfl rfl ?_
    refine y_ret (r := some (ii 0)) dm_X12_isDigit_25 rfl rfl rfl ?_
    exact ⟨congrArg some (zf (by omega)), rfl⟩
  · refine me1 (pc' := 11) (L' := [(0, .ref 102), (1, ii i)]) (S' := [.ref 102]) dm_X12_isDigit_10 rfl rfl rfl rfl ?_
    refine me1 (pc' := 12) (L' := [(0, .ref 102), (1, ii i)]) (S' := [ii i, .ref 102]) dm_X12_isDigit_11 rfl rfl rfl rfl ?_
    refine x_cp (pc' := 15) (v := ii (byR s i)) (rest := []) dm_X12_isDigit_12 rfl (q_inv (As := [ii i]) (S := []) hm rfl rfl rfl) rfl rfl rfl (r_byteAt_ hm (by omega) hi h34 hbt) ?_
    refine me0 (pc' := 17) (S' := [ii 57, ii (byR s i)]) dm_X12_isDigit_15 rfl rfl rfl rfl ?_
    refine y_2gt (a := byR s i) (b := 57) (t := 24) (pc' := 20) dm_X12_isDigit_17 rfl rfl (by omega) (fun hb2 => ?_) (fun hb2 => ?_)
    · refine me0 (pc' := 25) (S' := [ii 0]) dm_X12_isDigit_24 rfl rfl rfl rfl ?_
      refine y_ret (r := some (ii 0)) dm_X12_isDigit_25 rfl rfl rfl ?_
      exact ⟨congrArg some (zf (by omega)), rfl⟩
    · refine me0 (pc' := 21) (S' := [ii 1]) dm_X12_isDigit_20 rfl rfl rfl rfl ?_
      refine me2 (pc' := 25) (S' := [ii 1]) dm_X12_isDigit_21 rfl rfl rfl ?_
      refine y_ret (r := some (ii 1)) dm_X12_isDigit_25 rfl rfl rfl ?_
      exact ⟨congrArg some (zt (by omega)), rfl⟩
set_option maxRecDepth 20000 in
theorem pm_X12_isLetter : mj_mmof pg_ms 209 = some ((⟨"ArrayCalculatorModel", "isLetter", "(I)Z"⟩, prog_14_method_70_code, 2, (Option.some Jvm.ClassFile.FieldType.boolean)), 12, false, mj_dec prog_14_method_70_code) := rfl
theorem dm_X12_isLetter_0 : mj_dec prog_14_method_70_code 0 = some (.aload_n 0, 1) := by decide +kernel
theorem dm_X12_isLetter_1 : mj_dec prog_14_method_70_code 1 = some (.iload_n 1, 1) := by decide +kernel
theorem dm_X12_isLetter_2 : mj_dec prog_14_method_70_code 2 = some (.invokevirtual 373, 3) := by decide +kernel
theorem dm_X12_isLetter_5 : mj_dec prog_14_method_70_code 5 = some (.bipush 97, 2) := by decide +kernel
theorem dm_X12_isLetter_7 : mj_dec prog_14_method_70_code 7 = some (.if_icmp .lt 17, 3) := by decide +kernel
theorem dm_X12_isLetter_10 : mj_dec prog_14_method_70_code 10 = some (.aload_n 0, 1) := by decide +kernel
theorem dm_X12_isLetter_11 : mj_dec prog_14_method_70_code 11 = some (.iload_n 1, 1) := by decide +kernel
theorem dm_X12_isLetter_12 : mj_dec prog_14_method_70_code 12 = some (.invokevirtual 373, 3) := by decide +kernel
theorem dm_X12_isLetter_15 : mj_dec prog_14_method_70_code 15 = some (.bipush 122, 2) := by decide +kernel
theorem dm_X12_isLetter_17 : mj_dec prog_14_method_70_code 17 = some (.if_icmp .gt 7, 3) := by decide +kernel
theorem dm_X12_isLetter_20 : mj_dec prog_14_method_70_code 20 = some (.iconst 1, 1) := by decide +kernel
theorem dm_X12_isLetter_21 : mj_dec prog_14_method_70_code 21 = some (.goto 4, 3) := by decide +kernel
theorem dm_X12_isLetter_24 : mj_dec prog_14_method_70_code 24 = some (.iconst 0, 1) := by decide +kernel
theorem dm_X12_isLetter_25 : mj_dec prog_14_method_70_code 25 = some (.ireturn, 1) := by decide +kernel
theorem r_isLetter_ {xt : mj_X} {d : Nat} {pre post : mj_H} {s : RS} {i : Int} (hm : pre.length = 102) (hd : 2 ≤ d) (hi : 0 ≤ i ∧ i ≤ 2147483647) (h34 : 0 ≤ s.1 34 ∧ s.1 34 ≤ 220) (hbt : ∀ j : Nat, -128 ≤ s.2.2.1 32 j ∧ s.2.2.1 32 j ≤ 127) : pgP xt d 209 [.ref 102, ii i] (rS pre post s) (zz (decide (97 ≤ byR s i ∧ byR s i ≤ 122))) := by
  have hbr := byR_r s i
  refine x_enter pm_X12_isLetter (L0 := [(0, .ref 102), (1, ii i)]) rfl (Nat.le_of_ble_eq_true rfl) (by omega) ?_
  refine me1 (pc' := 1) (L' := [(0, .ref 102), (1, ii i)]) (S' := [.ref 102]) dm_X12_isLetter_0 rfl rfl rfl rfl ?_
  refine me1 (pc' := 2) (L' := [(0, .ref 102), (1, ii i)]) (S' := [ii i, .ref 102]) dm_X12_isLetter_1 rfl rfl rfl rfl ?_
  refine x_cp (pc' := 5) (v := ii (byR s i)) (rest := []) dm_X12_isLetter_2 rfl (q_inv (As := [ii i]) (S := []) hm rfl rfl rfl) rfl rfl rfl (r_byteAt_ hm (by omega) hi h34 hbt) ?_
  refine me0 (pc' := 7) (S' := [ii 97, ii (byR s i)]) dm_X12_isLetter_5 rfl rfl rfl rfl ?_
  refine y_2lt (a := byR s i) (b := 97) (t := 24) (pc' := 10) dm_X12_isLetter_7 rfl rfl (by omega) (fun hb1 => ?_) (fun hb1 => ?_)
  · refine me0 (pc' := 25) (S' := [ii 0]) dm_X12_isLetter_24 rfl rfl rfl rfl ?_
    refine y_ret (r := some (ii 0)) dm_X12_isLetter_25 rfl rfl rfl ?_
    exact ⟨congrArg some (zf (by omega)), rfl⟩
  · refine me1 (pc' := 11) (L' := [(0, .ref 102), (1, ii i)]) (S' := [.ref 102]) dm_X12_isLetter_10 rfl rfl rfl rfl ?_
    refine me1 (pc' := 12) (L' := [(0, .ref 102), (1, ii i)]) (S' := [ii i, .ref 102]) dm_X12_isLetter_11 rfl rfl rfl rfl ?_
    refine x_cp (pc' := 15) (v := ii (byR s i)) (rest := []) dm_X12_isLetter_12 rfl (q_inv (As := [ii i]) (S := []) hm rfl rfl rfl) rfl rfl rfl (r_byteAt_ hm (by omega) hi h34 hbt) ?_
    refine me0 (pc' := 17) (S' := [ii 122, ii (byR s i)]) dm_X12_isLetter_15 rfl rfl rfl rfl ?_
    refine y_2gt (a := byR s i) (b := 122) (t := 24) (pc' := 20) dm_X12_isLetter_17 rfl rfl (by omega) (fun hb2 => ?_) (fun hb2 => ?_)
    · refine me0 (pc' := 25) (S' := [ii 0]) dm_X12_isLetter_24 rfl rfl rfl rfl ?_
      refine y_ret (r := some (ii 0)) dm_X12_isLetter_25 rfl rfl rfl ?_
      exact ⟨congrArg some (zf (by omega)), rfl⟩
    · refine me0 (pc' := 21) (S' := [ii 1]) dm_X12_isLetter_20 rfl rfl rfl rfl ?_
      refine me2 (pc' := 25) (S' := [ii 1]) dm_X12_isLetter_21 rfl rfl rfl ?_
      refine y_ret (r := some (ii 1)) dm_X12_isLetter_25 rfl rfl rfl ?_
      exact ⟨congrArg some (zt (by omega)), rfl⟩
