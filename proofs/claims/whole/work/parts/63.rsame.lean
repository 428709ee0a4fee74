theorem pg_st {xt : mj_X} {d own nL : Nat} {ini : Bool} {ret : Option FieldType} {cf : Nat → Option (Instr × Nat)} {pc : Nat} {L : mj_L} {S S' : List Value} {h : mj_H} {P : Option Value → mj_H → Prop} (e : S = S') (k : pgE xt d own nL ini ret cf pc L S' h P) : pgE xt d own nL ini ret cf pc L S h P := by
  rw [e]
  exact k
theorem allN_lf {k n : Nat} {f : Nat → Bool} (hk : k ≤ n) (h : allN k f = false) : allN n f = false := by
  cases hz : allN n f with
  | false => rfl
  | true =>
    rw [allN_iff] at hz
    rw [allN_iff.mpr (fun j hj => hz j (by omega))] at h
    cases h
/-- item by item -/
def vsF (e : Nat) (v w : VV) (k : Nat) : Bool := if vk v = 7 then vsame e (vd v k) (vd w k) else decide (vn v k = vn w k)
theorem vsame_F {e : Nat} {v w : VV} (h : 2 ≤ vk v) (h2 : 2 ≤ vk w) (hn : ((vk v = 2 ∨ vk v = 4 ∨ vk v = 5) ∧ (vk w = 2 ∨ vk w = 4 ∨ vk w = 5)) ∨ (¬ (vk v = 2 ∨ vk v = 4 ∨ vk v = 5) ∧ vk v = vk w)) (hm : vm v = vm w) (hc : vc v = vc w) : vsame (e + 1) v w = allN (vcl v) (vsF e v w) := by
  rw [vsame_yes h h2 hn hm hc]
  unfold vcl
  by_cases a : vk v = 7
  · rw [if_pos a, if_pos a]
    exact allN_congr (fun k _ => by unfold vsF; rw [if_pos a])
  · rw [if_neg a, if_neg a]
    exact allN_congr (fun k _ => by unfold vsF; rw [if_neg a])
theorem vcl_6 {v : VV} (h : vk v = 6) : (vm v : Int) * (vc v : Int) = ((vcl v : Nat) : Int) := by
  unfold vcl vq
  rw [if_neg (by omega), if_pos h, Int.natCast_mul]
theorem vcl_n {v : VV} (h : vk v ≠ 6) : (vm v : Int) = ((vcl v : Nat) : Int) := by
  unfold vcl vq
  by_cases a : vk v = 7
  · rw [if_pos a]
  · rw [if_neg a, if_neg h, if_neg a]
set_option maxRecDepth 20000 in
theorem pm_X12_sizeOf : mj_mmof pg_ms 247 = some ((⟨"ArrayCalculatorModel", "sizeOf", "(I)I"⟩, prog_14_method_19_code, 4, (Option.some Jvm.ClassFile.FieldType.int)), 12, false, mj_dec prog_14_method_19_code) := rfl
theorem dm_X12_sizeOf_0 : mj_dec prog_14_method_19_code 0 = some (.aload_n 0, 1) := by decide +kernel
theorem dm_X12_sizeOf_1 : mj_dec prog_14_method_19_code 1 = some (.iload_n 1, 1) := by decide +kernel
theorem dm_X12_sizeOf_2 : mj_dec prog_14_method_19_code 2 = some (.invokevirtual 162, 3) := by decide +kernel
theorem dm_X12_sizeOf_5 : mj_dec prog_14_method_19_code 5 = some (.ifCond .eq 5, 3) := by decide +kernel
theorem dm_X12_sizeOf_8 : mj_dec prog_14_method_19_code 8 = some (.iconst 1, 1) := by decide +kernel
theorem dm_X12_sizeOf_9 : mj_dec prog_14_method_19_code 9 = some (.ireturn, 1) := by decide +kernel
theorem dm_X12_sizeOf_10 : mj_dec prog_14_method_19_code 10 = some (.aload_n 0, 1) := by decide +kernel
theorem dm_X12_sizeOf_11 : mj_dec prog_14_method_19_code 11 = some (.iload_n 1, 1) := by decide +kernel
theorem dm_X12_sizeOf_12 : mj_dec prog_14_method_19_code 12 = some (.invokevirtual 146, 3) := by decide +kernel
theorem dm_X12_sizeOf_15 : mj_dec prog_14_method_19_code 15 = some (.bipush 6, 2) := by decide +kernel
theorem dm_X12_sizeOf_17 : mj_dec prog_14_method_19_code 17 = some (.if_icmp .ne 17, 3) := by decide +kernel
theorem dm_X12_sizeOf_20 : mj_dec prog_14_method_19_code 20 = some (.iconst 1, 1) := by decide +kernel
theorem dm_X12_sizeOf_21 : mj_dec prog_14_method_19_code 21 = some (.aload_n 0, 1) := by decide +kernel
theorem dm_X12_sizeOf_22 : mj_dec prog_14_method_19_code 22 = some (.iload_n 1, 1) := by decide +kernel
theorem dm_X12_sizeOf_23 : mj_dec prog_14_method_19_code 23 = some (.invokevirtual 134, 3) := by decide +kernel
theorem dm_X12_sizeOf_26 : mj_dec prog_14_method_19_code 26 = some (.aload_n 0, 1) := by decide +kernel
theorem dm_X12_sizeOf_27 : mj_dec prog_14_method_19_code 27 = some (.iload_n 1, 1) := by decide +kernel
theorem dm_X12_sizeOf_28 : mj_dec prog_14_method_19_code 28 = some (.invokevirtual 156, 3) := by decide +kernel
theorem dm_X12_sizeOf_31 : mj_dec prog_14_method_19_code 31 = some (.imul, 1) := by decide +kernel
theorem dm_X12_sizeOf_32 : mj_dec prog_14_method_19_code 32 = some (.iadd, 1) := by decide +kernel
theorem dm_X12_sizeOf_33 : mj_dec prog_14_method_19_code 33 = some (.ireturn, 1) := by decide +kernel
theorem dm_X12_sizeOf_34 : mj_dec prog_14_method_19_code 34 = some (.aload_n 0, 1) := by decide +kernel
theorem dm_X12_sizeOf_35 : mj_dec prog_14_method_19_code 35 = some (.iload_n 1, 1) := by decide +kernel
theorem dm_X12_sizeOf_36 : mj_dec prog_14_method_19_code 36 = some (.invokevirtual 146, 3) := by decide +kernel
theorem dm_X12_sizeOf_39 : mj_dec prog_14_method_19_code 39 = some (.bipush 7, 2) := by decide +kernel
theorem dm_X12_sizeOf_41 : mj_dec prog_14_method_19_code 41 = some (.if_icmp .eq 11, 3) := by decide +kernel
theorem dm_X12_sizeOf_44 : mj_dec prog_14_method_19_code 44 = some (.iconst 1, 1) := by decide +kernel
theorem dm_X12_sizeOf_45 : mj_dec prog_14_method_19_code 45 = some (.aload_n 0, 1) := by decide +kernel
theorem dm_X12_sizeOf_46 : mj_dec prog_14_method_19_code 46 = some (.iload_n 1, 1) := by decide +kernel
theorem dm_X12_sizeOf_47 : mj_dec prog_14_method_19_code 47 = some (.invokevirtual 134, 3) := by decide +kernel
theorem dm_X12_sizeOf_50 : mj_dec prog_14_method_19_code 50 = some (.iadd, 1) := by decide +kernel
theorem dm_X12_sizeOf_51 : mj_dec prog_14_method_19_code 51 = some (.ireturn, 1) := by decide +kernel
theorem dm_X12_sizeOf_52 : mj_dec prog_14_method_19_code 52 = some (.iconst 1, 1) := by decide +kernel
theorem dm_X12_sizeOf_53 : mj_dec prog_14_method_19_code 53 = some (.istore_n 2, 1) := by decide +kernel
theorem dm_X12_sizeOf_54 : mj_dec prog_14_method_19_code 54 = some (.iconst 0, 1) := by decide +kernel
theorem dm_X12_sizeOf_55 : mj_dec prog_14_method_19_code 55 = some (.istore_n 3, 1) := by decide +kernel
theorem dm_X12_sizeOf_56 : mj_dec prog_14_method_19_code 56 = some (.iload_n 3, 1) := by decide +kernel
theorem dm_X12_sizeOf_57 : mj_dec prog_14_method_19_code 57 = some (.aload_n 0, 1) := by decide +kernel
theorem dm_X12_sizeOf_58 : mj_dec prog_14_method_19_code 58 = some (.iload_n 1, 1) := by decide +kernel
theorem dm_X12_sizeOf_59 : mj_dec prog_14_method_19_code 59 = some (.invokevirtual 134, 3) := by decide +kernel
theorem dm_X12_sizeOf_62 : mj_dec prog_14_method_19_code 62 = some (.if_icmp .ge 22, 3) := by decide +kernel
theorem dm_X12_sizeOf_65 : mj_dec prog_14_method_19_code 65 = some (.iload_n 2, 1) := by decide +kernel
theorem dm_X12_sizeOf_66 : mj_dec prog_14_method_19_code 66 = some (.aload_n 0, 1) := by decide +kernel
theorem dm_X12_sizeOf_67 : mj_dec prog_14_method_19_code 67 = some (.aload_n 0, 1) := by decide +kernel
theorem dm_X12_sizeOf_68 : mj_dec prog_14_method_19_code 68 = some (.iload_n 1, 1) := by decide +kernel
theorem dm_X12_sizeOf_69 : mj_dec prog_14_method_19_code 69 = some (.iload_n 3, 1) := by decide +kernel
theorem dm_X12_sizeOf_70 : mj_dec prog_14_method_19_code 70 = some (.invokevirtual 153, 3) := by decide +kernel
theorem dm_X12_sizeOf_73 : mj_dec prog_14_method_19_code 73 = some (.invokevirtual 165, 3) := by decide +kernel
theorem dm_X12_sizeOf_76 : mj_dec prog_14_method_19_code 76 = some (.iadd, 1) := by decide +kernel
theorem dm_X12_sizeOf_77 : mj_dec prog_14_method_19_code 77 = some (.istore_n 2, 1) := by decide +kernel
theorem dm_X12_sizeOf_78 : mj_dec prog_14_method_19_code 78 = some (.iinc 3 1, 3) := by decide +kernel
theorem dm_X12_sizeOf_81 : mj_dec prog_14_method_19_code 81 = some (.goto (-25), 3) := by decide +kernel
theorem dm_X12_sizeOf_84 : mj_dec prog_14_method_19_code 84 = some (.iload_n 2, 1) := by decide +kernel
theorem dm_X12_sizeOf_85 : mj_dec prog_14_method_19_code 85 = some (.ireturn, 1) := by decide +kernel
theorem r_sizeOf_ {xt : mj_X} {pre post : mj_H} {s : RS} (hm : pre.length = 102) (hB : rB s) : ∀ (e : Nat) {d hd : Nat} {v : VV}, 3 * e + 3 ≤ d → rv s e hd v → pgP xt d 247 [.ref 102, ii (hd : Int)] (rS pre post s) (ii (vsz e v : Int)) := by
  intro e
  induction e with
  | zero => intro d hd v hd1 hv; exact hv.elim
  | succ e ih =>
    intro d hd v hd1 hv
    have hB0 := hB
    obtain ⟨hB1, hB2, hB3, hB4⟩ := hB
    obtain ⟨fr, hfr, hsh, hlt, hcl, hvk, hvm, hvc, hvq, hvcl⟩ := rv_val hv
    refine x_enter pm_X12_sizeOf (L0 := [(0, .ref 102), (1, ii (hd : Int))]) rfl (Nat.le_of_ble_eq_true rfl) (by omega) ?_
    refine me1 (pc' := 1) (L' := [(0, .ref 102), (1, ii (hd : Int))]) (S' := [.ref 102]) dm_X12_sizeOf_0 rfl rfl rfl rfl ?_
    refine me1 (pc' := 2) (L' := [(0, .ref 102), (1, ii (hd : Int))]) (S' := [ii (hd : Int), .ref 102]) dm_X12_sizeOf_1 rfl rfl rfl rfl ?_
    refine x_cp (pc' := 5) (v := zz (decide (vk v ≤ 1))) (rest := []) dm_X12_sizeOf_2 rfl (q_inv (As := [ii (hd : Int)]) (S := []) hm rfl rfl rfl) rfl rfl rfl (r_isOne_ hm (by omega) hB0 hv) ?_
    refine y_zeq (c := decide (vk v ≤ 1)) (t := 10) (pc' := 8) dm_X12_sizeOf_5 rfl rfl (fun hb1 => ?_) (fun hb1 => ?_)
    · replace hb1 := dF hb1
      refine me1 (pc' := 11) (L' := [(0, .ref 102), (1, ii (hd : Int))]) (S' := [.ref 102]) dm_X12_sizeOf_10 rfl rfl rfl rfl ?_
      refine me1 (pc' := 12) (L' := [(0, .ref 102), (1, ii (hd : Int))]) (S' := [ii (hd : Int), .ref 102]) dm_X12_sizeOf_11 rfl rfl rfl rfl ?_
      refine x_cp (pc' := 15) (v := ii (vk v : Int)) (rest := []) dm_X12_sizeOf_12 rfl (q_inv (As := [ii (hd : Int)]) (S := []) hm rfl rfl rfl) rfl rfl rfl (r_kindOf_ hm (by omega) hB0 hv) ?_
      refine me0 (pc' := 17) (S' := [ii 6, ii (vk v : Int)]) dm_X12_sizeOf_15 rfl rfl rfl rfl ?_
      refine y_2ne (a := (vk v : Int)) (b := 6) (t := 34) (pc' := 20) dm_X12_sizeOf_17 rfl rfl (by omega) (fun hb2 => ?_) (fun hb2 => ?_)
      · refine me1 (pc' := 35) (L' := [(0, .ref 102), (1, ii (hd : Int))]) (S' := [.ref 102]) dm_X12_sizeOf_34 rfl rfl rfl rfl ?_
        refine me1 (pc' := 36) (L' := [(0, .ref 102), (1, ii (hd : Int))]) (S' := [ii (hd : Int), .ref 102]) dm_X12_sizeOf_35 rfl rfl rfl rfl ?_
        refine x_cp (pc' := 39) (v := ii (vk v : Int)) (rest := []) dm_X12_sizeOf_36 rfl (q_inv (As := [ii (hd : Int)]) (S := []) hm rfl rfl rfl) rfl rfl rfl (r_kindOf_ hm (by omega) hB0 hv) ?_
        refine me0 (pc' := 41) (S' := [ii 7, ii (vk v : Int)]) dm_X12_sizeOf_39 rfl rfl rfl rfl ?_
        refine y_2eq (a := (vk v : Int)) (b := 7) (t := 52) (pc' := 44) dm_X12_sizeOf_41 rfl rfl (by omega) (fun hb3 => ?_) (fun hb3 => ?_)
        · refine me0 (pc' := 53) (S' := [ii 1]) dm_X12_sizeOf_52 rfl rfl rfl rfl ?_
          refine me1 (pc' := 54) (L' := [(2, ii 1), (0, .ref 102), (1, ii (hd : Int))]) (S' := []) dm_X12_sizeOf_53 rfl rfl rfl rfl ?_
          refine me0 (pc' := 55) (S' := [ii 0]) dm_X12_sizeOf_54 rfl rfl rfl rfl ?_
          refine me1 (pc' := 56) (L' := [(3, ii 0), (2, ii 1), (0, .ref 102), (1, ii (hd : Int))]) (S' := []) dm_X12_sizeOf_55 rfl rfl rfl rfl ?_
          have lp56 : ∀ (n56 : Nat) (k : Nat) (n : Nat), vm v - k = n56 → (k ≤ vm v) → (n = 1 + sumN k (fun k => vsz e (vd v k))) → pgE xt (d - 1) 12 4 false (Option.some Jvm.ClassFile.FieldType.int) (mj_dec prog_14_method_19_code) 56 [(0, .ref 102), (1, ii (hd : Int)), (2, ii ((n : Nat) : Int)), (3, ii (k : Int))] [] (rI pre post s.1 s.2.1 s.2.2.1 s.2.2.2) (fun r h' => r = some (ii (vsz (e + 1) v : Int)) ∧ h' = rS pre post s) := by
            intro n56
            induction n56 using Nat.strongRecOn with
            | ind n56 ih56 =>
              intro k n hm56 hk hn
              refine me1 (pc' := 57) (L' := [(0, .ref 102), (1, ii (hd : Int)), (2, ii ((n : Nat) : Int)), (3, ii (k : Int))]) (S' := [ii (k : Int)]) dm_X12_sizeOf_56 rfl rfl rfl rfl ?_
              refine me1 (pc' := 58) (L' := [(0, .ref 102), (1, ii (hd : Int)), (2, ii ((n : Nat) : Int)), (3, ii (k : Int))]) (S' := [.ref 102, ii (k : Int)]) dm_X12_sizeOf_57 rfl rfl rfl rfl ?_
              refine me1 (pc' := 59) (L' := [(0, .ref 102), (1, ii (hd : Int)), (2, ii ((n : Nat) : Int)), (3, ii (k : Int))]) (S' := [ii (hd : Int), .ref 102, ii (k : Int)]) dm_X12_sizeOf_58 rfl rfl rfl rfl ?_
              refine x_cp (pc' := 62) (v := ii (vm v : Int)) (rest := [ii (k : Int)]) dm_X12_sizeOf_59 rfl (q_inv (As := [ii (hd : Int)]) (S := [ii (k : Int)]) hm rfl rfl rfl) rfl rfl rfl (r_many_ hm (by omega) hB0 hv) ?_
              refine y_2ge (a := (k : Int)) (b := (vm v : Int)) (t := 84) (pc' := 65) dm_X12_sizeOf_62 rfl rfl (by omega) (fun hb4 => ?_) (fun hb4 => ?_)
              · refine me1 (pc' := 85) (L' := [(0, .ref 102), (1, ii (hd : Int)), (2, ii ((n : Nat) : Int)), (3, ii (k : Int))]) (S' := [ii ((n : Nat) : Int)]) dm_X12_sizeOf_84 rfl rfl rfl rfl ?_
                refine y_ret (r := some (ii ((n : Nat) : Int))) dm_X12_sizeOf_85 rfl rfl rfl ?_
                refine ⟨congrArg some (n_ii ?_), rfl⟩
                show _ = ((if vk v ≤ 1 then 1 else if vk v = 6 then 1 + vm v * vc v else if vk v = 7 then 1 + sumN (vm v) (fun k => vsz e (vd v k)) else 1 + vm v : Nat) : Int)
                rw [if_neg (by omega), if_neg (by omega), if_pos (by omega)]
                have hkm : k = vm v := by omega
                rw [hn, hkm]
              · refine me1 (pc' := 66) (L' := [(0, .ref 102), (1, ii (hd : Int)), (2, ii ((n : Nat) : Int)), (3, ii (k : Int))]) (S' := [ii ((n : Nat) : Int)]) dm_X12_sizeOf_65 rfl rfl rfl rfl ?_
                refine me1 (pc' := 67) (L' := [(0, .ref 102), (1, ii (hd : Int)), (2, ii ((n : Nat) : Int)), (3, ii (k : Int))]) (S' := [.ref 102, ii ((n : Nat) : Int)]) dm_X12_sizeOf_66 rfl rfl rfl rfl ?_
                refine me1 (pc' := 68) (L' := [(0, .ref 102), (1, ii (hd : Int)), (2, ii ((n : Nat) : Int)), (3, ii (k : Int))]) (S' := [.ref 102, .ref 102, ii ((n : Nat) : Int)]) dm_X12_sizeOf_67 rfl rfl rfl rfl ?_
                refine me1 (pc' := 69) (L' := [(0, .ref 102), (1, ii (hd : Int)), (2, ii ((n : Nat) : Int)), (3, ii (k : Int))]) (S' := [ii (hd : Int), .ref 102, .ref 102, ii ((n : Nat) : Int)]) dm_X12_sizeOf_68 rfl rfl rfl rfl ?_
                refine me1 (pc' := 70) (L' := [(0, .ref 102), (1, ii (hd : Int)), (2, ii ((n : Nat) : Int)), (3, ii (k : Int))]) (S' := [ii (k : Int), ii (hd : Int), .ref 102, .ref 102, ii ((n : Nat) : Int)]) dm_X12_sizeOf_69 rfl rfl rfl rfl ?_
                obtain ⟨q, hq3, hqlt, hqv, hcq⟩ := r_value_ (xt := xt) (d := d - 1) (pre := pre) (post := post) (k := k) hm (by omega) hB0 hv (by omega) (by omega)
                refine x_cp (pc' := 73) (v := ii (q : Int)) (rest := [.ref 102, ii ((n : Nat) : Int)]) dm_X12_sizeOf_70 rfl (q_inv (As := [ii (hd : Int), ii (k : Int)]) (S := [.ref 102, ii ((n : Nat) : Int)]) hm rfl rfl rfl) rfl rfl rfl (hcq) ?_
                refine x_cp (pc' := 76) (v := ii (vsz e (vd v k) : Int)) (rest := [ii ((n : Nat) : Int)]) dm_X12_sizeOf_73 rfl (q_inv (As := [ii (q : Int)]) (S := [ii ((n : Nat) : Int)]) hm rfl rfl rfl) rfl rfl rfl (ih (by omega) hqv) ?_
                refine y_iadd (a := ((n : Nat) : Int)) (b := (vsz e (vd v k) : Int)) dm_X12_sizeOf_76 (pc' := 77) rfl ?_
                refine me1 (pc' := 78) (L' := [(2, ii (((n : Nat) : Int) + (vsz e (vd v k) : Int))), (0, .ref 102), (1, ii (hd : Int)), (3, ii (k : Int))]) (S' := []) dm_X12_sizeOf_77 rfl rfl rfl rfl ?_
                refine y_iinc (pc' := 81) (L' := [(3, ii ((k : Int) + 1)), (2, ii (((n : Nat) : Int) + (vsz e (vd v k) : Int))), (0, .ref 102), (1, ii (hd : Int))]) dm_X12_sizeOf_78 (y_incp (a := (k : Int)) (c := 1) rfl rfl (by decide)) rfl ?_
                refine me2 (pc' := 56) (S' := []) dm_X12_sizeOf_81 rfl rfl rfl ?_
                exact pg_sub (L := [(0, .ref 102), (1, ii (hd : Int)), (2, ii (((n + vsz e (vd v k)) : Nat) : Int)), (3, ii ((k + 1) : Int))]) rfl rfl rfl (ih56 (vm v - (k + 1)) (by omega) (k + 1) (n + vsz e (vd v k)) rfl (by omega) (by show n + vsz e (vd v k) = 1 + (sumN k (fun k => vsz e (vd v k)) + vsz e (vd v k)); omega))
          exact pg_sub (L := [(0, .ref 102), (1, ii (hd : Int)), (2, ii ((1 : Nat) : Int)), (3, ii (0 : Int))]) rfl rfl rfl (lp56 _ 0 1 rfl (by omega) rfl)
        · refine me0 (pc' := 45) (S' := [ii 1]) dm_X12_sizeOf_44 rfl rfl rfl rfl ?_
          refine me1 (pc' := 46) (L' := [(0, .ref 102), (1, ii (hd : Int))]) (S' := [.ref 102, ii 1]) dm_X12_sizeOf_45 rfl rfl rfl rfl ?_
          refine me1 (pc' := 47) (L' := [(0, .ref 102), (1, ii (hd : Int))]) (S' := [ii (hd : Int), .ref 102, ii 1]) dm_X12_sizeOf_46 rfl rfl rfl rfl ?_
          refine x_cp (pc' := 50) (v := ii (vm v : Int)) (rest := [ii 1]) dm_X12_sizeOf_47 rfl (q_inv (As := [ii (hd : Int)]) (S := [ii 1]) hm rfl rfl rfl) rfl rfl rfl (r_many_ hm (by omega) hB0 hv) ?_
          refine y_iadd (a := 1) (b := (vm v : Int)) dm_X12_sizeOf_50 (pc' := 51) rfl ?_
          refine y_ret (r := some (ii (1 + (vm v : Int)))) dm_X12_sizeOf_51 rfl rfl rfl ?_
          refine ⟨congrArg some (n_ii ?_), rfl⟩
          show _ = ((if vk v ≤ 1 then 1 else if vk v = 6 then 1 + vm v * vc v else if vk v = 7 then 1 + sumN (vm v) (fun k => vsz e (vd v k)) else 1 + vm v : Nat) : Int)
          rw [if_neg (by omega), if_neg (by omega), if_neg (by omega)]; push_cast; rfl
      · refine me0 (pc' := 21) (S' := [ii 1]) dm_X12_sizeOf_20 rfl rfl rfl rfl ?_
        refine me1 (pc' := 22) (L' := [(0, .ref 102), (1, ii (hd : Int))]) (S' := [.ref 102, ii 1]) dm_X12_sizeOf_21 rfl rfl rfl rfl ?_
        refine me1 (pc' := 23) (L' := [(0, .ref 102), (1, ii (hd : Int))]) (S' := [ii (hd : Int), .ref 102, ii 1]) dm_X12_sizeOf_22 rfl rfl rfl rfl ?_
        refine x_cp (pc' := 26) (v := ii (vm v : Int)) (rest := [ii 1]) dm_X12_sizeOf_23 rfl (q_inv (As := [ii (hd : Int)]) (S := [ii 1]) hm rfl rfl rfl) rfl rfl rfl (r_many_ hm (by omega) hB0 hv) ?_
        refine me1 (pc' := 27) (L' := [(0, .ref 102), (1, ii (hd : Int))]) (S' := [.ref 102, ii (vm v : Int), ii 1]) dm_X12_sizeOf_26 rfl rfl rfl rfl ?_
        refine me1 (pc' := 28) (L' := [(0, .ref 102), (1, ii (hd : Int))]) (S' := [ii (hd : Int), .ref 102, ii (vm v : Int), ii 1]) dm_X12_sizeOf_27 rfl rfl rfl rfl ?_
        refine x_cp (pc' := 31) (v := ii (vc v : Int)) (rest := [ii (vm v : Int), ii 1]) dm_X12_sizeOf_28 rfl (q_inv (As := [ii (hd : Int)]) (S := [ii (vm v : Int), ii 1]) hm rfl rfl rfl) rfl rfl rfl (r_columns_ hm (by omega) hB0 hv) ?_
        refine y_imul (a := (vm v : Int)) (b := (vc v : Int)) dm_X12_sizeOf_31 (pc' := 32) rfl ?_
        refine y_iadd (a := 1) (b := (vm v : Int) * (vc v : Int)) dm_X12_sizeOf_32 (pc' := 33) rfl ?_
        refine y_ret (r := some (ii (1 + ((vm v : Int) * (vc v : Int))))) dm_X12_sizeOf_33 rfl rfl rfl ?_
        refine ⟨congrArg some (n_ii ?_), rfl⟩
        show _ = ((if vk v ≤ 1 then 1 else if vk v = 6 then 1 + vm v * vc v else if vk v = 7 then 1 + sumN (vm v) (fun k => vsz e (vd v k)) else 1 + vm v : Nat) : Int)
        rw [if_neg (by omega), if_pos (by omega)]; push_cast; rfl
    · replace hb1 := dT hb1
      refine me0 (pc' := 9) (S' := [ii 1]) dm_X12_sizeOf_8 rfl rfl rfl rfl ?_
      refine y_ret (r := some (ii 1)) dm_X12_sizeOf_9 rfl rfl rfl ?_
      refine ⟨congrArg some (n_ii ?_), rfl⟩
      show _ = ((if vk v ≤ 1 then 1 else if vk v = 6 then 1 + vm v * vc v else if vk v = 7 then 1 + sumN (vm v) (fun k => vsz e (vd v k)) else 1 + vm v : Nat) : Int)
      rw [if_pos (by omega)]; rfl
set_option maxRecDepth 20000 in
theorem pm_X12_larger : mj_mmof pg_ms 252 = some ((⟨"ArrayCalculatorModel", "larger", "(II)I"⟩, prog_14_method_21_code, 2, (Option.some Jvm.ClassFile.FieldType.int)), 12, false, mj_dec prog_14_method_21_code) := rfl
theorem dm_X12_larger_0 : mj_dec prog_14_method_21_code 0 = some (.iload_n 0, 1) := by decide +kernel
theorem dm_X12_larger_1 : mj_dec prog_14_method_21_code 1 = some (.iload_n 1, 1) := by decide +kernel
theorem dm_X12_larger_2 : mj_dec prog_14_method_21_code 2 = some (.if_icmp .le 7, 3) := by decide +kernel
theorem dm_X12_larger_5 : mj_dec prog_14_method_21_code 5 = some (.iload_n 0, 1) := by decide +kernel
theorem dm_X12_larger_6 : mj_dec prog_14_method_21_code 6 = some (.goto 4, 3) := by decide +kernel
theorem dm_X12_larger_9 : mj_dec prog_14_method_21_code 9 = some (.iload_n 1, 1) := by decide +kernel
theorem dm_X12_larger_10 : mj_dec prog_14_method_21_code 10 = some (.ireturn, 1) := by decide +kernel
theorem r_larger_ {xt : mj_X} {d : Nat} {h : mj_H} {a b : Nat} (hd1 : 1 ≤ d) (ha : a ≤ 1000) (hb : b ≤ 1000) : pgP xt d 252 [ii (a : Int), ii (b : Int)] h (ii ((max a b : Nat) : Int)) := by
  refine x_enter pm_X12_larger (L0 := [(0, ii (a : Int)), (1, ii (b : Int))]) rfl (Nat.le_of_ble_eq_true rfl) (by omega) ?_
  refine me1 (pc' := 1) (L' := [(0, ii (a : Int)), (1, ii (b : Int))]) (S' := [ii (a : Int)]) dm_X12_larger_0 rfl rfl rfl rfl ?_
  refine me1 (pc' := 2) (L' := [(0, ii (a : Int)), (1, ii (b : Int))]) (S' := [ii (b : Int), ii (a : Int)]) dm_X12_larger_1 rfl rfl rfl rfl ?_
  refine y_2le (a := (a : Int)) (b := (b : Int)) (t := 9) (pc' := 5) dm_X12_larger_2 rfl rfl (by omega) (fun hb1 => ?_) (fun hb1 => ?_)
  · refine me1 (pc' := 10) (L' := [(0, ii (a : Int)), (1, ii (b : Int))]) (S' := [ii (b : Int)]) dm_X12_larger_9 rfl rfl rfl rfl ?_
    refine y_ret (r := some (ii (b : Int))) dm_X12_larger_10 rfl rfl rfl ?_
    exact ⟨congrArg some (n_ii (by omega)), rfl⟩
  · refine me1 (pc' := 6) (L' := [(0, ii (a : Int)), (1, ii (b : Int))]) (S' := [ii (a : Int)]) dm_X12_larger_5 rfl rfl rfl rfl ?_
    refine me2 (pc' := 10) (S' := [ii (a : Int)]) dm_X12_larger_6 rfl rfl rfl ?_
    refine y_ret (r := some (ii (a : Int))) dm_X12_larger_10 rfl rfl rfl ?_
    exact ⟨congrArg some (n_ii (by omega)), rfl⟩
set_option maxRecDepth 20000 in
theorem pm_X12_levelsOf : mj_mmof pg_ms 251 = some ((⟨"ArrayCalculatorModel", "levelsOf", "(I)I"⟩, prog_14_method_20_code, 4, (Option.some Jvm.ClassFile.FieldType.int)), 12, false, mj_dec prog_14_method_20_code) := rfl
theorem dm_X12_levelsOf_0 : mj_dec prog_14_method_20_code 0 = some (.aload_n 0, 1) := by decide +kernel
theorem dm_X12_levelsOf_1 : mj_dec prog_14_method_20_code 1 = some (.iload_n 1, 1) := by decide +kernel
theorem dm_X12_levelsOf_2 : mj_dec prog_14_method_20_code 2 = some (.invokevirtual 146, 3) := by decide +kernel
theorem dm_X12_levelsOf_5 : mj_dec prog_14_method_20_code 5 = some (.bipush 7, 2) := by decide +kernel
theorem dm_X12_levelsOf_7 : mj_dec prog_14_method_20_code 7 = some (.if_icmp .eq 31, 3) := by decide +kernel
theorem dm_X12_levelsOf_10 : mj_dec prog_14_method_20_code 10 = some (.aload_n 0, 1) := by decide +kernel
theorem dm_X12_levelsOf_11 : mj_dec prog_14_method_20_code 11 = some (.iload_n 1, 1) := by decide +kernel
theorem dm_X12_levelsOf_12 : mj_dec prog_14_method_20_code 12 = some (.invokevirtual 162, 3) := by decide +kernel
theorem dm_X12_levelsOf_15 : mj_dec prog_14_method_20_code 15 = some (.ifCond .eq 7, 3) := by decide +kernel
theorem dm_X12_levelsOf_18 : mj_dec prog_14_method_20_code 18 = some (.iconst 0, 1) := by decide +kernel
theorem dm_X12_levelsOf_19 : mj_dec prog_14_method_20_code 19 = some (.goto 18, 3) := by decide +kernel
theorem dm_X12_levelsOf_22 : mj_dec prog_14_method_20_code 22 = some (.aload_n 0, 1) := by decide +kernel
theorem dm_X12_levelsOf_23 : mj_dec prog_14_method_20_code 23 = some (.iload_n 1, 1) := by decide +kernel
theorem dm_X12_levelsOf_24 : mj_dec prog_14_method_20_code 24 = some (.invokevirtual 146, 3) := by decide +kernel
theorem dm_X12_levelsOf_27 : mj_dec prog_14_method_20_code 27 = some (.bipush 6, 2) := by decide +kernel
theorem dm_X12_levelsOf_29 : mj_dec prog_14_method_20_code 29 = some (.if_icmp .ne 7, 3) := by decide +kernel
theorem dm_X12_levelsOf_32 : mj_dec prog_14_method_20_code 32 = some (.iconst 2, 1) := by decide +kernel
theorem dm_X12_levelsOf_33 : mj_dec prog_14_method_20_code 33 = some (.goto 4, 3) := by decide +kernel
theorem dm_X12_levelsOf_36 : mj_dec prog_14_method_20_code 36 = some (.iconst 1, 1) := by decide +kernel
theorem dm_X12_levelsOf_37 : mj_dec prog_14_method_20_code 37 = some (.ireturn, 1) := by decide +kernel
theorem dm_X12_levelsOf_38 : mj_dec prog_14_method_20_code 38 = some (.iconst 0, 1) := by decide +kernel
theorem dm_X12_levelsOf_39 : mj_dec prog_14_method_20_code 39 = some (.istore_n 2, 1) := by decide +kernel
theorem dm_X12_levelsOf_40 : mj_dec prog_14_method_20_code 40 = some (.iconst 0, 1) := by decide +kernel
theorem dm_X12_levelsOf_41 : mj_dec prog_14_method_20_code 41 = some (.istore_n 3, 1) := by decide +kernel
theorem dm_X12_levelsOf_42 : mj_dec prog_14_method_20_code 42 = some (.iload_n 3, 1) := by decide +kernel
theorem dm_X12_levelsOf_43 : mj_dec prog_14_method_20_code 43 = some (.aload_n 0, 1) := by decide +kernel
theorem dm_X12_levelsOf_44 : mj_dec prog_14_method_20_code 44 = some (.iload_n 1, 1) := by decide +kernel
theorem dm_X12_levelsOf_45 : mj_dec prog_14_method_20_code 45 = some (.invokevirtual 134, 3) := by decide +kernel
theorem dm_X12_levelsOf_48 : mj_dec prog_14_method_20_code 48 = some (.if_icmp .ge 24, 3) := by decide +kernel
theorem dm_X12_levelsOf_51 : mj_dec prog_14_method_20_code 51 = some (.iload_n 2, 1) := by decide +kernel
theorem dm_X12_levelsOf_52 : mj_dec prog_14_method_20_code 52 = some (.aload_n 0, 1) := by decide +kernel
theorem dm_X12_levelsOf_53 : mj_dec prog_14_method_20_code 53 = some (.aload_n 0, 1) := by decide +kernel
theorem dm_X12_levelsOf_54 : mj_dec prog_14_method_20_code 54 = some (.iload_n 1, 1) := by decide +kernel
theorem dm_X12_levelsOf_55 : mj_dec prog_14_method_20_code 55 = some (.iload_n 3, 1) := by decide +kernel
theorem dm_X12_levelsOf_56 : mj_dec prog_14_method_20_code 56 = some (.invokevirtual 153, 3) := by decide +kernel
theorem dm_X12_levelsOf_59 : mj_dec prog_14_method_20_code 59 = some (.invokevirtual 168, 3) := by decide +kernel
theorem dm_X12_levelsOf_62 : mj_dec prog_14_method_20_code 62 = some (.invokestatic 171, 3) := by decide +kernel
theorem dm_X12_levelsOf_65 : mj_dec prog_14_method_20_code 65 = some (.istore_n 2, 1) := by decide +kernel
theorem dm_X12_levelsOf_66 : mj_dec prog_14_method_20_code 66 = some (.iinc 3 1, 3) := by decide +kernel
theorem dm_X12_levelsOf_69 : mj_dec prog_14_method_20_code 69 = some (.goto (-27), 3) := by decide +kernel
theorem dm_X12_levelsOf_72 : mj_dec prog_14_method_20_code 72 = some (.iload_n 2, 1) := by decide +kernel
theorem dm_X12_levelsOf_73 : mj_dec prog_14_method_20_code 73 = some (.iconst 1, 1) := by decide +kernel
theorem dm_X12_levelsOf_74 : mj_dec prog_14_method_20_code 74 = some (.iadd, 1) := by decide +kernel
theorem dm_X12_levelsOf_75 : mj_dec prog_14_method_20_code 75 = some (.ireturn, 1) := by decide +kernel
theorem r_levelsOf_ {xt : mj_X} {pre post : mj_H} {s : RS} (hm : pre.length = 102) (hB : rB s) : ∀ (e : Nat) {d hd : Nat} {v : VV}, e ≤ 100 → 3 * e + 3 ≤ d → rv s e hd v → pgP xt d 251 [.ref 102, ii (hd : Int)] (rS pre post s) (ii (vlv e v : Int)) := by
  intro e
  induction e with
  | zero => intro d hd v he hd1 hv; exact hv.elim
  | succ e ih =>
    intro d hd v he hd1 hv
    have hB0 := hB
    obtain ⟨hB1, hB2, hB3, hB4⟩ := hB
    obtain ⟨fr, hfr, hsh, hlt, hcl, hvk, hvm, hvc, hvq, hvcl⟩ := rv_val hv
    refine x_enter pm_X12_levelsOf (L0 := [(0, .ref 102), (1, ii (hd : Int))]) rfl (Nat.le_of_ble_eq_true rfl) (by omega) ?_
    refine me1 (pc' := 1) (L' := [(0, .ref 102), (1, ii (hd : Int))]) (S' := [.ref 102]) dm_X12_levelsOf_0 rfl rfl rfl rfl ?_
    refine me1 (pc' := 2) (L' := [(0, .ref 102), (1, ii (hd : Int))]) (S' := [ii (hd : Int), .ref 102]) dm_X12_levelsOf_1 rfl rfl rfl rfl ?_
    refine x_cp (pc' := 5) (v := ii (vk v : Int)) (rest := []) dm_X12_levelsOf_2 rfl (q_inv (As := [ii (hd : Int)]) (S := []) hm rfl rfl rfl) rfl rfl rfl (r_kindOf_ hm (by omega) hB0 hv) ?_
    refine me0 (pc' := 7) (S' := [ii 7, ii (vk v : Int)]) dm_X12_levelsOf_5 rfl rfl rfl rfl ?_
    refine y_2eq (a := (vk v : Int)) (b := 7) (t := 38) (pc' := 10) dm_X12_levelsOf_7 rfl rfl (by omega) (fun hb1 => ?_) (fun hb1 => ?_)
    · refine me0 (pc' := 39) (S' := [ii 0]) dm_X12_levelsOf_38 rfl rfl rfl rfl ?_
      refine me1 (pc' := 40) (L' := [(2, ii 0), (0, .ref 102), (1, ii (hd : Int))]) (S' := []) dm_X12_levelsOf_39 rfl rfl rfl rfl ?_
      refine me0 (pc' := 41) (S' := [ii 0]) dm_X12_levelsOf_40 rfl rfl rfl rfl ?_
      refine me1 (pc' := 42) (L' := [(3, ii 0), (2, ii 0), (0, .ref 102), (1, ii (hd : Int))]) (S' := []) dm_X12_levelsOf_41 rfl rfl rfl rfl ?_
      have lp42 : ∀ (n42 : Nat) (k : Nat) (n : Nat), vm v - k = n42 → (k ≤ vm v) → (n = maxN k (fun k => vlv e (vd v k))) → pgE xt (d - 1) 12 4 false (Option.some Jvm.ClassFile.FieldType.int) (mj_dec prog_14_method_20_code) 42 [(0, .ref 102), (1, ii (hd : Int)), (2, ii ((n : Nat) : Int)), (3, ii (k : Int))] [] (rI pre post s.1 s.2.1 s.2.2.1 s.2.2.2) (fun r h' => r = some (ii (vlv (e + 1) v : Int)) ∧ h' = rS pre post s) := by
        intro n42
        induction n42 using Nat.strongRecOn with
        | ind n42 ih42 =>
          intro k n hm42 hk hn
          have hlm := maxN_le (n := k) (f := fun k => vlv e (vd v k)) (b := e + 1) (fun j _ => vlv_le e _)
          have hlk := vlv_le e (vd v k)
          refine me1 (pc' := 43) (L' := [(0, .ref 102), (1, ii (hd : Int)), (2, ii ((n : Nat) : Int)), (3, ii (k : Int))]) (S' := [ii (k : Int)]) dm_X12_levelsOf_42 rfl rfl rfl rfl ?_
          refine me1 (pc' := 44) (L' := [(0, .ref 102), (1, ii (hd : Int)), (2, ii ((n : Nat) : Int)), (3, ii (k : Int))]) (S' := [.ref 102, ii (k : Int)]) dm_X12_levelsOf_43 rfl rfl rfl rfl ?_
          refine me1 (pc' := 45) (L' := [(0, .ref 102), (1, ii (hd : Int)), (2, ii ((n : Nat) : Int)), (3, ii (k : Int))]) (S' := [ii (hd : Int), .ref 102, ii (k : Int)]) dm_X12_levelsOf_44 rfl rfl rfl rfl ?_
          refine x_cp (pc' := 48) (v := ii (vm v : Int)) (rest := [ii (k : Int)]) dm_X12_levelsOf_45 rfl (q_inv (As := [ii (hd : Int)]) (S := [ii (k : Int)]) hm rfl rfl rfl) rfl rfl rfl (r_many_ hm (by omega) hB0 hv) ?_
          refine y_2ge (a := (k : Int)) (b := (vm v : Int)) (t := 72) (pc' := 51) dm_X12_levelsOf_48 rfl rfl (by omega) (fun hb2 => ?_) (fun hb2 => ?_)
          · refine me1 (pc' := 73) (L' := [(0, .ref 102), (1, ii (hd : Int)), (2, ii ((n : Nat) : Int)), (3, ii (k : Int))]) (S' := [ii ((n : Nat) : Int)]) dm_X12_levelsOf_72 rfl rfl rfl rfl ?_
            refine me0 (pc' := 74) (S' := [ii 1, ii ((n : Nat) : Int)]) dm_X12_levelsOf_73 rfl rfl rfl rfl ?_
            refine y_iadd (a := ((n : Nat) : Int)) (b := 1) dm_X12_levelsOf_74 (pc' := 75) rfl ?_
            refine y_ret (r := some (ii (((n : Nat) : Int) + 1))) dm_X12_levelsOf_75 rfl rfl rfl ?_
            refine ⟨congrArg some (n_ii ?_), rfl⟩
            show _ = ((if vk v ≤ 1 then 0 else if vk v = 6 then 2 else if vk v = 7 then 1 + maxN (vm v) (fun k => vlv e (vd v k)) else 1 : Nat) : Int)
            rw [if_neg (by omega), if_neg (by omega), if_pos (by omega)]
            have hkm : k = vm v := by omega
            rw [hn, hkm]; omega
          · refine me1 (pc' := 52) (L' := [(0, .ref 102), (1, ii (hd : Int)), (2, ii ((n : Nat) : Int)), (3, ii (k : Int))]) (S' := [ii ((n : Nat) : Int)]) dm_X12_levelsOf_51 rfl rfl rfl rfl ?_
            refine me1 (pc' := 53) (L' := [(0, .ref 102), (1, ii (hd : Int)), (2, ii ((n : Nat) : Int)), (3, ii (k : Int))]) (S' := [.ref 102, ii ((n : Nat) : Int)]) dm_X12_levelsOf_52 rfl rfl rfl rfl ?_
            refine me1 (pc' := 54) (L' := [(0, .ref 102), (1, ii (hd : Int)), (2, ii ((n : Nat) : Int)), (3, ii (k : Int))]) (S' := [.ref 102, .ref 102, ii ((n : Nat) : Int)]) dm_X12_levelsOf_53 rfl rfl rfl rfl ?_
            refine me1 (pc' := 55) (L' := [(0, .ref 102), (1, ii (hd : Int)), (2, ii ((n : Nat) : Int)), (3, ii (k : Int))]) (S' := [ii (hd : Int), .ref 102, .ref 102, ii ((n : Nat) : Int)]) dm_X12_levelsOf_54 rfl rfl rfl rfl ?_
            refine me1 (pc' := 56) (L' := [(0, .ref 102), (1, ii (hd : Int)), (2, ii ((n : Nat) : Int)), (3, ii (k : Int))]) (S' := [ii (k : Int), ii (hd : Int), .ref 102, .ref 102, ii ((n : Nat) : Int)]) dm_X12_levelsOf_55 rfl rfl rfl rfl ?_
            obtain ⟨q, hq3, hqlt, hqv, hcq⟩ := r_value_ (xt := xt) (d := d - 1) (pre := pre) (post := post) (k := k) hm (by omega) hB0 hv (by omega) (by omega)
            refine x_cp (pc' := 59) (v := ii (q : Int)) (rest := [.ref 102, ii ((n : Nat) : Int)]) dm_X12_levelsOf_56 rfl (q_inv (As := [ii (hd : Int), ii (k : Int)]) (S := [.ref 102, ii ((n : Nat) : Int)]) hm rfl rfl rfl) rfl rfl rfl (hcq) ?_
            refine x_cp (pc' := 62) (v := ii (vlv e (vd v k) : Int)) (rest := [ii ((n : Nat) : Int)]) dm_X12_levelsOf_59 rfl (q_inv (As := [ii (q : Int)]) (S := [ii ((n : Nat) : Int)]) hm rfl rfl rfl) rfl rfl rfl (ih (by omega) (by omega) hqv) ?_
            refine x_cp (pc' := 65) (v := ii ((max n (vlv e (vd v k)) : Nat) : Int)) (rest := []) dm_X12_levelsOf_62 rfl (g_invs (As := [ii ((n : Nat) : Int), ii (vlv e (vd v k) : Int)]) (S := []) rfl rfl rfl) rfl rfl rfl (r_larger_ (a := n) (b := vlv e (vd v k)) (by omega) (by omega) (by omega)) ?_
            refine me1 (pc' := 66) (L' := [(2, ii ((max n (vlv e (vd v k)) : Nat) : Int)), (0, .ref 102), (1, ii (hd : Int)), (3, ii (k : Int))]) (S' := []) dm_X12_levelsOf_65 rfl rfl rfl rfl ?_
            refine y_iinc (pc' := 69) (L' := [(3, ii ((k : Int) + 1)), (2, ii ((max n (vlv e (vd v k)) : Nat) : Int)), (0, .ref 102), (1, ii (hd : Int))]) dm_X12_levelsOf_66 (y_incp (a := (k : Int)) (c := 1) rfl rfl (by decide)) rfl ?_
            refine me2 (pc' := 42) (S' := []) dm_X12_levelsOf_69 rfl rfl rfl ?_
            exact pg_sub (L := [(0, .ref 102), (1, ii (hd : Int)), (2, ii (((max n (vlv e (vd v k))) : Nat) : Int)), (3, ii ((k + 1) : Int))]) rfl rfl rfl (ih42 (vm v - (k + 1)) (by omega) (k + 1) (max n (vlv e (vd v k))) rfl (by omega) (by show max n (vlv e (vd v k)) = max (maxN k (fun k => vlv e (vd v k))) (vlv e (vd v k)); omega))
      exact pg_sub (L := [(0, .ref 102), (1, ii (hd : Int)), (2, ii ((0 : Nat) : Int)), (3, ii (0 : Int))]) rfl rfl rfl (lp42 _ 0 0 rfl (by omega) rfl)
    · refine me1 (pc' := 11) (L' := [(0, .ref 102), (1, ii (hd : Int))]) (S' := [.ref 102]) dm_X12_levelsOf_10 rfl rfl rfl rfl ?_
      refine me1 (pc' := 12) (L' := [(0, .ref 102), (1, ii (hd : Int))]) (S' := [ii (hd : Int), .ref 102]) dm_X12_levelsOf_11 rfl rfl rfl rfl ?_
      refine x_cp (pc' := 15) (v := zz (decide (vk v ≤ 1))) (rest := []) dm_X12_levelsOf_12 rfl (q_inv (As := [ii (hd : Int)]) (S := []) hm rfl rfl rfl) rfl rfl rfl (r_isOne_ hm (by omega) hB0 hv) ?_
      refine y_zeq (c := decide (vk v ≤ 1)) (t := 22) (pc' := 18) dm_X12_levelsOf_15 rfl rfl (fun hb3 => ?_) (fun hb3 => ?_)
      · replace hb3 := dF hb3
        refine me1 (pc' := 23) (L' := [(0, .ref 102), (1, ii (hd : Int))]) (S' := [.ref 102]) dm_X12_levelsOf_22 rfl rfl rfl rfl ?_
        refine me1 (pc' := 24) (L' := [(0, .ref 102), (1, ii (hd : Int))]) (S' := [ii (hd : Int), .ref 102]) dm_X12_levelsOf_23 rfl rfl rfl rfl ?_
        refine x_cp (pc' := 27) (v := ii (vk v : Int)) (rest := []) dm_X12_levelsOf_24 rfl (q_inv (As := [ii (hd : Int)]) (S := []) hm rfl rfl rfl) rfl rfl rfl (r_kindOf_ hm (by omega) hB0 hv) ?_
        refine me0 (pc' := 29) (S' := [ii 6, ii (vk v : Int)]) dm_X12_levelsOf_27 rfl rfl rfl rfl ?_
        refine y_2ne (a := (vk v : Int)) (b := 6) (t := 36) (pc' := 32) dm_X12_levelsOf_29 rfl rfl (by omega) (fun hb4 => ?_) (fun hb4 => ?_)
        · refine me0 (pc' := 37) (S' := [ii 1]) dm_X12_levelsOf_36 rfl rfl rfl rfl ?_
          refine y_ret (r := some (ii 1)) dm_X12_levelsOf_37 rfl rfl rfl ?_
          refine ⟨congrArg some (n_ii ?_), rfl⟩
          show _ = ((if vk v ≤ 1 then 0 else if vk v = 6 then 2 else if vk v = 7 then 1 + maxN (vm v) (fun k => vlv e (vd v k)) else 1 : Nat) : Int)
          rw [if_neg (by omega), if_neg (by omega), if_neg (by omega)]; rfl
        · refine me0 (pc' := 33) (S' := [ii 2]) dm_X12_levelsOf_32 rfl rfl rfl rfl ?_
          refine me2 (pc' := 37) (S' := [ii 2]) dm_X12_levelsOf_33 rfl rfl rfl ?_
          refine y_ret (r := some (ii 2)) dm_X12_levelsOf_37 rfl rfl rfl ?_
          refine ⟨congrArg some (n_ii ?_), rfl⟩
          show _ = ((if vk v ≤ 1 then 0 else if vk v = 6 then 2 else if vk v = 7 then 1 + maxN (vm v) (fun k => vlv e (vd v k)) else 1 : Nat) : Int)
          rw [if_neg (by omega), if_pos (by omega)]; rfl
      · replace hb3 := dT hb3
        refine me0 (pc' := 19) (S' := [ii 0]) dm_X12_levelsOf_18 rfl rfl rfl rfl ?_
        refine me2 (pc' := 37) (S' := [ii 0]) dm_X12_levelsOf_19 rfl rfl rfl ?_
        refine y_ret (r := some (ii 0)) dm_X12_levelsOf_37 rfl rfl rfl ?_
        refine ⟨congrArg some (n_ii ?_), rfl⟩
        show _ = ((if vk v ≤ 1 then 0 else if vk v = 6 then 2 else if vk v = 7 then 1 + maxN (vm v) (fun k => vlv e (vd v k)) else 1 : Nat) : Int)
        rw [if_pos (by omega)]; rfl
set_option maxRecDepth 20000 in
theorem pm_X12_isSame : mj_mmof pg_ms 256 = some ((⟨"ArrayCalculatorModel", "isSame", "(II)Z"⟩, prog_14_method_23_code, 7, (Option.some Jvm.ClassFile.FieldType.boolean)), 12, false, mj_dec prog_14_method_23_code) := rfl
theorem dm_X12_isSame_0 : mj_dec prog_14_method_23_code 0 = some (.aload_n 0, 1) := by decide +kernel
theorem dm_X12_isSame_1 : mj_dec prog_14_method_23_code 1 = some (.iload_n 1, 1) := by decide +kernel
theorem dm_X12_isSame_2 : mj_dec prog_14_method_23_code 2 = some (.invokevirtual 146, 3) := by decide +kernel
theorem dm_X12_isSame_5 : mj_dec prog_14_method_23_code 5 = some (.istore_n 3, 1) := by decide +kernel
theorem dm_X12_isSame_6 : mj_dec prog_14_method_23_code 6 = some (.iload_n 3, 1) := by decide +kernel
theorem dm_X12_isSame_7 : mj_dec prog_14_method_23_code 7 = some (.iconst 1, 1) := by decide +kernel
theorem dm_X12_isSame_8 : mj_dec prog_14_method_23_code 8 = some (.if_icmp .le 12, 3) := by decide +kernel
theorem dm_X12_isSame_11 : mj_dec prog_14_method_23_code 11 = some (.aload_n 0, 1) := by decide +kernel
theorem dm_X12_isSame_12 : mj_dec prog_14_method_23_code 12 = some (.iload_n 2, 1) := by decide +kernel
theorem dm_X12_isSame_13 : mj_dec prog_14_method_23_code 13 = some (.invokevirtual 146, 3) := by decide +kernel
theorem dm_X12_isSame_16 : mj_dec prog_14_method_23_code 16 = some (.iconst 1, 1) := by decide +kernel
theorem dm_X12_isSame_17 : mj_dec prog_14_method_23_code 17 = some (.if_icmp .gt 34, 3) := by decide +kernel
theorem dm_X12_isSame_20 : mj_dec prog_14_method_23_code 20 = some (.iload_n 3, 1) := by decide +kernel
theorem dm_X12_isSame_21 : mj_dec prog_14_method_23_code 21 = some (.aload_n 0, 1) := by decide +kernel
theorem dm_X12_isSame_22 : mj_dec prog_14_method_23_code 22 = some (.iload_n 2, 1) := by decide +kernel
theorem dm_X12_isSame_23 : mj_dec prog_14_method_23_code 23 = some (.invokevirtual 146, 3) := by decide +kernel
theorem dm_X12_isSame_26 : mj_dec prog_14_method_23_code 26 = some (.if_icmp .ne 23, 3) := by decide +kernel
theorem dm_X12_isSame_29 : mj_dec prog_14_method_23_code 29 = some (.aload_n 0, 1) := by decide +kernel
theorem dm_X12_isSame_30 : mj_dec prog_14_method_23_code 30 = some (.iload_n 1, 1) := by decide +kernel
theorem dm_X12_isSame_31 : mj_dec prog_14_method_23_code 31 = some (.iconst 0, 1) := by decide +kernel
theorem dm_X12_isSame_32 : mj_dec prog_14_method_23_code 32 = some (.invokevirtual 138, 3) := by decide +kernel
theorem dm_X12_isSame_35 : mj_dec prog_14_method_23_code 35 = some (.aload_n 0, 1) := by decide +kernel
theorem dm_X12_isSame_36 : mj_dec prog_14_method_23_code 36 = some (.iload_n 2, 1) := by decide +kernel
theorem dm_X12_isSame_37 : mj_dec prog_14_method_23_code 37 = some (.iconst 0, 1) := by decide +kernel
theorem dm_X12_isSame_38 : mj_dec prog_14_method_23_code 38 = some (.invokevirtual 138, 3) := by decide +kernel
theorem dm_X12_isSame_41 : mj_dec prog_14_method_23_code 41 = some (.lcmp, 1) := by decide +kernel
theorem dm_X12_isSame_42 : mj_dec prog_14_method_23_code 42 = some (.ifCond .ne 7, 3) := by decide +kernel
theorem dm_X12_isSame_45 : mj_dec prog_14_method_23_code 45 = some (.iconst 1, 1) := by decide +kernel
theorem dm_X12_isSame_46 : mj_dec prog_14_method_23_code 46 = some (.goto 4, 3) := by decide +kernel
theorem dm_X12_isSame_49 : mj_dec prog_14_method_23_code 49 = some (.iconst 0, 1) := by decide +kernel
theorem dm_X12_isSame_50 : mj_dec prog_14_method_23_code 50 = some (.ireturn, 1) := by decide +kernel
theorem dm_X12_isSame_51 : mj_dec prog_14_method_23_code 51 = some (.aload_n 0, 1) := by decide +kernel
theorem dm_X12_isSame_52 : mj_dec prog_14_method_23_code 52 = some (.iload_n 1, 1) := by decide +kernel
theorem dm_X12_isSame_53 : mj_dec prog_14_method_23_code 53 = some (.invokevirtual 174, 3) := by decide +kernel
theorem dm_X12_isSame_56 : mj_dec prog_14_method_23_code 56 = some (.ifCond .eq 14, 3) := by decide +kernel
theorem dm_X12_isSame_59 : mj_dec prog_14_method_23_code 59 = some (.aload_n 0, 1) := by decide +kernel
theorem dm_X12_isSame_60 : mj_dec prog_14_method_23_code 60 = some (.iload_n 2, 1) := by decide +kernel
theorem dm_X12_isSame_61 : mj_dec prog_14_method_23_code 61 = some (.invokevirtual 174, 3) := by decide +kernel
theorem dm_X12_isSame_64 : mj_dec prog_14_method_23_code 64 = some (.ifCond .ne 17, 3) := by decide +kernel
theorem dm_X12_isSame_67 : mj_dec prog_14_method_23_code 67 = some (.goto 12, 3) := by decide +kernel
theorem dm_X12_isSame_70 : mj_dec prog_14_method_23_code 70 = some (.iload_n 3, 1) := by decide +kernel
theorem dm_X12_isSame_71 : mj_dec prog_14_method_23_code 71 = some (.aload_n 0, 1) := by decide +kernel
theorem dm_X12_isSame_72 : mj_dec prog_14_method_23_code 72 = some (.iload_n 2, 1) := by decide +kernel
theorem dm_X12_isSame_73 : mj_dec prog_14_method_23_code 73 = some (.invokevirtual 146, 3) := by decide +kernel
theorem dm_X12_isSame_76 : mj_dec prog_14_method_23_code 76 = some (.if_icmp .eq 5, 3) := by decide +kernel
theorem dm_X12_isSame_79 : mj_dec prog_14_method_23_code 79 = some (.iconst 0, 1) := by decide +kernel
theorem dm_X12_isSame_80 : mj_dec prog_14_method_23_code 80 = some (.ireturn, 1) := by decide +kernel
theorem dm_X12_isSame_81 : mj_dec prog_14_method_23_code 81 = some (.aload_n 0, 1) := by decide +kernel
theorem dm_X12_isSame_82 : mj_dec prog_14_method_23_code 82 = some (.iload_n 1, 1) := by decide +kernel
theorem dm_X12_isSame_83 : mj_dec prog_14_method_23_code 83 = some (.invokevirtual 134, 3) := by decide +kernel
theorem dm_X12_isSame_86 : mj_dec prog_14_method_23_code 86 = some (.aload_n 0, 1) := by decide +kernel
theorem dm_X12_isSame_87 : mj_dec prog_14_method_23_code 87 = some (.iload_n 2, 1) := by decide +kernel
theorem dm_X12_isSame_88 : mj_dec prog_14_method_23_code 88 = some (.invokevirtual 134, 3) := by decide +kernel
theorem dm_X12_isSame_91 : mj_dec prog_14_method_23_code 91 = some (.if_icmp .ne 16, 3) := by decide +kernel
theorem dm_X12_isSame_94 : mj_dec prog_14_method_23_code 94 = some (.aload_n 0, 1) := by decide +kernel
theorem dm_X12_isSame_95 : mj_dec prog_14_method_23_code 95 = some (.iload_n 1, 1) := by decide +kernel
theorem dm_X12_isSame_96 : mj_dec prog_14_method_23_code 96 = some (.invokevirtual 156, 3) := by decide +kernel
theorem dm_X12_isSame_99 : mj_dec prog_14_method_23_code 99 = some (.aload_n 0, 1) := by decide +kernel
theorem dm_X12_isSame_100 : mj_dec prog_14_method_23_code 100 = some (.iload_n 2, 1) := by decide +kernel
theorem dm_X12_isSame_101 : mj_dec prog_14_method_23_code 101 = some (.invokevirtual 156, 3) := by decide +kernel
theorem dm_X12_isSame_104 : mj_dec prog_14_method_23_code 104 = some (.if_icmp .eq 5, 3) := by decide +kernel
theorem dm_X12_isSame_107 : mj_dec prog_14_method_23_code 107 = some (.iconst 0, 1) := by decide +kernel
theorem dm_X12_isSame_108 : mj_dec prog_14_method_23_code 108 = some (.ireturn, 1) := by decide +kernel
theorem dm_X12_isSame_109 : mj_dec prog_14_method_23_code 109 = some (.iload_n 3, 1) := by decide +kernel
theorem dm_X12_isSame_110 : mj_dec prog_14_method_23_code 110 = some (.bipush 6, 2) := by decide +kernel
theorem dm_X12_isSame_112 : mj_dec prog_14_method_23_code 112 = some (.if_icmp .ne 17, 3) := by decide +kernel
theorem dm_X12_isSame_115 : mj_dec prog_14_method_23_code 115 = some (.aload_n 0, 1) := by decide +kernel
theorem dm_X12_isSame_116 : mj_dec prog_14_method_23_code 116 = some (.iload_n 1, 1) := by decide +kernel
theorem dm_X12_isSame_117 : mj_dec prog_14_method_23_code 117 = some (.invokevirtual 134, 3) := by decide +kernel
theorem dm_X12_isSame_120 : mj_dec prog_14_method_23_code 120 = some (.aload_n 0, 1) := by decide +kernel
theorem dm_X12_isSame_121 : mj_dec prog_14_method_23_code 121 = some (.iload_n 1, 1) := by decide +kernel
theorem dm_X12_isSame_122 : mj_dec prog_14_method_23_code 122 = some (.invokevirtual 156, 3) := by decide +kernel
theorem dm_X12_isSame_125 : mj_dec prog_14_method_23_code 125 = some (.imul, 1) := by decide +kernel
theorem dm_X12_isSame_126 : mj_dec prog_14_method_23_code 126 = some (.goto 8, 3) := by decide +kernel
theorem dm_X12_isSame_129 : mj_dec prog_14_method_23_code 129 = some (.aload_n 0, 1) := by decide +kernel
theorem dm_X12_isSame_130 : mj_dec prog_14_method_23_code 130 = some (.iload_n 1, 1) := by decide +kernel
theorem dm_X12_isSame_131 : mj_dec prog_14_method_23_code 131 = some (.invokevirtual 134, 3) := by decide +kernel
theorem dm_X12_isSame_134 : mj_dec prog_14_method_23_code 134 = some (.istore 4, 2) := by decide +kernel
theorem dm_X12_isSame_136 : mj_dec prog_14_method_23_code 136 = some (.iconst 1, 1) := by decide +kernel
theorem dm_X12_isSame_137 : mj_dec prog_14_method_23_code 137 = some (.istore 5, 2) := by decide +kernel
theorem dm_X12_isSame_139 : mj_dec prog_14_method_23_code 139 = some (.iconst 0, 1) := by decide +kernel
theorem dm_X12_isSame_140 : mj_dec prog_14_method_23_code 140 = some (.istore 6, 2) := by decide +kernel
theorem dm_X12_isSame_142 : mj_dec prog_14_method_23_code 142 = some (.iload 6, 2) := by decide +kernel
theorem dm_X12_isSame_144 : mj_dec prog_14_method_23_code 144 = some (.iload 4, 2) := by decide +kernel
theorem dm_X12_isSame_146 : mj_dec prog_14_method_23_code 146 = some (.if_icmp .ge 66, 3) := by decide +kernel
theorem dm_X12_isSame_149 : mj_dec prog_14_method_23_code 149 = some (.iload 5, 2) := by decide +kernel
theorem dm_X12_isSame_151 : mj_dec prog_14_method_23_code 151 = some (.ifCond .eq 61, 3) := by decide +kernel
theorem dm_X12_isSame_154 : mj_dec prog_14_method_23_code 154 = some (.iload_n 3, 1) := by decide +kernel
theorem dm_X12_isSame_155 : mj_dec prog_14_method_23_code 155 = some (.bipush 7, 2) := by decide +kernel
theorem dm_X12_isSame_157 : mj_dec prog_14_method_23_code 157 = some (.if_icmp .ne 24, 3) := by decide +kernel
theorem dm_X12_isSame_160 : mj_dec prog_14_method_23_code 160 = some (.aload_n 0, 1) := by decide +kernel
theorem dm_X12_isSame_161 : mj_dec prog_14_method_23_code 161 = some (.aload_n 0, 1) := by decide +kernel
theorem dm_X12_isSame_162 : mj_dec prog_14_method_23_code 162 = some (.iload_n 1, 1) := by decide +kernel
theorem dm_X12_isSame_163 : mj_dec prog_14_method_23_code 163 = some (.iload 6, 2) := by decide +kernel
theorem dm_X12_isSame_165 : mj_dec prog_14_method_23_code 165 = some (.invokevirtual 153, 3) := by decide +kernel
theorem dm_X12_isSame_168 : mj_dec prog_14_method_23_code 168 = some (.aload_n 0, 1) := by decide +kernel
theorem dm_X12_isSame_169 : mj_dec prog_14_method_23_code 169 = some (.iload_n 2, 1) := by decide +kernel
theorem dm_X12_isSame_170 : mj_dec prog_14_method_23_code 170 = some (.iload 6, 2) := by decide +kernel
theorem dm_X12_isSame_172 : mj_dec prog_14_method_23_code 172 = some (.invokevirtual 153, 3) := by decide +kernel
theorem dm_X12_isSame_175 : mj_dec prog_14_method_23_code 175 = some (.invokevirtual 177, 3) := by decide +kernel
theorem dm_X12_isSame_178 : mj_dec prog_14_method_23_code 178 = some (.goto 26, 3) := by decide +kernel
theorem dm_X12_isSame_181 : mj_dec prog_14_method_23_code 181 = some (.aload_n 0, 1) := by decide +kernel
theorem dm_X12_isSame_182 : mj_dec prog_14_method_23_code 182 = some (.iload_n 1, 1) := by decide +kernel
theorem dm_X12_isSame_183 : mj_dec prog_14_method_23_code 183 = some (.iload 6, 2) := by decide +kernel
theorem dm_X12_isSame_185 : mj_dec prog_14_method_23_code 185 = some (.invokevirtual 138, 3) := by decide +kernel
theorem dm_X12_isSame_188 : mj_dec prog_14_method_23_code 188 = some (.aload_n 0, 1) := by decide +kernel
theorem dm_X12_isSame_189 : mj_dec prog_14_method_23_code 189 = some (.iload_n 2, 1) := by decide +kernel
theorem dm_X12_isSame_190 : mj_dec prog_14_method_23_code 190 = some (.iload 6, 2) := by decide +kernel
theorem dm_X12_isSame_192 : mj_dec prog_14_method_23_code 192 = some (.invokevirtual 138, 3) := by decide +kernel
theorem dm_X12_isSame_195 : mj_dec prog_14_method_23_code 195 = some (.lcmp, 1) := by decide +kernel
theorem dm_X12_isSame_196 : mj_dec prog_14_method_23_code 196 = some (.ifCond .ne 7, 3) := by decide +kernel
theorem dm_X12_isSame_199 : mj_dec prog_14_method_23_code 199 = some (.iconst 1, 1) := by decide +kernel
theorem dm_X12_isSame_200 : mj_dec prog_14_method_23_code 200 = some (.goto 4, 3) := by decide +kernel
theorem dm_X12_isSame_203 : mj_dec prog_14_method_23_code 203 = some (.iconst 0, 1) := by decide +kernel
theorem dm_X12_isSame_204 : mj_dec prog_14_method_23_code 204 = some (.istore 5, 2) := by decide +kernel
theorem dm_X12_isSame_206 : mj_dec prog_14_method_23_code 206 = some (.iinc 6 1, 3) := by decide +kernel
theorem dm_X12_isSame_209 : mj_dec prog_14_method_23_code 209 = some (.goto (-67), 3) := by decide +kernel
theorem dm_X12_isSame_212 : mj_dec prog_14_method_23_code 212 = some (.iload 5, 2) := by decide +kernel
theorem dm_X12_isSame_214 : mj_dec prog_14_method_23_code 214 = some (.ireturn, 1) := by decide +kernel
theorem r_isSame_ {xt : mj_X} {pre post : mj_H} {s : RS} (hm : pre.length = 102) (hB : rB s) : ∀ (e : Nat) {d hd hd2 : Nat} {v w : VV}, 3 * e + 5 ≤ d → rv s e hd v → rv s e hd2 w → pgP xt d 256 [.ref 102, ii (hd : Int), ii (hd2 : Int)] (rS pre post s) (zz (vsame e v w)) := by
  intro e
  induction e with
  | zero => intro d hd hd2 v w hd1 hv; exact hv.elim
  | succ e ih =>
    intro d hd hd2 v w hd1 hv hw
    have hB0 := hB
    obtain ⟨hB1, hB2, hB3, hB4⟩ := hB
    obtain ⟨fr, hfr, hsh, hlt, hcl, hvk, hvm, hvc, hvq, hvcl⟩ := rv_val hv
    obtain ⟨fr2, hfr2, hsh2, hlt2, hcl2, hwk, hwm, hwc, hwq, hwcl⟩ := rv_val hw
    have hq1v : vk v ≤ 1 → vq v = 1 := vq_1 hv.1
    have hq1w : vk w ≤ 1 → vq w = 1 := vq_1 hw.1
    have hvqc : vk v = 7 ∨ vcl v = vq v := by by_cases z : vk v = 7; exact Or.inl z; exact Or.inr (by unfold vcl; rw [if_neg z])
    have hvmc : vk v ≠ 7 ∨ vcl v = vm v := by by_cases z : vk v = 7; exact Or.inr (by unfold vcl; rw [if_pos z]); exact Or.inl z
    refine x_enter pm_X12_isSame (L0 := [(0, .ref 102), (1, ii (hd : Int)), (2, ii (hd2 : Int))]) rfl (Nat.le_of_ble_eq_true rfl) (by omega) ?_
    refine me1 (pc' := 1) (L' := [(0, .ref 102), (1, ii (hd : Int)), (2, ii (hd2 : Int))]) (S' := [.ref 102]) dm_X12_isSame_0 rfl rfl rfl rfl ?_
    refine me1 (pc' := 2) (L' := [(0, .ref 102), (1, ii (hd : Int)), (2, ii (hd2 : Int))]) (S' := [ii (hd : Int), .ref 102]) dm_X12_isSame_1 rfl rfl rfl rfl ?_
    refine x_cp (pc' := 5) (v := ii (vk v : Int)) (rest := []) dm_X12_isSame_2 rfl (q_inv (As := [ii (hd : Int)]) (S := []) hm rfl rfl rfl) rfl rfl rfl (r_kindOf_ hm (by omega) hB0 hv) ?_
    refine me1 (pc' := 6) (L' := [(3, ii (vk v : Int)), (0, .ref 102), (1, ii (hd : Int)), (2, ii (hd2 : Int))]) (S' := []) dm_X12_isSame_5 rfl rfl rfl rfl ?_
    refine me1 (pc' := 7) (L' := [(3, ii (vk v : Int)), (0, .ref 102), (1, ii (hd : Int)), (2, ii (hd2 : Int))]) (S' := [ii (vk v : Int)]) dm_X12_isSame_6 rfl rfl rfl rfl ?_
    refine me0 (pc' := 8) (S' := [ii 1, ii (vk v : Int)]) dm_X12_isSame_7 rfl rfl rfl rfl ?_
    refine y_2le (a := (vk v : Int)) (b := 1) (t := 20) (pc' := 11) dm_X12_isSame_8 rfl rfl (by omega) (fun hb1 => ?_) (fun hb1 => ?_)
    · refine me1 (pc' := 21) (L' := [(3, ii (vk v : Int)), (0, .ref 102), (1, ii (hd : Int)), (2, ii (hd2 : Int))]) (S' := [ii (vk v : Int)]) dm_X12_isSame_20 rfl rfl rfl rfl ?_
      refine me1 (pc' := 22) (L' := [(3, ii (vk v : Int)), (0, .ref 102), (1, ii (hd : Int)), (2, ii (hd2 : Int))]) (S' := [.ref 102, ii (vk v : Int)]) dm_X12_isSame_21 rfl rfl rfl rfl ?_
      refine me1 (pc' := 23) (L' := [(3, ii (vk v : Int)), (0, .ref 102), (1, ii (hd : Int)), (2, ii (hd2 : Int))]) (S' := [ii (hd2 : Int), .ref 102, ii (vk v : Int)]) dm_X12_isSame_22 rfl rfl rfl rfl ?_
      refine x_cp (pc' := 26) (v := ii (vk w : Int)) (rest := [ii (vk v : Int)]) dm_X12_isSame_23 rfl (q_inv (As := [ii (hd2 : Int)]) (S := [ii (vk v : Int)]) hm rfl rfl rfl) rfl rfl rfl (r_kindOf_ hm (by omega) hB0 hw) ?_
      refine y_2ne (a := (vk v : Int)) (b := (vk w : Int)) (t := 49) (pc' := 29) dm_X12_isSame_26 rfl rfl (by omega) (fun hb2 => ?_) (fun hb2 => ?_)
      · refine me0 (pc' := 50) (S' := [ii 0]) dm_X12_isSame_49 rfl rfl rfl rfl ?_
        refine y_ret (r := some (ii 0)) dm_X12_isSame_50 rfl rfl rfl ?_
        refine ⟨congrArg some ?_, rfl⟩
        first | (rw [vsame_1 (by omega), decide_eq_false (show ¬ vk v = vk w by omega)]; rfl) | (rw [vsame_1 (by omega), decide_eq_false (show ¬ vn v 0 = vn w 0 by assumption), Bool.and_false]; rfl)
      · refine me1 (pc' := 30) (L' := [(3, ii (vk v : Int)), (0, .ref 102), (1, ii (hd : Int)), (2, ii (hd2 : Int))]) (S' := [.ref 102]) dm_X12_isSame_29 rfl rfl rfl rfl ?_
        refine me1 (pc' := 31) (L' := [(3, ii (vk v : Int)), (0, .ref 102), (1, ii (hd : Int)), (2, ii (hd2 : Int))]) (S' := [ii (hd : Int), .ref 102]) dm_X12_isSame_30 rfl rfl rfl rfl ?_
        refine me0 (pc' := 32) (S' := [ii 0, ii (hd : Int), .ref 102]) dm_X12_isSame_31 rfl rfl rfl rfl ?_
        refine x_cp (pc' := 35) (v := .long (vn v 0)) (rest := []) dm_X12_isSame_32 rfl (q_inv (As := [ii (hd : Int), ii 0]) (S := []) hm rfl rfl rfl) rfl rfl rfl (r_number_ (k := 0) hm (by omega) hB0 hv (by omega) (by omega)) ?_
        refine me1 (pc' := 36) (L' := [(3, ii (vk v : Int)), (0, .ref 102), (1, ii (hd : Int)), (2, ii (hd2 : Int))]) (S' := [.ref 102, .long (vn v 0)]) dm_X12_isSame_35 rfl rfl rfl rfl ?_
        refine me1 (pc' := 37) (L' := [(3, ii (vk v : Int)), (0, .ref 102), (1, ii (hd : Int)), (2, ii (hd2 : Int))]) (S' := [ii (hd2 : Int), .ref 102, .long (vn v 0)]) dm_X12_isSame_36 rfl rfl rfl rfl ?_
        refine me0 (pc' := 38) (S' := [ii 0, ii (hd2 : Int), .ref 102, .long (vn v 0)]) dm_X12_isSame_37 rfl rfl rfl rfl ?_
        refine x_cp (pc' := 41) (v := .long (vn w 0)) (rest := [.long (vn v 0)]) dm_X12_isSame_38 rfl (q_inv (As := [ii (hd2 : Int), ii 0]) (S := [.long (vn v 0)]) hm rfl rfl rfl) rfl rfl rfl (r_number_ (k := 0) hm (by omega) hB0 hw (by omega) (by omega)) ?_
        refine y_lne (x := vn v 0) (y := vn w 0) (t := 49) (pc1 := 42) (pc' := 45) dm_X12_isSame_41 rfl dm_X12_isSame_42 rfl rfl (fun hb3 => ?_) (fun hb3 => ?_)
        · refine me0 (pc' := 50) (S' := [ii 0]) dm_X12_isSame_49 rfl rfl rfl rfl ?_
          refine y_ret (r := some (ii 0)) dm_X12_isSame_50 rfl rfl rfl ?_
          refine ⟨congrArg some ?_, rfl⟩
          first | (rw [vsame_1 (by omega), decide_eq_false (show ¬ vk v = vk w by omega)]; rfl) | (rw [vsame_1 (by omega), decide_eq_false (show ¬ vn v 0 = vn w 0 by assumption), Bool.and_false]; rfl)
        · refine me0 (pc' := 46) (S' := [ii 1]) dm_X12_isSame_45 rfl rfl rfl rfl ?_
          refine me2 (pc' := 50) (S' := [ii 1]) dm_X12_isSame_46 rfl rfl rfl ?_
          refine y_ret (r := some (ii 1)) dm_X12_isSame_50 rfl rfl rfl ?_
          refine ⟨congrArg some ?_, rfl⟩
          rw [vsame_1 (by omega), decide_eq_true (show vk v = vk w by omega), decide_eq_true (by assumption)]; rfl
    · refine me1 (pc' := 12) (L' := [(3, ii (vk v : Int)), (0, .ref 102), (1, ii (hd : Int)), (2, ii (hd2 : Int))]) (S' := [.ref 102]) dm_X12_isSame_11 rfl rfl rfl rfl ?_
      refine me1 (pc' := 13) (L' := [(3, ii (vk v : Int)), (0, .ref 102), (1, ii (hd : Int)), (2, ii (hd2 : Int))]) (S' := [ii (hd2 : Int), .ref 102]) dm_X12_isSame_12 rfl rfl rfl rfl ?_
      refine x_cp (pc' := 16) (v := ii (vk w : Int)) (rest := []) dm_X12_isSame_13 rfl (q_inv (As := [ii (hd2 : Int)]) (S := []) hm rfl rfl rfl) rfl rfl rfl (r_kindOf_ hm (by omega) hB0 hw) ?_
      refine me0 (pc' := 17) (S' := [ii 1, ii (vk w : Int)]) dm_X12_isSame_16 rfl rfl rfl rfl ?_
      refine y_2gt (a := (vk w : Int)) (b := 1) (t := 51) (pc' := 20) dm_X12_isSame_17 rfl rfl (by omega) (fun hb4 => ?_) (fun hb4 => ?_)
      · refine me1 (pc' := 52) (L' := [(3, ii (vk v : Int)), (0, .ref 102), (1, ii (hd : Int)), (2, ii (hd2 : Int))]) (S' := [.ref 102]) dm_X12_isSame_51 rfl rfl rfl rfl ?_
        refine me1 (pc' := 53) (L' := [(3, ii (vk v : Int)), (0, .ref 102), (1, ii (hd : Int)), (2, ii (hd2 : Int))]) (S' := [ii (hd : Int), .ref 102]) dm_X12_isSame_52 rfl rfl rfl rfl ?_
        refine x_cp (pc' := 56) (v := zz (decide (vk v = 2 ∨ vk v = 4 ∨ vk v = 5))) (rest := []) dm_X12_isSame_53 rfl (q_inv (As := [ii (hd : Int)]) (S := []) hm rfl rfl rfl) rfl rfl rfl (r_isNumbers_ hm (by omega) hB0 hv) ?_
        refine y_zeq (c := decide (vk v = 2 ∨ vk v = 4 ∨ vk v = 5)) (t := 70) (pc' := 59) dm_X12_isSame_56 rfl rfl (fun hb5 => ?_) (fun hb5 => ?_)
        · replace hb5 := dF hb5
          refine me1 (pc' := 71) (L' := [(3, ii (vk v : Int)), (0, .ref 102), (1, ii (hd : Int)), (2, ii (hd2 : Int))]) (S' := [ii (vk v : Int)]) dm_X12_isSame_70 rfl rfl rfl rfl ?_
          refine me1 (pc' := 72) (L' := [(3, ii (vk v : Int)), (0, .ref 102), (1, ii (hd : Int)), (2, ii (hd2 : Int))]) (S' := [.ref 102, ii (vk v : Int)]) dm_X12_isSame_71 rfl rfl rfl rfl ?_
          refine me1 (pc' := 73) (L' := [(3, ii (vk v : Int)), (0, .ref 102), (1, ii (hd : Int)), (2, ii (hd2 : Int))]) (S' := [ii (hd2 : Int), .ref 102, ii (vk v : Int)]) dm_X12_isSame_72 rfl rfl rfl rfl ?_
          refine x_cp (pc' := 76) (v := ii (vk w : Int)) (rest := [ii (vk v : Int)]) dm_X12_isSame_73 rfl (q_inv (As := [ii (hd2 : Int)]) (S := [ii (vk v : Int)]) hm rfl rfl rfl) rfl rfl rfl (r_kindOf_ hm (by omega) hB0 hw) ?_
          refine y_2eq (a := (vk v : Int)) (b := (vk w : Int)) (t := 81) (pc' := 79) dm_X12_isSame_76 rfl rfl (by omega) (fun hb6 => ?_) (fun hb6 => ?_)
          · refine me1 (pc' := 82) (L' := [(3, ii (vk v : Int)), (0, .ref 102), (1, ii (hd : Int)), (2, ii (hd2 : Int))]) (S' := [.ref 102]) dm_X12_isSame_81 rfl rfl rfl rfl ?_
            refine me1 (pc' := 83) (L' := [(3, ii (vk v : Int)), (0, .ref 102), (1, ii (hd : Int)), (2, ii (hd2 : Int))]) (S' := [ii (hd : Int), .ref 102]) dm_X12_isSame_82 rfl rfl rfl rfl ?_
            refine x_cp (pc' := 86) (v := ii (vm v : Int)) (rest := []) dm_X12_isSame_83 rfl (q_inv (As := [ii (hd : Int)]) (S := []) hm rfl rfl rfl) rfl rfl rfl (r_many_ hm (by omega) hB0 hv) ?_
            refine me1 (pc' := 87) (L' := [(3, ii (vk v : Int)), (0, .ref 102), (1, ii (hd : Int)), (2, ii (hd2 : Int))]) (S' := [.ref 102, ii (vm v : Int)]) dm_X12_isSame_86 rfl rfl rfl rfl ?_
            refine me1 (pc' := 88) (L' := [(3, ii (vk v : Int)), (0, .ref 102), (1, ii (hd : Int)), (2, ii (hd2 : Int))]) (S' := [ii (hd2 : Int), .ref 102, ii (vm v : Int)]) dm_X12_isSame_87 rfl rfl rfl rfl ?_
            refine x_cp (pc' := 91) (v := ii (vm w : Int)) (rest := [ii (vm v : Int)]) dm_X12_isSame_88 rfl (q_inv (As := [ii (hd2 : Int)]) (S := [ii (vm v : Int)]) hm rfl rfl rfl) rfl rfl rfl (r_many_ hm (by omega) hB0 hw) ?_
            refine y_2ne (a := (vm v : Int)) (b := (vm w : Int)) (t := 107) (pc' := 94) dm_X12_isSame_91 rfl rfl (by omega) (fun hb7 => ?_) (fun hb7 => ?_)
            · refine me0 (pc' := 108) (S' := [ii 0]) dm_X12_isSame_107 rfl rfl rfl rfl ?_
              refine y_ret (r := some (ii 0)) dm_X12_isSame_108 rfl rfl rfl ?_
              refine ⟨congrArg some ?_, rfl⟩
              rw [vsame_no (by omega) (by omega) (by omega)]; rfl
            · refine me1 (pc' := 95) (L' := [(3, ii (vk v : Int)), (0, .ref 102), (1, ii (hd : Int)), (2, ii (hd2 : Int))]) (S' := [.ref 102]) dm_X12_isSame_94 rfl rfl rfl rfl ?_
              refine me1 (pc' := 96) (L' := [(3, ii (vk v : Int)), (0, .ref 102), (1, ii (hd : Int)), (2, ii (hd2 : Int))]) (S' := [ii (hd : Int), .ref 102]) dm_X12_isSame_95 rfl rfl rfl rfl ?_
              refine x_cp (pc' := 99) (v := ii (vc v : Int)) (rest := []) dm_X12_isSame_96 rfl (q_inv (As := [ii (hd : Int)]) (S := []) hm rfl rfl rfl) rfl rfl rfl (r_columns_ hm (by omega) hB0 hv) ?_
              refine me1 (pc' := 100) (L' := [(3, ii (vk v : Int)), (0, .ref 102), (1, ii (hd : Int)), (2, ii (hd2 : Int))]) (S' := [.ref 102, ii (vc v : Int)]) dm_X12_isSame_99 rfl rfl rfl rfl ?_
              refine me1 (pc' := 101) (L' := [(3, ii (vk v : Int)), (0, .ref 102), (1, ii (hd : Int)), (2, ii (hd2 : Int))]) (S' := [ii (hd2 : Int), .ref 102, ii (vc v : Int)]) dm_X12_isSame_100 rfl rfl rfl rfl ?_
              refine x_cp (pc' := 104) (v := ii (vc w : Int)) (rest := [ii (vc v : Int)]) dm_X12_isSame_101 rfl (q_inv (As := [ii (hd2 : Int)]) (S := [ii (vc v : Int)]) hm rfl rfl rfl) rfl rfl rfl (r_columns_ hm (by omega) hB0 hw) ?_
              refine y_2eq (a := (vc v : Int)) (b := (vc w : Int)) (t := 109) (pc' := 107) dm_X12_isSame_104 rfl rfl (by omega) (fun hb8 => ?_) (fun hb8 => ?_)
              · refine me1 (pc' := 110) (L' := [(3, ii (vk v : Int)), (0, .ref 102), (1, ii (hd : Int)), (2, ii (hd2 : Int))]) (S' := [ii (vk v : Int)]) dm_X12_isSame_109 rfl rfl rfl rfl ?_
                refine me0 (pc' := 112) (S' := [ii 6, ii (vk v : Int)]) dm_X12_isSame_110 rfl rfl rfl rfl ?_
                refine y_2ne (a := (vk v : Int)) (b := 6) (t := 129) (pc' := 115) dm_X12_isSame_112 rfl rfl (by omega) (fun hb9 => ?_) (fun hb9 => ?_)
                · refine me1 (pc' := 130) (L' := [(3, ii (vk v : Int)), (0, .ref 102), (1, ii (hd : Int)), (2, ii (hd2 : Int))]) (S' := [.ref 102]) dm_X12_isSame_129 rfl rfl rfl rfl ?_
                  refine me1 (pc' := 131) (L' := [(3, ii (vk v : Int)), (0, .ref 102), (1, ii (hd : Int)), (2, ii (hd2 : Int))]) (S' := [ii (hd : Int), .ref 102]) dm_X12_isSame_130 rfl rfl rfl rfl ?_
                  refine x_cp (pc' := 134) (v := ii (vm v : Int)) (rest := []) dm_X12_isSame_131 rfl (q_inv (As := [ii (hd : Int)]) (S := []) hm rfl rfl rfl) rfl rfl rfl (r_many_ hm (by omega) hB0 hv) ?_
                  refine pg_st (S' := [ii (vcl v : Int)]) (congrArg (fun z => [ii z]) (vcl_n (by omega))) ?_
                  refine me1 (pc' := 136) (L' := [(4, ii (vcl v : Int)), (3, ii (vk v : Int)), (0, .ref 102), (1, ii (hd : Int)), (2, ii (hd2 : Int))]) (S' := []) dm_X12_isSame_134 rfl rfl rfl rfl ?_
                  refine me0 (pc' := 137) (S' := [ii 1]) dm_X12_isSame_136 rfl rfl rfl rfl ?_
                  refine me1 (pc' := 139) (L' := [(5, ii 1), (4, ii (vcl v : Int)), (3, ii (vk v : Int)), (0, .ref 102), (1, ii (hd : Int)), (2, ii (hd2 : Int))]) (S' := []) dm_X12_isSame_137 rfl rfl rfl rfl ?_
                  refine me0 (pc' := 140) (S' := [ii 0]) dm_X12_isSame_139 rfl rfl rfl rfl ?_
                  refine me1 (pc' := 142) (L' := [(6, ii 0), (5, ii 1), (4, ii (vcl v : Int)), (3, ii (vk v : Int)), (0, .ref 102), (1, ii (hd : Int)), (2, ii (hd2 : Int))]) (S' := []) dm_X12_isSame_140 rfl rfl rfl rfl ?_
                  have hwq2 : vk v = 7 ∨ vq v = vq w := by by_cases z : vk v = 7; exact Or.inl z; exact Or.inr (vq_eq (by omega) (by omega) (by omega) (by omega) (by omega))
                  have lp142 : ∀ (n142 : Nat) (k : Nat) (b : Bool), vcl v - k = n142 → (k ≤ vcl v) → (b = allN k (vsF e v w)) → pgE xt (d - 1) 12 7 false (Option.some Jvm.ClassFile.FieldType.boolean) (mj_dec prog_14_method_23_code) 142 [(0, .ref 102), (1, ii (hd : Int)), (2, ii (hd2 : Int)), (3, ii (vk v : Int)), (4, ii (vcl v : Int)), (5, zz b), (6, ii (k : Int))] [] (rI pre post s.1 s.2.1 s.2.2.1 s.2.2.2) (fun r h' => r = some (zz (vsame (e + 1) v w)) ∧ h' = rS pre post s) := by
                    intro n142
                    induction n142 using Nat.strongRecOn with
                    | ind n142 ih142 =>
                      intro k b hm142 hk hbk
                      refine me1 (pc' := 144) (L' := [(0, .ref 102), (1, ii (hd : Int)), (2, ii (hd2 : Int)), (3, ii (vk v : Int)), (4, ii (vcl v : Int)), (5, zz b), (6, ii (k : Int))]) (S' := [ii (k : Int)]) dm_X12_isSame_142 rfl rfl rfl rfl ?_
                      refine me1 (pc' := 146) (L' := [(0, .ref 102), (1, ii (hd : Int)), (2, ii (hd2 : Int)), (3, ii (vk v : Int)), (4, ii (vcl v : Int)), (5, zz b), (6, ii (k : Int))]) (S' := [ii (vcl v : Int), ii (k : Int)]) dm_X12_isSame_144 rfl rfl rfl rfl ?_
                      refine y_2ge (a := (k : Int)) (b := (vcl v : Int)) (t := 212) (pc' := 149) dm_X12_isSame_146 rfl rfl (by omega) (fun hb10 => ?_) (fun hb10 => ?_)
                      · refine me1 (pc' := 214) (L' := [(0, .ref 102), (1, ii (hd : Int)), (2, ii (hd2 : Int)), (3, ii (vk v : Int)), (4, ii (vcl v : Int)), (5, zz b), (6, ii (k : Int))]) (S' := [zz b]) dm_X12_isSame_212 rfl rfl rfl rfl ?_
                        refine y_ret (r := some (zz b)) dm_X12_isSame_214 (y_retz _) rfl rfl ?_
                        refine ⟨congrArg some ?_, rfl⟩
                        rw [vsame_F (by omega) (by omega) (by omega) (by omega) (by omega)]
                        by_cases hkn : k = vcl v
                        · rw [hbk, hkn]
                        · have hbf : b = false := by first | assumption | omega
                          rw [hbf] at hbk ⊢
                          rw [allN_lf hk hbk.symm]
                      · refine me1 (pc' := 151) (L' := [(0, .ref 102), (1, ii (hd : Int)), (2, ii (hd2 : Int)), (3, ii (vk v : Int)), (4, ii (vcl v : Int)), (5, zz b), (6, ii (k : Int))]) (S' := [zz b]) dm_X12_isSame_149 rfl rfl rfl rfl ?_
                        refine y_zeq (c := b) (t := 212) (pc' := 154) dm_X12_isSame_151 rfl rfl (fun hb11 => ?_) (fun hb11 => ?_)
                        · refine me1 (pc' := 214) (L' := [(0, .ref 102), (1, ii (hd : Int)), (2, ii (hd2 : Int)), (3, ii (vk v : Int)), (4, ii (vcl v : Int)), (5, zz b), (6, ii (k : Int))]) (S' := [zz b]) dm_X12_isSame_212 rfl rfl rfl rfl ?_
                          refine y_ret (r := some (zz b)) dm_X12_isSame_214 (y_retz _) rfl rfl ?_
                          refine ⟨congrArg some ?_, rfl⟩
                          rw [vsame_F (by omega) (by omega) (by omega) (by omega) (by omega)]
                          by_cases hkn : k = vcl v
                          · rw [hbk, hkn]
                          · have hbf : b = false := by first | assumption | omega
                            rw [hbf] at hbk ⊢
                            rw [allN_lf hk hbk.symm]
                        · have hbt : b = true := hb11
                          refine me1 (pc' := 155) (L' := [(0, .ref 102), (1, ii (hd : Int)), (2, ii (hd2 : Int)), (3, ii (vk v : Int)), (4, ii (vcl v : Int)), (5, zz b), (6, ii (k : Int))]) (S' := [ii (vk v : Int)]) dm_X12_isSame_154 rfl rfl rfl rfl ?_
                          refine me0 (pc' := 157) (S' := [ii 7, ii (vk v : Int)]) dm_X12_isSame_155 rfl rfl rfl rfl ?_
                          refine y_2ne (a := (vk v : Int)) (b := 7) (t := 181) (pc' := 160) dm_X12_isSame_157 rfl rfl (by omega) (fun hb12 => ?_) (fun hb12 => ?_)
                          · refine me1 (pc' := 182) (L' := [(0, .ref 102), (1, ii (hd : Int)), (2, ii (hd2 : Int)), (3, ii (vk v : Int)), (4, ii (vcl v : Int)), (5, zz b), (6, ii (k : Int))]) (S' := [.ref 102]) dm_X12_isSame_181 rfl rfl rfl rfl ?_
                            refine me1 (pc' := 183) (L' := [(0, .ref 102), (1, ii (hd : Int)), (2, ii (hd2 : Int)), (3, ii (vk v : Int)), (4, ii (vcl v : Int)), (5, zz b), (6, ii (k : Int))]) (S' := [ii (hd : Int), .ref 102]) dm_X12_isSame_182 rfl rfl rfl rfl ?_
                            refine me1 (pc' := 185) (L' := [(0, .ref 102), (1, ii (hd : Int)), (2, ii (hd2 : Int)), (3, ii (vk v : Int)), (4, ii (vcl v : Int)), (5, zz b), (6, ii (k : Int))]) (S' := [ii (k : Int), ii (hd : Int), .ref 102]) dm_X12_isSame_183 rfl rfl rfl rfl ?_
                            refine x_cp (pc' := 188) (v := .long (vn v k)) (rest := []) dm_X12_isSame_185 rfl (q_inv (As := [ii (hd : Int), ii (k : Int)]) (S := []) hm rfl rfl rfl) rfl rfl rfl (r_number_ (k := k) hm (by omega) hB0 hv (by omega) (by omega)) ?_
                            refine me1 (pc' := 189) (L' := [(0, .ref 102), (1, ii (hd : Int)), (2, ii (hd2 : Int)), (3, ii (vk v : Int)), (4, ii (vcl v : Int)), (5, zz b), (6, ii (k : Int))]) (S' := [.ref 102, .long (vn v k)]) dm_X12_isSame_188 rfl rfl rfl rfl ?_
                            refine me1 (pc' := 190) (L' := [(0, .ref 102), (1, ii (hd : Int)), (2, ii (hd2 : Int)), (3, ii (vk v : Int)), (4, ii (vcl v : Int)), (5, zz b), (6, ii (k : Int))]) (S' := [ii (hd2 : Int), .ref 102, .long (vn v k)]) dm_X12_isSame_189 rfl rfl rfl rfl ?_
                            refine me1 (pc' := 192) (L' := [(0, .ref 102), (1, ii (hd : Int)), (2, ii (hd2 : Int)), (3, ii (vk v : Int)), (4, ii (vcl v : Int)), (5, zz b), (6, ii (k : Int))]) (S' := [ii (k : Int), ii (hd2 : Int), .ref 102, .long (vn v k)]) dm_X12_isSame_190 rfl rfl rfl rfl ?_
                            refine x_cp (pc' := 195) (v := .long (vn w k)) (rest := [.long (vn v k)]) dm_X12_isSame_192 rfl (q_inv (As := [ii (hd2 : Int), ii (k : Int)]) (S := [.long (vn v k)]) hm rfl rfl rfl) rfl rfl rfl (r_number_ (k := k) hm (by omega) hB0 hw (by omega) (by omega)) ?_
                            refine y_lne (x := vn v k) (y := vn w k) (t := 203) (pc1 := 196) (pc' := 199) dm_X12_isSame_195 rfl dm_X12_isSame_196 rfl rfl (fun hb13 => ?_) (fun hb13 => ?_)
                            · refine me0 (pc' := 204) (S' := [ii 0]) dm_X12_isSame_203 rfl rfl rfl rfl ?_
                              refine me1 (pc' := 206) (L' := [(5, ii 0), (0, .ref 102), (1, ii (hd : Int)), (2, ii (hd2 : Int)), (3, ii (vk v : Int)), (4, ii (vcl v : Int)), (6, ii (k : Int))]) (S' := []) dm_X12_isSame_204 rfl rfl rfl rfl ?_
                              refine y_iinc (pc' := 209) (L' := [(6, ii ((k : Int) + 1)), (5, ii 0), (0, .ref 102), (1, ii (hd : Int)), (2, ii (hd2 : Int)), (3, ii (vk v : Int)), (4, ii (vcl v : Int))]) dm_X12_isSame_206 (y_incp (a := (k : Int)) (c := 1) rfl rfl (by decide)) rfl ?_
                              refine me2 (pc' := 142) (S' := []) dm_X12_isSame_209 rfl rfl rfl ?_
                              have hwq2 : vk v = 7 ∨ vq v = vq w := by by_cases z : vk v = 7; exact Or.inl z; exact Or.inr (vq_eq (by omega) (by omega) (by omega) (by omega) (by omega))
                              exact pg_sub (L := [(0, .ref 102), (1, ii (hd : Int)), (2, ii (hd2 : Int)), (3, ii (vk v : Int)), (4, ii (vcl v : Int)), (5, zz false), (6, ii ((k + 1) : Int))]) rfl rfl rfl (ih142 (vcl v - (k + 1)) (by omega) (k + 1) false rfl (by omega) (by show false = (allN k (vsF e v w) && vsF e v w k); unfold vsF; rw [if_neg (by omega), decide_eq_false (by assumption), Bool.and_false]))
                            · refine me0 (pc' := 200) (S' := [ii 1]) dm_X12_isSame_199 rfl rfl rfl rfl ?_
                              refine me2 (pc' := 204) (S' := [ii 1]) dm_X12_isSame_200 rfl rfl rfl ?_
                              refine me1 (pc' := 206) (L' := [(5, ii 1), (0, .ref 102), (1, ii (hd : Int)), (2, ii (hd2 : Int)), (3, ii (vk v : Int)), (4, ii (vcl v : Int)), (6, ii (k : Int))]) (S' := []) dm_X12_isSame_204 rfl rfl rfl rfl ?_
                              refine y_iinc (pc' := 209) (L' := [(6, ii ((k : Int) + 1)), (5, ii 1), (0, .ref 102), (1, ii (hd : Int)), (2, ii (hd2 : Int)), (3, ii (vk v : Int)), (4, ii (vcl v : Int))]) dm_X12_isSame_206 (y_incp (a := (k : Int)) (c := 1) rfl rfl (by decide)) rfl ?_
                              refine me2 (pc' := 142) (S' := []) dm_X12_isSame_209 rfl rfl rfl ?_
                              have hwq2 : vk v = 7 ∨ vq v = vq w := by by_cases z : vk v = 7; exact Or.inl z; exact Or.inr (vq_eq (by omega) (by omega) (by omega) (by omega) (by omega))
                              exact pg_sub (L := [(0, .ref 102), (1, ii (hd : Int)), (2, ii (hd2 : Int)), (3, ii (vk v : Int)), (4, ii (vcl v : Int)), (5, zz true), (6, ii ((k + 1) : Int))]) rfl rfl rfl (ih142 (vcl v - (k + 1)) (by omega) (k + 1) true rfl (by omega) (by show true = (allN k (vsF e v w) && vsF e v w k); rw [← hbk, hbt]; unfold vsF; rw [if_neg (by omega), decide_eq_true (by assumption)]; rfl))
                          · refine me1 (pc' := 161) (L' := [(0, .ref 102), (1, ii (hd : Int)), (2, ii (hd2 : Int)), (3, ii (vk v : Int)), (4, ii (vcl v : Int)), (5, zz b), (6, ii (k : Int))]) (S' := [.ref 102]) dm_X12_isSame_160 rfl rfl rfl rfl ?_
                            refine me1 (pc' := 162) (L' := [(0, .ref 102), (1, ii (hd : Int)), (2, ii (hd2 : Int)), (3, ii (vk v : Int)), (4, ii (vcl v : Int)), (5, zz b), (6, ii (k : Int))]) (S' := [.ref 102, .ref 102]) dm_X12_isSame_161 rfl rfl rfl rfl ?_
                            refine me1 (pc' := 163) (L' := [(0, .ref 102), (1, ii (hd : Int)), (2, ii (hd2 : Int)), (3, ii (vk v : Int)), (4, ii (vcl v : Int)), (5, zz b), (6, ii (k : Int))]) (S' := [ii (hd : Int), .ref 102, .ref 102]) dm_X12_isSame_162 rfl rfl rfl rfl ?_
                            refine me1 (pc' := 165) (L' := [(0, .ref 102), (1, ii (hd : Int)), (2, ii (hd2 : Int)), (3, ii (vk v : Int)), (4, ii (vcl v : Int)), (5, zz b), (6, ii (k : Int))]) (S' := [ii (k : Int), ii (hd : Int), .ref 102, .ref 102]) dm_X12_isSame_163 rfl rfl rfl rfl ?_
                            obtain ⟨p1, hp13, hp1lt, hp1v0, hcp1⟩ := r_value_ (xt := xt) (d := d - 1) (pre := pre) (post := post) (k := k) hm (by omega) hB0 hv (by omega) (by omega)
                            refine x_cp (pc' := 168) (v := ii (p1 : Int)) (rest := [.ref 102]) dm_X12_isSame_165 rfl (q_inv (As := [ii (hd : Int), ii (k : Int)]) (S := [.ref 102]) hm rfl rfl rfl) rfl rfl rfl (hcp1) ?_
                            refine me1 (pc' := 169) (L' := [(0, .ref 102), (1, ii (hd : Int)), (2, ii (hd2 : Int)), (3, ii (vk v : Int)), (4, ii (vcl v : Int)), (5, zz b), (6, ii (k : Int))]) (S' := [.ref 102, ii (p1 : Int), .ref 102]) dm_X12_isSame_168 rfl rfl rfl rfl ?_
                            refine me1 (pc' := 170) (L' := [(0, .ref 102), (1, ii (hd : Int)), (2, ii (hd2 : Int)), (3, ii (vk v : Int)), (4, ii (vcl v : Int)), (5, zz b), (6, ii (k : Int))]) (S' := [ii (hd2 : Int), .ref 102, ii (p1 : Int), .ref 102]) dm_X12_isSame_169 rfl rfl rfl rfl ?_
                            refine me1 (pc' := 172) (L' := [(0, .ref 102), (1, ii (hd : Int)), (2, ii (hd2 : Int)), (3, ii (vk v : Int)), (4, ii (vcl v : Int)), (5, zz b), (6, ii (k : Int))]) (S' := [ii (k : Int), ii (hd2 : Int), .ref 102, ii (p1 : Int), .ref 102]) dm_X12_isSame_170 rfl rfl rfl rfl ?_
                            obtain ⟨p2, hp23, hp2lt, hp2v0, hcp2⟩ := r_value_ (xt := xt) (d := d - 1) (pre := pre) (post := post) (k := k) hm (by omega) hB0 hw (by omega) (by omega)
                            refine x_cp (pc' := 175) (v := ii (p2 : Int)) (rest := [ii (p1 : Int), .ref 102]) dm_X12_isSame_172 rfl (q_inv (As := [ii (hd2 : Int), ii (k : Int)]) (S := [ii (p1 : Int), .ref 102]) hm rfl rfl rfl) rfl rfl rfl (hcp2) ?_
                            refine x_cp (pc' := 178) (v := zz (vsame e (vd v k) (vd w k))) (rest := []) dm_X12_isSame_175 rfl (q_inv (As := [ii (p1 : Int), ii (p2 : Int)]) (S := []) hm rfl rfl rfl) rfl rfl rfl (ih (by omega) hp1v0 hp2v0) ?_
                            refine me2 (pc' := 204) (S' := [zz (vsame e (vd v k) (vd w k))]) dm_X12_isSame_178 rfl rfl rfl ?_
                            refine me1 (pc' := 206) (L' := [(5, zz (vsame e (vd v k) (vd w k))), (0, .ref 102), (1, ii (hd : Int)), (2, ii (hd2 : Int)), (3, ii (vk v : Int)), (4, ii (vcl v : Int)), (6, ii (k : Int))]) (S' := []) dm_X12_isSame_204 rfl rfl rfl rfl ?_
                            refine y_iinc (pc' := 209) (L' := [(6, ii ((k : Int) + 1)), (5, zz (vsame e (vd v k) (vd w k))), (0, .ref 102), (1, ii (hd : Int)), (2, ii (hd2 : Int)), (3, ii (vk v : Int)), (4, ii (vcl v : Int))]) dm_X12_isSame_206 (y_incp (a := (k : Int)) (c := 1) rfl rfl (by decide)) rfl ?_
                            refine me2 (pc' := 142) (S' := []) dm_X12_isSame_209 rfl rfl rfl ?_
                            have hwq2 : vk v = 7 ∨ vq v = vq w := by by_cases z : vk v = 7; exact Or.inl z; exact Or.inr (vq_eq (by omega) (by omega) (by omega) (by omega) (by omega))
                            exact pg_sub (L := [(0, .ref 102), (1, ii (hd : Int)), (2, ii (hd2 : Int)), (3, ii (vk v : Int)), (4, ii (vcl v : Int)), (5, zz (vsame e (vd v k) (vd w k))), (6, ii ((k + 1) : Int))]) rfl rfl rfl (ih142 (vcl v - (k + 1)) (by omega) (k + 1) (vsame e (vd v k) (vd w k)) rfl (by omega) (by show vsame e (vd v k) (vd w k) = (allN k (vsF e v w) && vsF e v w k); rw [← hbk, hbt]; unfold vsF; rw [if_pos (by omega)]; rfl))
                  exact pg_sub (L := [(0, .ref 102), (1, ii (hd : Int)), (2, ii (hd2 : Int)), (3, ii (vk v : Int)), (4, ii (vcl v : Int)), (5, zz true), (6, ii (0 : Int))]) rfl rfl rfl (lp142 _ 0 true rfl (by omega) rfl)
                · refine me1 (pc' := 116) (L' := [(3, ii (vk v : Int)), (0, .ref 102), (1, ii (hd : Int)), (2, ii (hd2 : Int))]) (S' := [.ref 102]) dm_X12_isSame_115 rfl rfl rfl rfl ?_
                  refine me1 (pc' := 117) (L' := [(3, ii (vk v : Int)), (0, .ref 102), (1, ii (hd : Int)), (2, ii (hd2 : Int))]) (S' := [ii (hd : Int), .ref 102]) dm_X12_isSame_116 rfl rfl rfl rfl ?_
                  refine x_cp (pc' := 120) (v := ii (vm v : Int)) (rest := []) dm_X12_isSame_117 rfl (q_inv (As := [ii (hd : Int)]) (S := []) hm rfl rfl rfl) rfl rfl rfl (r_many_ hm (by omega) hB0 hv) ?_
                  refine me1 (pc' := 121) (L' := [(3, ii (vk v : Int)), (0, .ref 102), (1, ii (hd : Int)), (2, ii (hd2 : Int))]) (S' := [.ref 102, ii (vm v : Int)]) dm_X12_isSame_120 rfl rfl rfl rfl ?_
                  refine me1 (pc' := 122) (L' := [(3, ii (vk v : Int)), (0, .ref 102), (1, ii (hd : Int)), (2, ii (hd2 : Int))]) (S' := [ii (hd : Int), .ref 102, ii (vm v : Int)]) dm_X12_isSame_121 rfl rfl rfl rfl ?_
                  refine x_cp (pc' := 125) (v := ii (vc v : Int)) (rest := [ii (vm v : Int)]) dm_X12_isSame_122 rfl (q_inv (As := [ii (hd : Int)]) (S := [ii (vm v : Int)]) hm rfl rfl rfl) rfl rfl rfl (r_columns_ hm (by omega) hB0 hv) ?_
                  refine y_imul (a := (vm v : Int)) (b := (vc v : Int)) dm_X12_isSame_125 (pc' := 126) rfl ?_
                  refine me2 (pc' := 134) (S' := [ii ((vm v : Int) * (vc v : Int))]) dm_X12_isSame_126 rfl rfl rfl ?_
                  refine pg_st (S' := [ii (vcl v : Int)]) (congrArg (fun z => [ii z]) (vcl_6 (by omega))) ?_
                  refine me1 (pc' := 136) (L' := [(4, ii (vcl v : Int)), (3, ii (vk v : Int)), (0, .ref 102), (1, ii (hd : Int)), (2, ii (hd2 : Int))]) (S' := []) dm_X12_isSame_134 rfl rfl rfl rfl ?_
                  refine me0 (pc' := 137) (S' := [ii 1]) dm_X12_isSame_136 rfl rfl rfl rfl ?_
                  refine me1 (pc' := 139) (L' := [(5, ii 1), (4, ii (vcl v : Int)), (3, ii (vk v : Int)), (0, .ref 102), (1, ii (hd : Int)), (2, ii (hd2 : Int))]) (S' := []) dm_X12_isSame_137 rfl rfl rfl rfl ?_
                  refine me0 (pc' := 140) (S' := [ii 0]) dm_X12_isSame_139 rfl rfl rfl rfl ?_
                  refine me1 (pc' := 142) (L' := [(6, ii 0), (5, ii 1), (4, ii (vcl v : Int)), (3, ii (vk v : Int)), (0, .ref 102), (1, ii (hd : Int)), (2, ii (hd2 : Int))]) (S' := []) dm_X12_isSame_140 rfl rfl rfl rfl ?_
                  have hwq2 : vk v = 7 ∨ vq v = vq w := by by_cases z : vk v = 7; exact Or.inl z; exact Or.inr (vq_eq (by omega) (by omega) (by omega) (by omega) (by omega))
                  have lp142 : ∀ (n142 : Nat) (k : Nat) (b : Bool), vcl v - k = n142 → (k ≤ vcl v) → (b = allN k (vsF e v w)) → pgE xt (d - 1) 12 7 false (Option.some Jvm.ClassFile.FieldType.boolean) (mj_dec prog_14_method_23_code) 142 [(0, .ref 102), (1, ii (hd : Int)), (2, ii (hd2 : Int)), (3, ii (vk v : Int)), (4, ii (vcl v : Int)), (5, zz b), (6, ii (k : Int))] [] (rI pre post s.1 s.2.1 s.2.2.1 s.2.2.2) (fun r h' => r = some (zz (vsame (e + 1) v w)) ∧ h' = rS pre post s) := by
                    intro n142
                    induction n142 using Nat.strongRecOn with
                    | ind n142 ih142 =>
                      intro k b hm142 hk hbk
                      refine me1 (pc' := 144) (L' := [(0, .ref 102), (1, ii (hd : Int)), (2, ii (hd2 : Int)), (3, ii (vk v : Int)), (4, ii (vcl v : Int)), (5, zz b), (6, ii (k : Int))]) (S' := [ii (k : Int)]) dm_X12_isSame_142 rfl rfl rfl rfl ?_
                      refine me1 (pc' := 146) (L' := [(0, .ref 102), (1, ii (hd : Int)), (2, ii (hd2 : Int)), (3, ii (vk v : Int)), (4, ii (vcl v : Int)), (5, zz b), (6, ii (k : Int))]) (S' := [ii (vcl v : Int), ii (k : Int)]) dm_X12_isSame_144 rfl rfl rfl rfl ?_
                      refine y_2ge (a := (k : Int)) (b := (vcl v : Int)) (t := 212) (pc' := 149) dm_X12_isSame_146 rfl rfl (by omega) (fun hb14 => ?_) (fun hb14 => ?_)
                      · refine me1 (pc' := 214) (L' := [(0, .ref 102), (1, ii (hd : Int)), (2, ii (hd2 : Int)), (3, ii (vk v : Int)), (4, ii (vcl v : Int)), (5, zz b), (6, ii (k : Int))]) (S' := [zz b]) dm_X12_isSame_212 rfl rfl rfl rfl ?_
                        refine y_ret (r := some (zz b)) dm_X12_isSame_214 (y_retz _) rfl rfl ?_
                        refine ⟨congrArg some ?_, rfl⟩
                        rw [vsame_F (by omega) (by omega) (by omega) (by omega) (by omega)]
                        by_cases hkn : k = vcl v
                        · rw [hbk, hkn]
                        · have hbf : b = false := by first | assumption | omega
                          rw [hbf] at hbk ⊢
                          rw [allN_lf hk hbk.symm]
                      · refine me1 (pc' := 151) (L' := [(0, .ref 102), (1, ii (hd : Int)), (2, ii (hd2 : Int)), (3, ii (vk v : Int)), (4, ii (vcl v : Int)), (5, zz b), (6, ii (k : Int))]) (S' := [zz b]) dm_X12_isSame_149 rfl rfl rfl rfl ?_
                        refine y_zeq (c := b) (t := 212) (pc' := 154) dm_X12_isSame_151 rfl rfl (fun hb15 => ?_) (fun hb15 => ?_)
                        · refine me1 (pc' := 214) (L' := [(0, .ref 102), (1, ii (hd : Int)), (2, ii (hd2 : Int)), (3, ii (vk v : Int)), (4, ii (vcl v : Int)), (5, zz b), (6, ii (k : Int))]) (S' := [zz b]) dm_X12_isSame_212 rfl rfl rfl rfl ?_
                          refine y_ret (r := some (zz b)) dm_X12_isSame_214 (y_retz _) rfl rfl ?_
                          refine ⟨congrArg some ?_, rfl⟩
                          rw [vsame_F (by omega) (by omega) (by omega) (by omega) (by omega)]
                          by_cases hkn : k = vcl v
                          · rw [hbk, hkn]
                          · have hbf : b = false := by first | assumption | omega
                            rw [hbf] at hbk ⊢
                            rw [allN_lf hk hbk.symm]
                        · have hbt : b = true := hb15
                          refine me1 (pc' := 155) (L' := [(0, .ref 102), (1, ii (hd : Int)), (2, ii (hd2 : Int)), (3, ii (vk v : Int)), (4, ii (vcl v : Int)), (5, zz b), (6, ii (k : Int))]) (S' := [ii (vk v : Int)]) dm_X12_isSame_154 rfl rfl rfl rfl ?_
                          refine me0 (pc' := 157) (S' := [ii 7, ii (vk v : Int)]) dm_X12_isSame_155 rfl rfl rfl rfl ?_
                          refine y_2ne (a := (vk v : Int)) (b := 7) (t := 181) (pc' := 160) dm_X12_isSame_157 rfl rfl (by omega) (fun hb16 => ?_) (fun hb16 => ?_)
                          · refine me1 (pc' := 182) (L' := [(0, .ref 102), (1, ii (hd : Int)), (2, ii (hd2 : Int)), (3, ii (vk v : Int)), (4, ii (vcl v : Int)), (5, zz b), (6, ii (k : Int))]) (S' := [.ref 102]) dm_X12_isSame_181 rfl rfl rfl rfl ?_
                            refine me1 (pc' := 183) (L' := [(0, .ref 102), (1, ii (hd : Int)), (2, ii (hd2 : Int)), (3, ii (vk v : Int)), (4, ii (vcl v : Int)), (5, zz b), (6, ii (k : Int))]) (S' := [ii (hd : Int), .ref 102]) dm_X12_isSame_182 rfl rfl rfl rfl ?_
                            refine me1 (pc' := 185) (L' := [(0, .ref 102), (1, ii (hd : Int)), (2, ii (hd2 : Int)), (3, ii (vk v : Int)), (4, ii (vcl v : Int)), (5, zz b), (6, ii (k : Int))]) (S' := [ii (k : Int), ii (hd : Int), .ref 102]) dm_X12_isSame_183 rfl rfl rfl rfl ?_
                            refine x_cp (pc' := 188) (v := .long (vn v k)) (rest := []) dm_X12_isSame_185 rfl (q_inv (As := [ii (hd : Int), ii (k : Int)]) (S := []) hm rfl rfl rfl) rfl rfl rfl (r_number_ (k := k) hm (by omega) hB0 hv (by omega) (by omega)) ?_
                            refine me1 (pc' := 189) (L' := [(0, .ref 102), (1, ii (hd : Int)), (2, ii (hd2 : Int)), (3, ii (vk v : Int)), (4, ii (vcl v : Int)), (5, zz b), (6, ii (k : Int))]) (S' := [.ref 102, .long (vn v k)]) dm_X12_isSame_188 rfl rfl rfl rfl ?_
                            refine me1 (pc' := 190) (L' := [(0, .ref 102), (1, ii (hd : Int)), (2, ii (hd2 : Int)), (3, ii (vk v : Int)), (4, ii (vcl v : Int)), (5, zz b), (6, ii (k : Int))]) (S' := [ii (hd2 : Int), .ref 102, .long (vn v k)]) dm_X12_isSame_189 rfl rfl rfl rfl ?_
                            refine me1 (pc' := 192) (L' := [(0, .ref 102), (1, ii (hd : Int)), (2, ii (hd2 : Int)), (3, ii (vk v : Int)), (4, ii (vcl v : Int)), (5, zz b), (6, ii (k : Int))]) (S' := [ii (k : Int), ii (hd2 : Int), .ref 102, .long (vn v k)]) dm_X12_isSame_190 rfl rfl rfl rfl ?_
                            refine x_cp (pc' := 195) (v := .long (vn w k)) (rest := [.long (vn v k)]) dm_X12_isSame_192 rfl (q_inv (As := [ii (hd2 : Int), ii (k : Int)]) (S := [.long (vn v k)]) hm rfl rfl rfl) rfl rfl rfl (r_number_ (k := k) hm (by omega) hB0 hw (by omega) (by omega)) ?_
                            refine y_lne (x := vn v k) (y := vn w k) (t := 203) (pc1 := 196) (pc' := 199) dm_X12_isSame_195 rfl dm_X12_isSame_196 rfl rfl (fun hb17 => ?_) (fun hb17 => ?_)
                            · refine me0 (pc' := 204) (S' := [ii 0]) dm_X12_isSame_203 rfl rfl rfl rfl ?_
                              refine me1 (pc' := 206) (L' := [(5, ii 0), (0, .ref 102), (1, ii (hd : Int)), (2, ii (hd2 : Int)), (3, ii (vk v : Int)), (4, ii (vcl v : Int)), (6, ii (k : Int))]) (S' := []) dm_X12_isSame_204 rfl rfl rfl rfl ?_
                              refine y_iinc (pc' := 209) (L' := [(6, ii ((k : Int) + 1)), (5, ii 0), (0, .ref 102), (1, ii (hd : Int)), (2, ii (hd2 : Int)), (3, ii (vk v : Int)), (4, ii (vcl v : Int))]) dm_X12_isSame_206 (y_incp (a := (k : Int)) (c := 1) rfl rfl (by decide)) rfl ?_
                              refine me2 (pc' := 142) (S' := []) dm_X12_isSame_209 rfl rfl rfl ?_
                              have hwq2 : vk v = 7 ∨ vq v = vq w := by by_cases z : vk v = 7; exact Or.inl z; exact Or.inr (vq_eq (by omega) (by omega) (by omega) (by omega) (by omega))
                              exact pg_sub (L := [(0, .ref 102), (1, ii (hd : Int)), (2, ii (hd2 : Int)), (3, ii (vk v : Int)), (4, ii (vcl v : Int)), (5, zz false), (6, ii ((k + 1) : Int))]) rfl rfl rfl (ih142 (vcl v - (k + 1)) (by omega) (k + 1) false rfl (by omega) (by show false = (allN k (vsF e v w) && vsF e v w k); unfold vsF; rw [if_neg (by omega), decide_eq_false (by assumption), Bool.and_false]))
                            · refine me0 (pc' := 200) (S' := [ii 1]) dm_X12_isSame_199 rfl rfl rfl rfl ?_
                              refine me2 (pc' := 204) (S' := [ii 1]) dm_X12_isSame_200 rfl rfl rfl ?_
                              refine me1 (pc' := 206) (L' := [(5, ii 1), (0, .ref 102), (1, ii (hd : Int)), (2, ii (hd2 : Int)), (3, ii (vk v : Int)), (4, ii (vcl v : Int)), (6, ii (k : Int))]) (S' := []) dm_X12_isSame_204 rfl rfl rfl rfl ?_
                              refine y_iinc (pc' := 209) (L' := [(6, ii ((k : Int) + 1)), (5, ii 1), (0, .ref 102), (1, ii (hd : Int)), (2, ii (hd2 : Int)), (3, ii (vk v : Int)), (4, ii (vcl v : Int))]) dm_X12_isSame_206 (y_incp (a := (k : Int)) (c := 1) rfl rfl (by decide)) rfl ?_
                              refine me2 (pc' := 142) (S' := []) dm_X12_isSame_209 rfl rfl rfl ?_
                              have hwq2 : vk v = 7 ∨ vq v = vq w := by by_cases z : vk v = 7; exact Or.inl z; exact Or.inr (vq_eq (by omega) (by omega) (by omega) (by omega) (by omega))
                              exact pg_sub (L := [(0, .ref 102), (1, ii (hd : Int)), (2, ii (hd2 : Int)), (3, ii (vk v : Int)), (4, ii (vcl v : Int)), (5, zz true), (6, ii ((k + 1) : Int))]) rfl rfl rfl (ih142 (vcl v - (k + 1)) (by omega) (k + 1) true rfl (by omega) (by show true = (allN k (vsF e v w) && vsF e v w k); rw [← hbk, hbt]; unfold vsF; rw [if_neg (by omega), decide_eq_true (by assumption)]; rfl))
                          · refine me1 (pc' := 161) (L' := [(0, .ref 102), (1, ii (hd : Int)), (2, ii (hd2 : Int)), (3, ii (vk v : Int)), (4, ii (vcl v : Int)), (5, zz b), (6, ii (k : Int))]) (S' := [.ref 102]) dm_X12_isSame_160 rfl rfl rfl rfl ?_
                            refine me1 (pc' := 162) (L' := [(0, .ref 102), (1, ii (hd : Int)), (2, ii (hd2 : Int)), (3, ii (vk v : Int)), (4, ii (vcl v : Int)), (5, zz b), (6, ii (k : Int))]) (S' := [.ref 102, .ref 102]) dm_X12_isSame_161 rfl rfl rfl rfl ?_
                            refine me1 (pc' := 163) (L' := [(0, .ref 102), (1, ii (hd : Int)), (2, ii (hd2 : Int)), (3, ii (vk v : Int)), (4, ii (vcl v : Int)), (5, zz b), (6, ii (k : Int))]) (S' := [ii (hd : Int), .ref 102, .ref 102]) dm_X12_isSame_162 rfl rfl rfl rfl ?_
                            refine me1 (pc' := 165) (L' := [(0, .ref 102), (1, ii (hd : Int)), (2, ii (hd2 : Int)), (3, ii (vk v : Int)), (4, ii (vcl v : Int)), (5, zz b), (6, ii (k : Int))]) (S' := [ii (k : Int), ii (hd : Int), .ref 102, .ref 102]) dm_X12_isSame_163 rfl rfl rfl rfl ?_
                            obtain ⟨p1, hp13, hp1lt, hp1v0, hcp1⟩ := r_value_ (xt := xt) (d := d - 1) (pre := pre) (post := post) (k := k) hm (by omega) hB0 hv (by omega) (by omega)
                            refine x_cp (pc' := 168) (v := ii (p1 : Int)) (rest := [.ref 102]) dm_X12_isSame_165 rfl (q_inv (As := [ii (hd : Int), ii (k : Int)]) (S := [.ref 102]) hm rfl rfl rfl) rfl rfl rfl (hcp1) ?_
                            refine me1 (pc' := 169) (L' := [(0, .ref 102), (1, ii (hd : Int)), (2, ii (hd2 : Int)), (3, ii (vk v : Int)), (4, ii (vcl v : Int)), (5, zz b), (6, ii (k : Int))]) (S' := [.ref 102, ii (p1 : Int), .ref 102]) dm_X12_isSame_168 rfl rfl rfl rfl ?_
                            refine me1 (pc' := 170) (L' := [(0, .ref 102), (1, ii (hd : Int)), (2, ii (hd2 : Int)), (3, ii (vk v : Int)), (4, ii (vcl v : Int)), (5, zz b), (6, ii (k : Int))]) (S' := [ii (hd2 : Int), .ref 102, ii (p1 : Int), .ref 102]) dm_X12_isSame_169 rfl rfl rfl rfl ?_
                            refine me1 (pc' := 172) (L' := [(0, .ref 102), (1, ii (hd : Int)), (2, ii (hd2 : Int)), (3, ii (vk v : Int)), (4, ii (vcl v : Int)), (5, zz b), (6, ii (k : Int))]) (S' := [ii (k : Int), ii (hd2 : Int), .ref 102, ii (p1 : Int), .ref 102]) dm_X12_isSame_170 rfl rfl rfl rfl ?_
                            obtain ⟨p2, hp23, hp2lt, hp2v0, hcp2⟩ := r_value_ (xt := xt) (d := d - 1) (pre := pre) (post := post) (k := k) hm (by omega) hB0 hw (by omega) (by omega)
                            refine x_cp (pc' := 175) (v := ii (p2 : Int)) (rest := [ii (p1 : Int), .ref 102]) dm_X12_isSame_172 rfl (q_inv (As := [ii (hd2 : Int), ii (k : Int)]) (S := [ii (p1 : Int), .ref 102]) hm rfl rfl rfl) rfl rfl rfl (hcp2) ?_
                            refine x_cp (pc' := 178) (v := zz (vsame e (vd v k) (vd w k))) (rest := []) dm_X12_isSame_175 rfl (q_inv (As := [ii (p1 : Int), ii (p2 : Int)]) (S := []) hm rfl rfl rfl) rfl rfl rfl (ih (by omega) hp1v0 hp2v0) ?_
                            refine me2 (pc' := 204) (S' := [zz (vsame e (vd v k) (vd w k))]) dm_X12_isSame_178 rfl rfl rfl ?_
                            refine me1 (pc' := 206) (L' := [(5, zz (vsame e (vd v k) (vd w k))), (0, .ref 102), (1, ii (hd : Int)), (2, ii (hd2 : Int)), (3, ii (vk v : Int)), (4, ii (vcl v : Int)), (6, ii (k : Int))]) (S' := []) dm_X12_isSame_204 rfl rfl rfl rfl ?_
                            refine y_iinc (pc' := 209) (L' := [(6, ii ((k : Int) + 1)), (5, zz (vsame e (vd v k) (vd w k))), (0, .ref 102), (1, ii (hd : Int)), (2, ii (hd2 : Int)), (3, ii (vk v : Int)), (4, ii (vcl v : Int))]) dm_X12_isSame_206 (y_incp (a := (k : Int)) (c := 1) rfl rfl (by decide)) rfl ?_
                            refine me2 (pc' := 142) (S' := []) dm_X12_isSame_209 rfl rfl rfl ?_
                            have hwq2 : vk v = 7 ∨ vq v = vq w := by by_cases z : vk v = 7; exact Or.inl z; exact Or.inr (vq_eq (by omega) (by omega) (by omega) (by omega) (by omega))
                            exact pg_sub (L := [(0, .ref 102), (1, ii (hd : Int)), (2, ii (hd2 : Int)), (3, ii (vk v : Int)), (4, ii (vcl v : Int)), (5, zz (vsame e (vd v k) (vd w k))), (6, ii ((k + 1) : Int))]) rfl rfl rfl (ih142 (vcl v - (k + 1)) (by omega) (k + 1) (vsame e (vd v k) (vd w k)) rfl (by omega) (by show vsame e (vd v k) (vd w k) = (allN k (vsF e v w) && vsF e v w k); rw [← hbk, hbt]; unfold vsF; rw [if_pos (by omega)]; rfl))
                  exact pg_sub (L := [(0, .ref 102), (1, ii (hd : Int)), (2, ii (hd2 : Int)), (3, ii (vk v : Int)), (4, ii (vcl v : Int)), (5, zz true), (6, ii (0 : Int))]) rfl rfl rfl (lp142 _ 0 true rfl (by omega) rfl)
              · refine me0 (pc' := 108) (S' := [ii 0]) dm_X12_isSame_107 rfl rfl rfl rfl ?_
                refine y_ret (r := some (ii 0)) dm_X12_isSame_108 rfl rfl rfl ?_
                refine ⟨congrArg some ?_, rfl⟩
                rw [vsame_no (by omega) (by omega) (by omega)]; rfl
          · refine me0 (pc' := 80) (S' := [ii 0]) dm_X12_isSame_79 rfl rfl rfl rfl ?_
            refine y_ret (r := some (ii 0)) dm_X12_isSame_80 rfl rfl rfl ?_
            refine ⟨congrArg some ?_, rfl⟩
            rw [vsame_no (by omega) (by omega) (by omega)]; rfl
        · replace hb5 := dT hb5
          refine me1 (pc' := 60) (L' := [(3, ii (vk v : Int)), (0, .ref 102), (1, ii (hd : Int)), (2, ii (hd2 : Int))]) (S' := [.ref 102]) dm_X12_isSame_59 rfl rfl rfl rfl ?_
          refine me1 (pc' := 61) (L' := [(3, ii (vk v : Int)), (0, .ref 102), (1, ii (hd : Int)), (2, ii (hd2 : Int))]) (S' := [ii (hd2 : Int), .ref 102]) dm_X12_isSame_60 rfl rfl rfl rfl ?_
          refine x_cp (pc' := 64) (v := zz (decide (vk w = 2 ∨ vk w = 4 ∨ vk w = 5))) (rest := []) dm_X12_isSame_61 rfl (q_inv (As := [ii (hd2 : Int)]) (S := []) hm rfl rfl rfl) rfl rfl rfl (r_isNumbers_ hm (by omega) hB0 hw) ?_
          refine y_zne (c := decide (vk w = 2 ∨ vk w = 4 ∨ vk w = 5)) (t := 81) (pc' := 67) dm_X12_isSame_64 rfl rfl (fun hb18 => ?_) (fun hb18 => ?_)
          · replace hb18 := dT hb18
            refine me1 (pc' := 82) (L' := [(3, ii (vk v : Int)), (0, .ref 102), (1, ii (hd : Int)), (2, ii (hd2 : Int))]) (S' := [.ref 102]) dm_X12_isSame_81 rfl rfl rfl rfl ?_
            refine me1 (pc' := 83) (L' := [(3, ii (vk v : Int)), (0, .ref 102), (1, ii (hd : Int)), (2, ii (hd2 : Int))]) (S' := [ii (hd : Int), .ref 102]) dm_X12_isSame_82 rfl rfl rfl rfl ?_
            refine x_cp (pc' := 86) (v := ii (vm v : Int)) (rest := []) dm_X12_isSame_83 rfl (q_inv (As := [ii (hd : Int)]) (S := []) hm rfl rfl rfl) rfl rfl rfl (r_many_ hm (by omega) hB0 hv) ?_
            refine me1 (pc' := 87) (L' := [(3, ii (vk v : Int)), (0, .ref 102), (1, ii (hd : Int)), (2, ii (hd2 : Int))]) (S' := [.ref 102, ii (vm v : Int)]) dm_X12_isSame_86 rfl rfl rfl rfl ?_
            refine me1 (pc' := 88) (L' := [(3, ii (vk v : Int)), (0, .ref 102), (1, ii (hd : Int)), (2, ii (hd2 : Int))]) (S' := [ii (hd2 : Int), .ref 102, ii (vm v : Int)]) dm_X12_isSame_87 rfl rfl rfl rfl ?_
            refine x_cp (pc' := 91) (v := ii (vm w : Int)) (rest := [ii (vm v : Int)]) dm_X12_isSame_88 rfl (q_inv (As := [ii (hd2 : Int)]) (S := [ii (vm v : Int)]) hm rfl rfl rfl) rfl rfl rfl (r_many_ hm (by omega) hB0 hw) ?_
            refine y_2ne (a := (vm v : Int)) (b := (vm w : Int)) (t := 107) (pc' := 94) dm_X12_isSame_91 rfl rfl (by omega) (fun hb19 => ?_) (fun hb19 => ?_)
            · refine me0 (pc' := 108) (S' := [ii 0]) dm_X12_isSame_107 rfl rfl rfl rfl ?_
              refine y_ret (r := some (ii 0)) dm_X12_isSame_108 rfl rfl rfl ?_
              refine ⟨congrArg some ?_, rfl⟩
              rw [vsame_no (by omega) (by omega) (by omega)]; rfl
            · refine me1 (pc' := 95) (L' := [(3, ii (vk v : Int)), (0, .ref 102), (1, ii (hd : Int)), (2, ii (hd2 : Int))]) (S' := [.ref 102]) dm_X12_isSame_94 rfl rfl rfl rfl ?_
              refine me1 (pc' := 96) (L' := [(3, ii (vk v : Int)), (0, .ref 102), (1, ii (hd : Int)), (2, ii (hd2 : Int))]) (S' := [ii (hd : Int), .ref 102]) dm_X12_isSame_95 rfl rfl rfl rfl ?_
              refine x_cp (pc' := 99) (v := ii (vc v : Int)) (rest := []) dm_X12_isSame_96 rfl (q_inv (As := [ii (hd : Int)]) (S := []) hm rfl rfl rfl) rfl rfl rfl (r_columns_ hm (by omega) hB0 hv) ?_
              refine me1 (pc' := 100) (L' := [(3, ii (vk v : Int)), (0, .ref 102), (1, ii (hd : Int)), (2, ii (hd2 : Int))]) (S' := [.ref 102, ii (vc v : Int)]) dm_X12_isSame_99 rfl rfl rfl rfl ?_
              refine me1 (pc' := 101) (L' := [(3, ii (vk v : Int)), (0, .ref 102), (1, ii (hd : Int)), (2, ii (hd2 : Int))]) (S' := [ii (hd2 : Int), .ref 102, ii (vc v : Int)]) dm_X12_isSame_100 rfl rfl rfl rfl ?_
              refine x_cp (pc' := 104) (v := ii (vc w : Int)) (rest := [ii (vc v : Int)]) dm_X12_isSame_101 rfl (q_inv (As := [ii (hd2 : Int)]) (S := [ii (vc v : Int)]) hm rfl rfl rfl) rfl rfl rfl (r_columns_ hm (by omega) hB0 hw) ?_
              refine y_2eq (a := (vc v : Int)) (b := (vc w : Int)) (t := 109) (pc' := 107) dm_X12_isSame_104 rfl rfl (by omega) (fun hb20 => ?_) (fun hb20 => ?_)
              · refine me1 (pc' := 110) (L' := [(3, ii (vk v : Int)), (0, .ref 102), (1, ii (hd : Int)), (2, ii (hd2 : Int))]) (S' := [ii (vk v : Int)]) dm_X12_isSame_109 rfl rfl rfl rfl ?_
                refine me0 (pc' := 112) (S' := [ii 6, ii (vk v : Int)]) dm_X12_isSame_110 rfl rfl rfl rfl ?_
                refine y_2ne (a := (vk v : Int)) (b := 6) (t := 129) (pc' := 115) dm_X12_isSame_112 rfl rfl (by omega) (fun hb21 => ?_) (fun hb21 => ?_)
                · refine me1 (pc' := 130) (L' := [(3, ii (vk v : Int)), (0, .ref 102), (1, ii (hd : Int)), (2, ii (hd2 : Int))]) (S' := [.ref 102]) dm_X12_isSame_129 rfl rfl rfl rfl ?_
                  refine me1 (pc' := 131) (L' := [(3, ii (vk v : Int)), (0, .ref 102), (1, ii (hd : Int)), (2, ii (hd2 : Int))]) (S' := [ii (hd : Int), .ref 102]) dm_X12_isSame_130 rfl rfl rfl rfl ?_
                  refine x_cp (pc' := 134) (v := ii (vm v : Int)) (rest := []) dm_X12_isSame_131 rfl (q_inv (As := [ii (hd : Int)]) (S := []) hm rfl rfl rfl) rfl rfl rfl (r_many_ hm (by omega) hB0 hv) ?_
                  refine pg_st (S' := [ii (vcl v : Int)]) (congrArg (fun z => [ii z]) (vcl_n (by omega))) ?_
                  refine me1 (pc' := 136) (L' := [(4, ii (vcl v : Int)), (3, ii (vk v : Int)), (0, .ref 102), (1, ii (hd : Int)), (2, ii (hd2 : Int))]) (S' := []) dm_X12_isSame_134 rfl rfl rfl rfl ?_
                  refine me0 (pc' := 137) (S' := [ii 1]) dm_X12_isSame_136 rfl rfl rfl rfl ?_
                  refine me1 (pc' := 139) (L' := [(5, ii 1), (4, ii (vcl v : Int)), (3, ii (vk v : Int)), (0, .ref 102), (1, ii (hd : Int)), (2, ii (hd2 : Int))]) (S' := []) dm_X12_isSame_137 rfl rfl rfl rfl ?_
                  refine me0 (pc' := 140) (S' := [ii 0]) dm_X12_isSame_139 rfl rfl rfl rfl ?_
                  refine me1 (pc' := 142) (L' := [(6, ii 0), (5, ii 1), (4, ii (vcl v : Int)), (3, ii (vk v : Int)), (0, .ref 102), (1, ii (hd : Int)), (2, ii (hd2 : Int))]) (S' := []) dm_X12_isSame_140 rfl rfl rfl rfl ?_
                  have hwq2 : vk v = 7 ∨ vq v = vq w := by by_cases z : vk v = 7; exact Or.inl z; exact Or.inr (vq_eq (by omega) (by omega) (by omega) (by omega) (by omega))
                  have lp142 : ∀ (n142 : Nat) (k : Nat) (b : Bool), vcl v - k = n142 → (k ≤ vcl v) → (b = allN k (vsF e v w)) → pgE xt (d - 1) 12 7 false (Option.some Jvm.ClassFile.FieldType.boolean) (mj_dec prog_14_method_23_code) 142 [(0, .ref 102), (1, ii (hd : Int)), (2, ii (hd2 : Int)), (3, ii (vk v : Int)), (4, ii (vcl v : Int)), (5, zz b), (6, ii (k : Int))] [] (rI pre post s.1 s.2.1 s.2.2.1 s.2.2.2) (fun r h' => r = some (zz (vsame (e + 1) v w)) ∧ h' = rS pre post s) := by
                    intro n142
                    induction n142 using Nat.strongRecOn with
                    | ind n142 ih142 =>
                      intro k b hm142 hk hbk
                      refine me1 (pc' := 144) (L' := [(0, .ref 102), (1, ii (hd : Int)), (2, ii (hd2 : Int)), (3, ii (vk v : Int)), (4, ii (vcl v : Int)), (5, zz b), (6, ii (k : Int))]) (S' := [ii (k : Int)]) dm_X12_isSame_142 rfl rfl rfl rfl ?_
                      refine me1 (pc' := 146) (L' := [(0, .ref 102), (1, ii (hd : Int)), (2, ii (hd2 : Int)), (3, ii (vk v : Int)), (4, ii (vcl v : Int)), (5, zz b), (6, ii (k : Int))]) (S' := [ii (vcl v : Int), ii (k : Int)]) dm_X12_isSame_144 rfl rfl rfl rfl ?_
                      refine y_2ge (a := (k : Int)) (b := (vcl v : Int)) (t := 212) (pc' := 149) dm_X12_isSame_146 rfl rfl (by omega) (fun hb22 => ?_) (fun hb22 => ?_)
                      · refine me1 (pc' := 214) (L' := [(0, .ref 102), (1, ii (hd : Int)), (2, ii (hd2 : Int)), (3, ii (vk v : Int)), (4, ii (vcl v : Int)), (5, zz b), (6, ii (k : Int))]) (S' := [zz b]) dm_X12_isSame_212 rfl rfl rfl rfl ?_
                        refine y_ret (r := some (zz b)) dm_X12_isSame_214 (y_retz _) rfl rfl ?_
                        refine ⟨congrArg some ?_, rfl⟩
                        rw [vsame_F (by omega) (by omega) (by omega) (by omega) (by omega)]
                        by_cases hkn : k = vcl v
                        · rw [hbk, hkn]
                        · have hbf : b = false := by first | assumption | omega
                          rw [hbf] at hbk ⊢
                          rw [allN_lf hk hbk.symm]
                      · refine me1 (pc' := 151) (L' := [(0, .ref 102), (1, ii (hd : Int)), (2, ii (hd2 : Int)), (3, ii (vk v : Int)), (4, ii (vcl v : Int)), (5, zz b), (6, ii (k : Int))]) (S' := [zz b]) dm_X12_isSame_149 rfl rfl rfl rfl ?_
                        refine y_zeq (c := b) (t := 212) (pc' := 154) dm_X12_isSame_151 rfl rfl (fun hb23 => ?_) (fun hb23 => ?_)
                        · refine me1 (pc' := 214) (L' := [(0, .ref 102), (1, ii (hd : Int)), (2, ii (hd2 : Int)), (3, ii (vk v : Int)), (4, ii (vcl v : Int)), (5, zz b), (6, ii (k : Int))]) (S' := [zz b]) dm_X12_isSame_212 rfl rfl rfl rfl ?_
                          refine y_ret (r := some (zz b)) dm_X12_isSame_214 (y_retz _) rfl rfl ?_
                          refine ⟨congrArg some ?_, rfl⟩
                          rw [vsame_F (by omega) (by omega) (by omega) (by omega) (by omega)]
                          by_cases hkn : k = vcl v
                          · rw [hbk, hkn]
                          · have hbf : b = false := by first | assumption | omega
                            rw [hbf] at hbk ⊢
                            rw [allN_lf hk hbk.symm]
                        · have hbt : b = true := hb23
                          refine me1 (pc' := 155) (L' := [(0, .ref 102), (1, ii (hd : Int)), (2, ii (hd2 : Int)), (3, ii (vk v : Int)), (4, ii (vcl v : Int)), (5, zz b), (6, ii (k : Int))]) (S' := [ii (vk v : Int)]) dm_X12_isSame_154 rfl rfl rfl rfl ?_
                          refine me0 (pc' := 157) (S' := [ii 7, ii (vk v : Int)]) dm_X12_isSame_155 rfl rfl rfl rfl ?_
                          refine y_2ne (a := (vk v : Int)) (b := 7) (t := 181) (pc' := 160) dm_X12_isSame_157 rfl rfl (by omega) (fun hb24 => ?_) (fun hb24 => ?_)
                          · refine me1 (pc' := 182) (L' := [(0, .ref 102), (1, ii (hd : Int)), (2, ii (hd2 : Int)), (3, ii (vk v : Int)), (4, ii (vcl v : Int)), (5, zz b), (6, ii (k : Int))]) (S' := [.ref 102]) dm_X12_isSame_181 rfl rfl rfl rfl ?_
                            refine me1 (pc' := 183) (L' := [(0, .ref 102), (1, ii (hd : Int)), (2, ii (hd2 : Int)), (3, ii (vk v : Int)), (4, ii (vcl v : Int)), (5, zz b), (6, ii (k : Int))]) (S' := [ii (hd : Int), .ref 102]) dm_X12_isSame_182 rfl rfl rfl rfl ?_
                            refine me1 (pc' := 185) (L' := [(0, .ref 102), (1, ii (hd : Int)), (2, ii (hd2 : Int)), (3, ii (vk v : Int)), (4, ii (vcl v : Int)), (5, zz b), (6, ii (k : Int))]) (S' := [ii (k : Int), ii (hd : Int), .ref 102]) dm_X12_isSame_183 rfl rfl rfl rfl ?_
                            refine x_cp (pc' := 188) (v := .long (vn v k)) (rest := []) dm_X12_isSame_185 rfl (q_inv (As := [ii (hd : Int), ii (k : Int)]) (S := []) hm rfl rfl rfl) rfl rfl rfl (r_number_ (k := k) hm (by omega) hB0 hv (by omega) (by omega)) ?_
                            refine me1 (pc' := 189) (L' := [(0, .ref 102), (1, ii (hd : Int)), (2, ii (hd2 : Int)), (3, ii (vk v : Int)), (4, ii (vcl v : Int)), (5, zz b), (6, ii (k : Int))]) (S' := [.ref 102, .long (vn v k)]) dm_X12_isSame_188 rfl rfl rfl rfl ?_
                            refine me1 (pc' := 190) (L' := [(0, .ref 102), (1, ii (hd : Int)), (2, ii (hd2 : Int)), (3, ii (vk v : Int)), (4, ii (vcl v : Int)), (5, zz b), (6, ii (k : Int))]) (S' := [ii (hd2 : Int), .ref 102, .long (vn v k)]) dm_X12_isSame_189 rfl rfl rfl rfl ?_
                            refine me1 (pc' := 192) (L' := [(0, .ref 102), (1, ii (hd : Int)), (2, ii (hd2 : Int)), (3, ii (vk v : Int)), (4, ii (vcl v : Int)), (5, zz b), (6, ii (k : Int))]) (S' := [ii (k : Int), ii (hd2 : Int), .ref 102, .long (vn v k)]) dm_X12_isSame_190 rfl rfl rfl rfl ?_
                            refine x_cp (pc' := 195) (v := .long (vn w k)) (rest := [.long (vn v k)]) dm_X12_isSame_192 rfl (q_inv (As := [ii (hd2 : Int), ii (k : Int)]) (S := [.long (vn v k)]) hm rfl rfl rfl) rfl rfl rfl (r_number_ (k := k) hm (by omega) hB0 hw (by omega) (by omega)) ?_
                            refine y_lne (x := vn v k) (y := vn w k) (t := 203) (pc1 := 196) (pc' := 199) dm_X12_isSame_195 rfl dm_X12_isSame_196 rfl rfl (fun hb25 => ?_) (fun hb25 => ?_)
                            · refine me0 (pc' := 204) (S' := [ii 0]) dm_X12_isSame_203 rfl rfl rfl rfl ?_
                              refine me1 (pc' := 206) (L' := [(5, ii 0), (0, .ref 102), (1, ii (hd : Int)), (2, ii (hd2 : Int)), (3, ii (vk v : Int)), (4, ii (vcl v : Int)), (6, ii (k : Int))]) (S' := []) dm_X12_isSame_204 rfl rfl rfl rfl ?_
                              refine y_iinc (pc' := 209) (L' := [(6, ii ((k : Int) + 1)), (5, ii 0), (0, .ref 102), (1, ii (hd : Int)), (2, ii (hd2 : Int)), (3, ii (vk v : Int)), (4, ii (vcl v : Int))]) dm_X12_isSame_206 (y_incp (a := (k : Int)) (c := 1) rfl rfl (by decide)) rfl ?_
                              refine me2 (pc' := 142) (S' := []) dm_X12_isSame_209 rfl rfl rfl ?_
                              have hwq2 : vk v = 7 ∨ vq v = vq w := by by_cases z : vk v = 7; exact Or.inl z; exact Or.inr (vq_eq (by omega) (by omega) (by omega) (by omega) (by omega))
                              exact pg_sub (L := [(0, .ref 102), (1, ii (hd : Int)), (2, ii (hd2 : Int)), (3, ii (vk v : Int)), (4, ii (vcl v : Int)), (5, zz false), (6, ii ((k + 1) : Int))]) rfl rfl rfl (ih142 (vcl v - (k + 1)) (by omega) (k + 1) false rfl (by omega) (by show false = (allN k (vsF e v w) && vsF e v w k); unfold vsF; rw [if_neg (by omega), decide_eq_false (by assumption), Bool.and_false]))
                            · refine me0 (pc' := 200) (S' := [ii 1]) dm_X12_isSame_199 rfl rfl rfl rfl ?_
                              refine me2 (pc' := 204) (S' := [ii 1]) dm_X12_isSame_200 rfl rfl rfl ?_
                              refine me1 (pc' := 206) (L' := [(5, ii 1), (0, .ref 102), (1, ii (hd : Int)), (2, ii (hd2 : Int)), (3, ii (vk v : Int)), (4, ii (vcl v : Int)), (6, ii (k : Int))]) (S' := []) dm_X12_isSame_204 rfl rfl rfl rfl ?_
                              refine y_iinc (pc' := 209) (L' := [(6, ii ((k : Int) + 1)), (5, ii 1), (0, .ref 102), (1, ii (hd : Int)), (2, ii (hd2 : Int)), (3, ii (vk v : Int)), (4, ii (vcl v : Int))]) dm_X12_isSame_206 (y_incp (a := (k : Int)) (c := 1) rfl rfl (by decide)) rfl ?_
                              refine me2 (pc' := 142) (S' := []) dm_X12_isSame_209 rfl rfl rfl ?_
                              have hwq2 : vk v = 7 ∨ vq v = vq w := by by_cases z : vk v = 7; exact Or.inl z; exact Or.inr (vq_eq (by omega) (by omega) (by omega) (by omega) (by omega))
                              exact pg_sub (L := [(0, .ref 102), (1, ii (hd : Int)), (2, ii (hd2 : Int)), (3, ii (vk v : Int)), (4, ii (vcl v : Int)), (5, zz true), (6, ii ((k + 1) : Int))]) rfl rfl rfl (ih142 (vcl v - (k + 1)) (by omega) (k + 1) true rfl (by omega) (by show true = (allN k (vsF e v w) && vsF e v w k); rw [← hbk, hbt]; unfold vsF; rw [if_neg (by omega), decide_eq_true (by assumption)]; rfl))
                          · refine me1 (pc' := 161) (L' := [(0, .ref 102), (1, ii (hd : Int)), (2, ii (hd2 : Int)), (3, ii (vk v : Int)), (4, ii (vcl v : Int)), (5, zz b), (6, ii (k : Int))]) (S' := [.ref 102]) dm_X12_isSame_160 rfl rfl rfl rfl ?_
                            refine me1 (pc' := 162) (L' := [(0, .ref 102), (1, ii (hd : Int)), (2, ii (hd2 : Int)), (3, ii (vk v : Int)), (4, ii (vcl v : Int)), (5, zz b), (6, ii (k : Int))]) (S' := [.ref 102, .ref 102]) dm_X12_isSame_161 rfl rfl rfl rfl ?_
                            refine me1 (pc' := 163) (L' := [(0, .ref 102), (1, ii (hd : Int)), (2, ii (hd2 : Int)), (3, ii (vk v : Int)), (4, ii (vcl v : Int)), (5, zz b), (6, ii (k : Int))]) (S' := [ii (hd : Int), .ref 102, .ref 102]) dm_X12_isSame_162 rfl rfl rfl rfl ?_
                            refine me1 (pc' := 165) (L' := [(0, .ref 102), (1, ii (hd : Int)), (2, ii (hd2 : Int)), (3, ii (vk v : Int)), (4, ii (vcl v : Int)), (5, zz b), (6, ii (k : Int))]) (S' := [ii (k : Int), ii (hd : Int), .ref 102, .ref 102]) dm_X12_isSame_163 rfl rfl rfl rfl ?_
                            obtain ⟨p1, hp13, hp1lt, hp1v0, hcp1⟩ := r_value_ (xt := xt) (d := d - 1) (pre := pre) (post := post) (k := k) hm (by omega) hB0 hv (by omega) (by omega)
                            refine x_cp (pc' := 168) (v := ii (p1 : Int)) (rest := [.ref 102]) dm_X12_isSame_165 rfl (q_inv (As := [ii (hd : Int), ii (k : Int)]) (S := [.ref 102]) hm rfl rfl rfl) rfl rfl rfl (hcp1) ?_
                            refine me1 (pc' := 169) (L' := [(0, .ref 102), (1, ii (hd : Int)), (2, ii (hd2 : Int)), (3, ii (vk v : Int)), (4, ii (vcl v : Int)), (5, zz b), (6, ii (k : Int))]) (S' := [.ref 102, ii (p1 : Int), .ref 102]) dm_X12_isSame_168 rfl rfl rfl rfl ?_
                            refine me1 (pc' := 170) (L' := [(0, .ref 102), (1, ii (hd : Int)), (2, ii (hd2 : Int)), (3, ii (vk v : Int)), (4, ii (vcl v : Int)), (5, zz b), (6, ii (k : Int))]) (S' := [ii (hd2 : Int), .ref 102, ii (p1 : Int), .ref 102]) dm_X12_isSame_169 rfl rfl rfl rfl ?_
                            refine me1 (pc' := 172) (L' := [(0, .ref 102), (1, ii (hd : Int)), (2, ii (hd2 : Int)), (3, ii (vk v : Int)), (4, ii (vcl v : Int)), (5, zz b), (6, ii (k : Int))]) (S' := [ii (k : Int), ii (hd2 : Int), .ref 102, ii (p1 : Int), .ref 102]) dm_X12_isSame_170 rfl rfl rfl rfl ?_
                            obtain ⟨p2, hp23, hp2lt, hp2v0, hcp2⟩ := r_value_ (xt := xt) (d := d - 1) (pre := pre) (post := post) (k := k) hm (by omega) hB0 hw (by omega) (by omega)
                            refine x_cp (pc' := 175) (v := ii (p2 : Int)) (rest := [ii (p1 : Int), .ref 102]) dm_X12_isSame_172 rfl (q_inv (As := [ii (hd2 : Int), ii (k : Int)]) (S := [ii (p1 : Int), .ref 102]) hm rfl rfl rfl) rfl rfl rfl (hcp2) ?_
                            refine x_cp (pc' := 178) (v := zz (vsame e (vd v k) (vd w k))) (rest := []) dm_X12_isSame_175 rfl (q_inv (As := [ii (p1 : Int), ii (p2 : Int)]) (S := []) hm rfl rfl rfl) rfl rfl rfl (ih (by omega) hp1v0 hp2v0) ?_
                            refine me2 (pc' := 204) (S' := [zz (vsame e (vd v k) (vd w k))]) dm_X12_isSame_178 rfl rfl rfl ?_
                            refine me1 (pc' := 206) (L' := [(5, zz (vsame e (vd v k) (vd w k))), (0, .ref 102), (1, ii (hd : Int)), (2, ii (hd2 : Int)), (3, ii (vk v : Int)), (4, ii (vcl v : Int)), (6, ii (k : Int))]) (S' := []) dm_X12_isSame_204 rfl rfl rfl rfl ?_
                            refine y_iinc (pc' := 209) (L' := [(6, ii ((k : Int) + 1)), (5, zz (vsame e (vd v k) (vd w k))), (0, .ref 102), (1, ii (hd : Int)), (2, ii (hd2 : Int)), (3, ii (vk v : Int)), (4, ii (vcl v : Int))]) dm_X12_isSame_206 (y_incp (a := (k : Int)) (c := 1) rfl rfl (by decide)) rfl ?_
                            refine me2 (pc' := 142) (S' := []) dm_X12_isSame_209 rfl rfl rfl ?_
                            have hwq2 : vk v = 7 ∨ vq v = vq w := by by_cases z : vk v = 7; exact Or.inl z; exact Or.inr (vq_eq (by omega) (by omega) (by omega) (by omega) (by omega))
                            exact pg_sub (L := [(0, .ref 102), (1, ii (hd : Int)), (2, ii (hd2 : Int)), (3, ii (vk v : Int)), (4, ii (vcl v : Int)), (5, zz (vsame e (vd v k) (vd w k))), (6, ii ((k + 1) : Int))]) rfl rfl rfl (ih142 (vcl v - (k + 1)) (by omega) (k + 1) (vsame e (vd v k) (vd w k)) rfl (by omega) (by show vsame e (vd v k) (vd w k) = (allN k (vsF e v w) && vsF e v w k); rw [← hbk, hbt]; unfold vsF; rw [if_pos (by omega)]; rfl))
                  exact pg_sub (L := [(0, .ref 102), (1, ii (hd : Int)), (2, ii (hd2 : Int)), (3, ii (vk v : Int)), (4, ii (vcl v : Int)), (5, zz true), (6, ii (0 : Int))]) rfl rfl rfl (lp142 _ 0 true rfl (by omega) rfl)
                · refine me1 (pc' := 116) (L' := [(3, ii (vk v : Int)), (0, .ref 102), (1, ii (hd : Int)), (2, ii (hd2 : Int))]) (S' := [.ref 102]) dm_X12_isSame_115 rfl rfl rfl rfl ?_
                  refine me1 (pc' := 117) (L' := [(3, ii (vk v : Int)), (0, .ref 102), (1, ii (hd : Int)), (2, ii (hd2 : Int))]) (S' := [ii (hd : Int), .ref 102]) dm_X12_isSame_116 rfl rfl rfl rfl ?_
                  refine x_cp (pc' := 120) (v := ii (vm v : Int)) (rest := []) dm_X12_isSame_117 rfl (q_inv (As := [ii (hd : Int)]) (S := []) hm rfl rfl rfl) rfl rfl rfl (r_many_ hm (by omega) hB0 hv) ?_
                  refine me1 (pc' := 121) (L' := [(3, ii (vk v : Int)), (0, .ref 102), (1, ii (hd : Int)), (2, ii (hd2 : Int))]) (S' := [.ref 102, ii (vm v : Int)]) dm_X12_isSame_120 rfl rfl rfl rfl ?_
                  refine me1 (pc' := 122) (L' := [(3, ii (vk v : Int)), (0, .ref 102), (1, ii (hd : Int)), (2, ii (hd2 : Int))]) (S' := [ii (hd : Int), .ref 102, ii (vm v : Int)]) dm_X12_isSame_121 rfl rfl rfl rfl ?_
                  refine x_cp (pc' := 125) (v := ii (vc v : Int)) (rest := [ii (vm v : Int)]) dm_X12_isSame_122 rfl (q_inv (As := [ii (hd : Int)]) (S := [ii (vm v : Int)]) hm rfl rfl rfl) rfl rfl rfl (r_columns_ hm (by omega) hB0 hv) ?_
                  refine y_imul (a := (vm v : Int)) (b := (vc v : Int)) dm_X12_isSame_125 (pc' := 126) rfl ?_
                  refine me2 (pc' := 134) (S' := [ii ((vm v : Int) * (vc v : Int))]) dm_X12_isSame_126 rfl rfl rfl ?_
                  refine pg_st (S' := [ii (vcl v : Int)]) (congrArg (fun z => [ii z]) (vcl_6 (by omega))) ?_
                  refine me1 (pc' := 136) (L' := [(4, ii (vcl v : Int)), (3, ii (vk v : Int)), (0, .ref 102), (1, ii (hd : Int)), (2, ii (hd2 : Int))]) (S' := []) dm_X12_isSame_134 rfl rfl rfl rfl ?_
                  refine me0 (pc' := 137) (S' := [ii 1]) dm_X12_isSame_136 rfl rfl rfl rfl ?_
                  refine me1 (pc' := 139) (L' := [(5, ii 1), (4, ii (vcl v : Int)), (3, ii (vk v : Int)), (0, .ref 102), (1, ii (hd : Int)), (2, ii (hd2 : Int))]) (S' := []) dm_X12_isSame_137 rfl rfl rfl rfl ?_
                  refine me0 (pc' := 140) (S' := [ii 0]) dm_X12_isSame_139 rfl rfl rfl rfl ?_
                  refine me1 (pc' := 142) (L' := [(6, ii 0), (5, ii 1), (4, ii (vcl v : Int)), (3, ii (vk v : Int)), (0, .ref 102), (1, ii (hd : Int)), (2, ii (hd2 : Int))]) (S' := []) dm_X12_isSame_140 rfl rfl rfl rfl ?_
                  have hwq2 : vk v = 7 ∨ vq v = vq w := by by_cases z : vk v = 7; exact Or.inl z; exact Or.inr (vq_eq (by omega) (by omega) (by omega) (by omega) (by omega))
                  have lp142 : ∀ (n142 : Nat) (k : Nat) (b : Bool), vcl v - k = n142 → (k ≤ vcl v) → (b = allN k (vsF e v w)) → pgE xt (d - 1) 12 7 false (Option.some Jvm.ClassFile.FieldType.boolean) (mj_dec prog_14_method_23_code) 142 [(0, .ref 102), (1, ii (hd : Int)), (2, ii (hd2 : Int)), (3, ii (vk v : Int)), (4, ii (vcl v : Int)), (5, zz b), (6, ii (k : Int))] [] (rI pre post s.1 s.2.1 s.2.2.1 s.2.2.2) (fun r h' => r = some (zz (vsame (e + 1) v w)) ∧ h' = rS pre post s) := by
                    intro n142
                    induction n142 using Nat.strongRecOn with
                    | ind n142 ih142 =>
                      intro k b hm142 hk hbk
                      refine me1 (pc' := 144) (L' := [(0, .ref 102), (1, ii (hd : Int)), (2, ii (hd2 : Int)), (3, ii (vk v : Int)), (4, ii (vcl v : Int)), (5, zz b), (6, ii (k : Int))]) (S' := [ii (k : Int)]) dm_X12_isSame_142 rfl rfl rfl rfl ?_
                      refine me1 (pc' := 146) (L' := [(0, .ref 102), (1, ii (hd : Int)), (2, ii (hd2 : Int)), (3, ii (vk v : Int)), (4, ii (vcl v : Int)), (5, zz b), (6, ii (k : Int))]) (S' := [ii (vcl v : Int), ii (k : Int)]) dm_X12_isSame_144 rfl rfl rfl rfl ?_
                      refine y_2ge (a := (k : Int)) (b := (vcl v : Int)) (t := 212) (pc' := 149) dm_X12_isSame_146 rfl rfl (by omega) (fun hb26 => ?_) (fun hb26 => ?_)
                      · refine me1 (pc' := 214) (L' := [(0, .ref 102), (1, ii (hd : Int)), (2, ii (hd2 : Int)), (3, ii (vk v : Int)), (4, ii (vcl v : Int)), (5, zz b), (6, ii (k : Int))]) (S' := [zz b]) dm_X12_isSame_212 rfl rfl rfl rfl ?_
                        refine y_ret (r := some (zz b)) dm_X12_isSame_214 (y_retz _) rfl rfl ?_
                        refine ⟨congrArg some ?_, rfl⟩
                        rw [vsame_F (by omega) (by omega) (by omega) (by omega) (by omega)]
                        by_cases hkn : k = vcl v
                        · rw [hbk, hkn]
                        · have hbf : b = false := by first | assumption | omega
                          rw [hbf] at hbk ⊢
                          rw [allN_lf hk hbk.symm]
                      · refine me1 (pc' := 151) (L' := [(0, .ref 102), (1, ii (hd : Int)), (2, ii (hd2 : Int)), (3, ii (vk v : Int)), (4, ii (vcl v : Int)), (5, zz b), (6, ii (k : Int))]) (S' := [zz b]) dm_X12_isSame_149 rfl rfl rfl rfl ?_
                        refine y_zeq (c := b) (t := 212) (pc' := 154) dm_X12_isSame_151 rfl rfl (fun hb27 => ?_) (fun hb27 => ?_)
                        · refine me1 (pc' := 214) (L' := [(0, .ref 102), (1, ii (hd : Int)), (2, ii (hd2 : Int)), (3, ii (vk v : Int)), (4, ii (vcl v : Int)), (5, zz b), (6, ii (k : Int))]) (S' := [zz b]) dm_X12_isSame_212 rfl rfl rfl rfl ?_
                          refine y_ret (r := some (zz b)) dm_X12_isSame_214 (y_retz _) rfl rfl ?_
                          refine ⟨congrArg some ?_, rfl⟩
                          rw [vsame_F (by omega) (by omega) (by omega) (by omega) (by omega)]
                          by_cases hkn : k = vcl v
                          · rw [hbk, hkn]
                          · have hbf : b = false := by first | assumption | omega
                            rw [hbf] at hbk ⊢
                            rw [allN_lf hk hbk.symm]
                        · have hbt : b = true := hb27
                          refine me1 (pc' := 155) (L' := [(0, .ref 102), (1, ii (hd : Int)), (2, ii (hd2 : Int)), (3, ii (vk v : Int)), (4, ii (vcl v : Int)), (5, zz b), (6, ii (k : Int))]) (S' := [ii (vk v : Int)]) dm_X12_isSame_154 rfl rfl rfl rfl ?_
                          refine me0 (pc' := 157) (S' := [ii 7, ii (vk v : Int)]) dm_X12_isSame_155 rfl rfl rfl rfl ?_
                          refine y_2ne (a := (vk v : Int)) (b := 7) (t := 181) (pc' := 160) dm_X12_isSame_157 rfl rfl (by omega) (fun hb28 => ?_) (fun hb28 => ?_)
                          · refine me1 (pc' := 182) (L' := [(0, .ref 102), (1, ii (hd : Int)), (2, ii (hd2 : Int)), (3, ii (vk v : Int)), (4, ii (vcl v : Int)), (5, zz b), (6, ii (k : Int))]) (S' := [.ref 102]) dm_X12_isSame_181 rfl rfl rfl rfl ?_
                            refine me1 (pc' := 183) (L' := [(0, .ref 102), (1, ii (hd : Int)), (2, ii (hd2 : Int)), (3, ii (vk v : Int)), (4, ii (vcl v : Int)), (5, zz b), (6, ii (k : Int))]) (S' := [ii (hd : Int), .ref 102]) dm_X12_isSame_182 rfl rfl rfl rfl ?_
                            refine me1 (pc' := 185) (L' := [(0, .ref 102), (1, ii (hd : Int)), (2, ii (hd2 : Int)), (3, ii (vk v : Int)), (4, ii (vcl v : Int)), (5, zz b), (6, ii (k : Int))]) (S' := [ii (k : Int), ii (hd : Int), .ref 102]) dm_X12_isSame_183 rfl rfl rfl rfl ?_
                            refine x_cp (pc' := 188) (v := .long (vn v k)) (rest := []) dm_X12_isSame_185 rfl (q_inv (As := [ii (hd : Int), ii (k : Int)]) (S := []) hm rfl rfl rfl) rfl rfl rfl (r_number_ (k := k) hm (by omega) hB0 hv (by omega) (by omega)) ?_
                            refine me1 (pc' := 189) (L' := [(0, .ref 102), (1, ii (hd : Int)), (2, ii (hd2 : Int)), (3, ii (vk v : Int)), (4, ii (vcl v : Int)), (5, zz b), (6, ii (k : Int))]) (S' := [.ref 102, .long (vn v k)]) dm_X12_isSame_188 rfl rfl rfl rfl ?_
                            refine me1 (pc' := 190) (L' := [(0, .ref 102), (1, ii (hd : Int)), (2, ii (hd2 : Int)), (3, ii (vk v : Int)), (4, ii (vcl v : Int)), (5, zz b), (6, ii (k : Int))]) (S' := [ii (hd2 : Int), .ref 102, .long (vn v k)]) dm_X12_isSame_189 rfl rfl rfl rfl ?_
                            refine me1 (pc' := 192) (L' := [(0, .ref 102), (1, ii (hd : Int)), (2, ii (hd2 : Int)), (3, ii (vk v : Int)), (4, ii (vcl v : Int)), (5, zz b), (6, ii (k : Int))]) (S' := [ii (k : Int), ii (hd2 : Int), .ref 102, .long (vn v k)]) dm_X12_isSame_190 rfl rfl rfl rfl ?_
                            refine x_cp (pc' := 195) (v := .long (vn w k)) (rest := [.long (vn v k)]) dm_X12_isSame_192 rfl (q_inv (As := [ii (hd2 : Int), ii (k : Int)]) (S := [.long (vn v k)]) hm rfl rfl rfl) rfl rfl rfl (r_number_ (k := k) hm (by omega) hB0 hw (by omega) (by omega)) ?_
                            refine y_lne (x := vn v k) (y := vn w k) (t := 203) (pc1 := 196) (pc' := 199) dm_X12_isSame_195 rfl dm_X12_isSame_196 rfl rfl (fun hb29 => ?_) (fun hb29 => ?_)
                            · refine me0 (pc' := 204) (S' := [ii 0]) dm_X12_isSame_203 rfl rfl rfl rfl ?_
                              refine me1 (pc' := 206) (L' := [(5, ii 0), (0, .ref 102), (1, ii (hd : Int)), (2, ii (hd2 : Int)), (3, ii (vk v : Int)), (4, ii (vcl v : Int)), (6, ii (k : Int))]) (S' := []) dm_X12_isSame_204 rfl rfl rfl rfl ?_
                              refine y_iinc (pc' := 209) (L' := [(6, ii ((k : Int) + 1)), (5, ii 0), (0, .ref 102), (1, ii (hd : Int)), (2, ii (hd2 : Int)), (3, ii (vk v : Int)), (4, ii (vcl v : Int))]) dm_X12_isSame_206 (y_incp (a := (k : Int)) (c := 1) rfl rfl (by decide)) rfl ?_
                              refine me2 (pc' := 142) (S' := []) dm_X12_isSame_209 rfl rfl rfl ?_
                              have hwq2 : vk v = 7 ∨ vq v = vq w := by by_cases z : vk v = 7; exact Or.inl z; exact Or.inr (vq_eq (by omega) (by omega) (by omega) (by omega) (by omega))
                              exact pg_sub (L := [(0, .ref 102), (1, ii (hd : Int)), (2, ii (hd2 : Int)), (3, ii (vk v : Int)), (4, ii (vcl v : Int)), (5, zz false), (6, ii ((k + 1) : Int))]) rfl rfl rfl (ih142 (vcl v - (k + 1)) (by omega) (k + 1) false rfl (by omega) (by show false = (allN k (vsF e v w) && vsF e v w k); unfold vsF; rw [if_neg (by omega), decide_eq_false (by assumption), Bool.and_false]))
                            · refine me0 (pc' := 200) (S' := [ii 1]) dm_X12_isSame_199 rfl rfl rfl rfl ?_
                              refine me2 (pc' := 204) (S' := [ii 1]) dm_X12_isSame_200 rfl rfl rfl ?_
                              refine me1 (pc' := 206) (L' := [(5, ii 1), (0, .ref 102), (1, ii (hd : Int)), (2, ii (hd2 : Int)), (3, ii (vk v : Int)), (4, ii (vcl v : Int)), (6, ii (k : Int))]) (S' := []) dm_X12_isSame_204 rfl rfl rfl rfl ?_
                              refine y_iinc (pc' := 209) (L' := [(6, ii ((k : Int) + 1)), (5, ii 1), (0, .ref 102), (1, ii (hd : Int)), (2, ii (hd2 : Int)), (3, ii (vk v : Int)), (4, ii (vcl v : Int))]) dm_X12_isSame_206 (y_incp (a := (k : Int)) (c := 1) rfl rfl (by decide)) rfl ?_
                              refine me2 (pc' := 142) (S' := []) dm_X12_isSame_209 rfl rfl rfl ?_
                              have hwq2 : vk v = 7 ∨ vq v = vq w := by by_cases z : vk v = 7; exact Or.inl z; exact Or.inr (vq_eq (by omega) (by omega) (by omega) (by omega) (by omega))
                              exact pg_sub (L := [(0, .ref 102), (1, ii (hd : Int)), (2, ii (hd2 : Int)), (3, ii (vk v : Int)), (4, ii (vcl v : Int)), (5, zz true), (6, ii ((k + 1) : Int))]) rfl rfl rfl (ih142 (vcl v - (k + 1)) (by omega) (k + 1) true rfl (by omega) (by show true = (allN k (vsF e v w) && vsF e v w k); rw [← hbk, hbt]; unfold vsF; rw [if_neg (by omega), decide_eq_true (by assumption)]; rfl))
                          · refine me1 (pc' := 161) (L' := [(0, .ref 102), (1, ii (hd : Int)), (2, ii (hd2 : Int)), (3, ii (vk v : Int)), (4, ii (vcl v : Int)), (5, zz b), (6, ii (k : Int))]) (S' := [.ref 102]) dm_X12_isSame_160 rfl rfl rfl rfl ?_
                            refine me1 (pc' := 162) (L' := [(0, .ref 102), (1, ii (hd : Int)), (2, ii (hd2 : Int)), (3, ii (vk v : Int)), (4, ii (vcl v : Int)), (5, zz b), (6, ii (k : Int))]) (S' := [.ref 102, .ref 102]) dm_X12_isSame_161 rfl rfl rfl rfl ?_
                            refine me1 (pc' := 163) (L' := [(0, .ref 102), (1, ii (hd : Int)), (2, ii (hd2 : Int)), (3, ii (vk v : Int)), (4, ii (vcl v : Int)), (5, zz b), (6, ii (k : Int))]) (S' := [ii (hd : Int), .ref 102, .ref 102]) dm_X12_isSame_162 rfl rfl rfl rfl ?_
                            refine me1 (pc' := 165) (L' := [(0, .ref 102), (1, ii (hd : Int)), (2, ii (hd2 : Int)), (3, ii (vk v : Int)), (4, ii (vcl v : Int)), (5, zz b), (6, ii (k : Int))]) (S' := [ii (k : Int), ii (hd : Int), .ref 102, .ref 102]) dm_X12_isSame_163 rfl rfl rfl rfl ?_
                            obtain ⟨p1, hp13, hp1lt, hp1v0, hcp1⟩ := r_value_ (xt := xt) (d := d - 1) (pre := pre) (post := post) (k := k) hm (by omega) hB0 hv (by omega) (by omega)
                            refine x_cp (pc' := 168) (v := ii (p1 : Int)) (rest := [.ref 102]) dm_X12_isSame_165 rfl (q_inv (As := [ii (hd : Int), ii (k : Int)]) (S := [.ref 102]) hm rfl rfl rfl) rfl rfl rfl (hcp1) ?_
                            refine me1 (pc' := 169) (L' := [(0, .ref 102), (1, ii (hd : Int)), (2, ii (hd2 : Int)), (3, ii (vk v : Int)), (4, ii (vcl v : Int)), (5, zz b), (6, ii (k : Int))]) (S' := [.ref 102, ii (p1 : Int), .ref 102]) dm_X12_isSame_168 rfl rfl rfl rfl ?_
                            refine me1 (pc' := 170) (L' := [(0, .ref 102), (1, ii (hd : Int)), (2, ii (hd2 : Int)), (3, ii (vk v : Int)), (4, ii (vcl v : Int)), (5, zz b), (6, ii (k : Int))]) (S' := [ii (hd2 : Int), .ref 102, ii (p1 : Int), .ref 102]) dm_X12_isSame_169 rfl rfl rfl rfl ?_
                            refine me1 (pc' := 172) (L' := [(0, .ref 102), (1, ii (hd : Int)), (2, ii (hd2 : Int)), (3, ii (vk v : Int)), (4, ii (vcl v : Int)), (5, zz b), (6, ii (k : Int))]) (S' := [ii (k : Int), ii (hd2 : Int), .ref 102, ii (p1 : Int), .ref 102]) dm_X12_isSame_170 rfl rfl rfl rfl ?_
                            obtain ⟨p2, hp23, hp2lt, hp2v0, hcp2⟩ := r_value_ (xt := xt) (d := d - 1) (pre := pre) (post := post) (k := k) hm (by omega) hB0 hw (by omega) (by omega)
                            refine x_cp (pc' := 175) (v := ii (p2 : Int)) (rest := [ii (p1 : Int), .ref 102]) dm_X12_isSame_172 rfl (q_inv (As := [ii (hd2 : Int), ii (k : Int)]) (S := [ii (p1 : Int), .ref 102]) hm rfl rfl rfl) rfl rfl rfl (hcp2) ?_
                            refine x_cp (pc' := 178) (v := zz (vsame e (vd v k) (vd w k))) (rest := []) dm_X12_isSame_175 rfl (q_inv (As := [ii (p1 : Int), ii (p2 : Int)]) (S := []) hm rfl rfl rfl) rfl rfl rfl (ih (by omega) hp1v0 hp2v0) ?_
                            refine me2 (pc' := 204) (S' := [zz (vsame e (vd v k) (vd w k))]) dm_X12_isSame_178 rfl rfl rfl ?_
                            refine me1 (pc' := 206) (L' := [(5, zz (vsame e (vd v k) (vd w k))), (0, .ref 102), (1, ii (hd : Int)), (2, ii (hd2 : Int)), (3, ii (vk v : Int)), (4, ii (vcl v : Int)), (6, ii (k : Int))]) (S' := []) dm_X12_isSame_204 rfl rfl rfl rfl ?_
                            refine y_iinc (pc' := 209) (L' := [(6, ii ((k : Int) + 1)), (5, zz (vsame e (vd v k) (vd w k))), (0, .ref 102), (1, ii (hd : Int)), (2, ii (hd2 : Int)), (3, ii (vk v : Int)), (4, ii (vcl v : Int))]) dm_X12_isSame_206 (y_incp (a := (k : Int)) (c := 1) rfl rfl (by decide)) rfl ?_
                            refine me2 (pc' := 142) (S' := []) dm_X12_isSame_209 rfl rfl rfl ?_
                            have hwq2 : vk v = 7 ∨ vq v = vq w := by by_cases z : vk v = 7; exact Or.inl z; exact Or.inr (vq_eq (by omega) (by omega) (by omega) (by omega) (by omega))
                            exact pg_sub (L := [(0, .ref 102), (1, ii (hd : Int)), (2, ii (hd2 : Int)), (3, ii (vk v : Int)), (4, ii (vcl v : Int)), (5, zz (vsame e (vd v k) (vd w k))), (6, ii ((k + 1) : Int))]) rfl rfl rfl (ih142 (vcl v - (k + 1)) (by omega) (k + 1) (vsame e (vd v k) (vd w k)) rfl (by omega) (by show vsame e (vd v k) (vd w k) = (allN k (vsF e v w) && vsF e v w k); rw [← hbk, hbt]; unfold vsF; rw [if_pos (by omega)]; rfl))
                  exact pg_sub (L := [(0, .ref 102), (1, ii (hd : Int)), (2, ii (hd2 : Int)), (3, ii (vk v : Int)), (4, ii (vcl v : Int)), (5, zz true), (6, ii (0 : Int))]) rfl rfl rfl (lp142 _ 0 true rfl (by omega) rfl)
              · refine me0 (pc' := 108) (S' := [ii 0]) dm_X12_isSame_107 rfl rfl rfl rfl ?_
                refine y_ret (r := some (ii 0)) dm_X12_isSame_108 rfl rfl rfl ?_
                refine ⟨congrArg some ?_, rfl⟩
                rw [vsame_no (by omega) (by omega) (by omega)]; rfl
          · replace hb18 := dF hb18
            refine me2 (pc' := 79) (S' := []) dm_X12_isSame_67 rfl rfl rfl ?_
            refine me0 (pc' := 80) (S' := [ii 0]) dm_X12_isSame_79 rfl rfl rfl rfl ?_
            refine y_ret (r := some (ii 0)) dm_X12_isSame_80 rfl rfl rfl ?_
            refine ⟨congrArg some ?_, rfl⟩
            rw [vsame_no (by omega) (by omega) (by omega)]; rfl
      · refine me1 (pc' := 21) (L' := [(3, ii (vk v : Int)), (0, .ref 102), (1, ii (hd : Int)), (2, ii (hd2 : Int))]) (S' := [ii (vk v : Int)]) dm_X12_isSame_20 rfl rfl rfl rfl ?_
        refine me1 (pc' := 22) (L' := [(3, ii (vk v : Int)), (0, .ref 102), (1, ii (hd : Int)), (2, ii (hd2 : Int))]) (S' := [.ref 102, ii (vk v : Int)]) dm_X12_isSame_21 rfl rfl rfl rfl ?_
        refine me1 (pc' := 23) (L' := [(3, ii (vk v : Int)), (0, .ref 102), (1, ii (hd : Int)), (2, ii (hd2 : Int))]) (S' := [ii (hd2 : Int), .ref 102, ii (vk v : Int)]) dm_X12_isSame_22 rfl rfl rfl rfl ?_
        refine x_cp (pc' := 26) (v := ii (vk w : Int)) (rest := [ii (vk v : Int)]) dm_X12_isSame_23 rfl (q_inv (As := [ii (hd2 : Int)]) (S := [ii (vk v : Int)]) hm rfl rfl rfl) rfl rfl rfl (r_kindOf_ hm (by omega) hB0 hw) ?_
        refine y_2ne (a := (vk v : Int)) (b := (vk w : Int)) (t := 49) (pc' := 29) dm_X12_isSame_26 rfl rfl (by omega) (fun hb30 => ?_) (fun hb30 => ?_)
        · refine me0 (pc' := 50) (S' := [ii 0]) dm_X12_isSame_49 rfl rfl rfl rfl ?_
          refine y_ret (r := some (ii 0)) dm_X12_isSame_50 rfl rfl rfl ?_
          refine ⟨congrArg some ?_, rfl⟩
          first | (rw [vsame_1 (by omega), decide_eq_false (show ¬ vk v = vk w by omega)]; rfl) | (rw [vsame_1 (by omega), decide_eq_false (show ¬ vn v 0 = vn w 0 by assumption), Bool.and_false]; rfl)
        · refine me1 (pc' := 30) (L' := [(3, ii (vk v : Int)), (0, .ref 102), (1, ii (hd : Int)), (2, ii (hd2 : Int))]) (S' := [.ref 102]) dm_X12_isSame_29 rfl rfl rfl rfl ?_
          refine me1 (pc' := 31) (L' := [(3, ii (vk v : Int)), (0, .ref 102), (1, ii (hd : Int)), (2, ii (hd2 : Int))]) (S' := [ii (hd : Int), .ref 102]) dm_X12_isSame_30 rfl rfl rfl rfl ?_
          refine me0 (pc' := 32) (S' := [ii 0, ii (hd : Int), .ref 102]) dm_X12_isSame_31 rfl rfl rfl rfl ?_
          refine x_cp (pc' := 35) (v := .long (vn v 0)) (rest := []) dm_X12_isSame_32 rfl (q_inv (As := [ii (hd : Int), ii 0]) (S := []) hm rfl rfl rfl) rfl rfl rfl (r_number_ (k := 0) hm (by omega) hB0 hv (by omega) (by omega)) ?_
          refine me1 (pc' := 36) (L' := [(3, ii (vk v : Int)), (0, .ref 102), (1, ii (hd : Int)), (2, ii (hd2 : Int))]) (S' := [.ref 102, .long (vn v 0)]) dm_X12_isSame_35 rfl rfl rfl rfl ?_
          refine me1 (pc' := 37) (L' := [(3, ii (vk v : Int)), (0, .ref 102), (1, ii (hd : Int)), (2, ii (hd2 : Int))]) (S' := [ii (hd2 : Int), .ref 102, .long (vn v 0)]) dm_X12_isSame_36 rfl rfl rfl rfl ?_
          refine me0 (pc' := 38) (S' := [ii 0, ii (hd2 : Int), .ref 102, .long (vn v 0)]) dm_X12_isSame_37 rfl rfl rfl rfl ?_
          refine x_cp (pc' := 41) (v := .long (vn w 0)) (rest := [.long (vn v 0)]) dm_X12_isSame_38 rfl (q_inv (As := [ii (hd2 : Int), ii 0]) (S := [.long (vn v 0)]) hm rfl rfl rfl) rfl rfl rfl (r_number_ (k := 0) hm (by omega) hB0 hw (by omega) (by omega)) ?_
          refine y_lne (x := vn v 0) (y := vn w 0) (t := 49) (pc1 := 42) (pc' := 45) dm_X12_isSame_41 rfl dm_X12_isSame_42 rfl rfl (fun hb31 => ?_) (fun hb31 => ?_)
          · refine me0 (pc' := 50) (S' := [ii 0]) dm_X12_isSame_49 rfl rfl rfl rfl ?_
            refine y_ret (r := some (ii 0)) dm_X12_isSame_50 rfl rfl rfl ?_
            refine ⟨congrArg some ?_, rfl⟩
            first | (rw [vsame_1 (by omega), decide_eq_false (show ¬ vk v = vk w by omega)]; rfl) | (rw [vsame_1 (by omega), decide_eq_false (show ¬ vn v 0 = vn w 0 by assumption), Bool.and_false]; rfl)
          · refine me0 (pc' := 46) (S' := [ii 1]) dm_X12_isSame_45 rfl rfl rfl rfl ?_
            refine me2 (pc' := 50) (S' := [ii 1]) dm_X12_isSame_46 rfl rfl rfl ?_
            refine y_ret (r := some (ii 1)) dm_X12_isSame_50 rfl rfl rfl ?_
            refine ⟨congrArg some ?_, rfl⟩
            rw [vsame_1 (by omega), decide_eq_true (show vk v = vk w by omega), decide_eq_true (by assumption)]; rfl
