theorem vq_eq {a b : VV} (h1 : 2 ≤ vk a) (h2 : 2 ≤ vk b) (hn : ((vk a = 2 ∨ vk a = 4 ∨ vk a = 5) ∧ (vk b = 2 ∨ vk b = 4 ∨ vk b = 5)) ∨ (¬ (vk a = 2 ∨ vk a = 4 ∨ vk a = 5) ∧ vk a = vk b)) (hm : vm a = vm b) (hc : vc a = vc b) : vq a = vq b := by
  unfold vq
  rw [hm, hc]
  rcases hn with ⟨c1, c2⟩ | ⟨c1, c2⟩
  · rw [if_neg (by omega), if_neg (by omega), if_neg (by omega), if_neg (by omega)]
  · rw [c2]
theorem vsame_symm (d : Nat) : ∀ a b : VV, vsame d a b = vsame d b a := by
  induction d with
  | zero => intro a b; rfl
  | succ d ih =>
    intro a b
    by_cases h1 : vk a ≤ 1 ∨ vk b ≤ 1
    · rw [vsame_1 h1, vsame_1 (Or.comm.mp h1)]
      congr 1
      · exact decide_eq_decide.mpr eq_comm
      · exact decide_eq_decide.mpr eq_comm
    · by_cases h2 : ((vk a = 2 ∨ vk a = 4 ∨ vk a = 5) ∧ (vk b = 2 ∨ vk b = 4 ∨ vk b = 5)) ∨ (¬ (vk a = 2 ∨ vk a = 4 ∨ vk a = 5) ∧ vk a = vk b)
      · by_cases h3 : vm a = vm b ∧ vc a = vc b
        · rw [vsame_yes (by omega) (by omega) h2 h3.1 h3.2, vsame_yes (a := b) (b := a) (by omega) (by omega) (by omega) h3.1.symm h3.2.symm, ← vq_eq (by omega) (by omega) h2 h3.1 h3.2, ← h3.1]
          by_cases h7 : vk a = 7
          · rw [if_pos h7, if_pos (by omega)]
            exact allN_congr (fun k _ => ih _ _)
          · rw [if_neg h7, if_neg (by omega)]
            exact allN_congr (fun k _ => decide_eq_decide.mpr eq_comm)
        · rw [vsame_no (by omega) (by omega) (by omega), vsame_no (by omega) (by omega) (by omega)]
      · rw [vsame_no (by omega) (by omega) (by omega), vsame_no (by omega) (by omega) (by omega)]
theorem vsame_1t {d : Nat} {a b : VV} (h : vk a ≤ 1) (hk : vk a = vk b) (hn : cnum a = cnum b) : vsame (d + 1) a b = true := by
  unfold cnum at hn
  rw [if_pos h, if_pos (by omega)] at hn
  rw [vsame_1 (Or.inl h), decide_eq_true hk, decide_eq_true hn]; rfl
theorem vsame_1k {d : Nat} {a b : VV} (h : vk a ≤ 1 ∨ vk b ≤ 1) (hk : vk a ≠ vk b) : vsame (d + 1) a b = false := by
  rw [vsame_1 h, decide_eq_false hk]; rfl
theorem vsame_1n {d : Nat} {a b : VV} (h : vk a ≤ 1 ∨ vk b ≤ 1) (hn : cnum a ≠ cnum b) : vsame (d + 1) a b = false := by
  by_cases hk : vk a = vk b
  · unfold cnum at hn
    rw [if_pos (by omega), if_pos (by omega)] at hn
    rw [vsame_1 h, decide_eq_false hn, Bool.and_false]
  · exact vsame_1k h hk
/-- columns: of tables alone -/
theorem vw1_c {v : VV} (h : vw1 v) : (vk v = 6 ∧ 1 ≤ vc v ∧ 1 ≤ vm v ∧ vm v ≤ 12) ∨ (vk v ≠ 6 ∧ vc v = 0) := by
  obtain ⟨h0, h1, h2, h3, h4, -⟩ := h
  by_cases c : vk v = 6
  · obtain ⟨a1, a2, a3, -⟩ := h3 c
    exact Or.inl ⟨c, a3, a1, a2⟩
  · refine Or.inr ⟨c, ?_⟩
    by_cases a : vk v ≤ 1
    · exact (h1 a).2
    · by_cases b : vk v ≤ 5
      · exact (h2 (by omega) b).2
      · exact (h4 (by omega)).2
/-- an item of no nest and no table -/
theorem vit_one {v : VV} {i : Nat} (hw : vw1 v) (h : vk v ≤ 5) (hi : vk v ≤ 1 ∨ i < vm v) : vk (vit v i) ≤ 1 ∧ (vk (vit v i) = 1 ↔ vk v = 1 ∨ vk v = 3) ∧ cnum (vit v i) = vnum v (i : Int) := by
  by_cases a : vk v ≤ 1
  · rw [vit_1 a]
    refine ⟨a, by omega, ?_⟩
    unfold cnum
    rw [if_pos a, vnum_1 a]
  · rw [vit_r (by omega) h]
    have hq : vq v = vm v := by unfold vq; rw [if_neg (by omega), if_neg (by omega)]
    have e2 : vnum v (i : Int) = vn v i := by rw [vnum_r (by omega) (by omega) (by omega)]; rfl
    rw [e2]
    by_cases c : vk v = 3
    · rw [if_pos c]
      exact ⟨Nat.le_refl 1, ⟨fun _ => Or.inr c, fun _ => rfl⟩, rfl⟩
    · rw [if_neg c]
      refine ⟨Nat.zero_le 1, ⟨fun z => ?_, fun z => by omega⟩, rfl⟩
      have z1 : (0 : Nat) = 1 := z
      omega
set_option maxRecDepth 20000 in
theorem pm_X10_same : mj_mmof pg_ms 124 = some ((⟨"ArrayCalculator$Value", "same", "(LArrayCalculator$Value;LArrayCalculator$Value;)Z"⟩, prog_12_method_27_code, 3, (Option.some Jvm.ClassFile.FieldType.boolean)), 10, false, mj_dec prog_12_method_27_code) := rfl
theorem dm_X10_same_0 : mj_dec prog_12_method_27_code 0 = some (.aload_n 0, 1) := by decide +kernel
theorem dm_X10_same_1 : mj_dec prog_12_method_27_code 1 = some (.invokevirtual 69, 3) := by decide +kernel
theorem dm_X10_same_4 : mj_dec prog_12_method_27_code 4 = some (.ifCond .ne 10, 3) := by decide +kernel
theorem dm_X10_same_7 : mj_dec prog_12_method_27_code 7 = some (.aload_n 1, 1) := by decide +kernel
theorem dm_X10_same_8 : mj_dec prog_12_method_27_code 8 = some (.invokevirtual 69, 3) := by decide +kernel
theorem dm_X10_same_11 : mj_dec prog_12_method_27_code 11 = some (.ifCond .eq 32, 3) := by decide +kernel
theorem dm_X10_same_14 : mj_dec prog_12_method_27_code 14 = some (.aload_n 0, 1) := by decide +kernel
theorem dm_X10_same_15 : mj_dec prog_12_method_27_code 15 = some (.getfield 9, 3) := by decide +kernel
theorem dm_X10_same_18 : mj_dec prog_12_method_27_code 18 = some (.aload_n 1, 1) := by decide +kernel
theorem dm_X10_same_19 : mj_dec prog_12_method_27_code 19 = some (.getfield 9, 3) := by decide +kernel
theorem dm_X10_same_22 : mj_dec prog_12_method_27_code 22 = some (.if_icmp .ne 19, 3) := by decide +kernel
theorem dm_X10_same_25 : mj_dec prog_12_method_27_code 25 = some (.aload_n 0, 1) := by decide +kernel
theorem dm_X10_same_26 : mj_dec prog_12_method_27_code 26 = some (.getfield 15, 3) := by decide +kernel
theorem dm_X10_same_29 : mj_dec prog_12_method_27_code 29 = some (.aload_n 1, 1) := by decide +kernel
theorem dm_X10_same_30 : mj_dec prog_12_method_27_code 30 = some (.getfield 15, 3) := by decide +kernel
theorem dm_X10_same_33 : mj_dec prog_12_method_27_code 33 = some (.lcmp, 1) := by decide +kernel
theorem dm_X10_same_34 : mj_dec prog_12_method_27_code 34 = some (.ifCond .ne 7, 3) := by decide +kernel
theorem dm_X10_same_37 : mj_dec prog_12_method_27_code 37 = some (.iconst 1, 1) := by decide +kernel
theorem dm_X10_same_38 : mj_dec prog_12_method_27_code 38 = some (.goto 4, 3) := by decide +kernel
theorem dm_X10_same_41 : mj_dec prog_12_method_27_code 41 = some (.iconst 0, 1) := by decide +kernel
theorem dm_X10_same_42 : mj_dec prog_12_method_27_code 42 = some (.ireturn, 1) := by decide +kernel
theorem dm_X10_same_43 : mj_dec prog_12_method_27_code 43 = some (.aload_n 0, 1) := by decide +kernel
theorem dm_X10_same_44 : mj_dec prog_12_method_27_code 44 = some (.getfield 30, 3) := by decide +kernel
theorem dm_X10_same_47 : mj_dec prog_12_method_27_code 47 = some (.aload_n 1, 1) := by decide +kernel
theorem dm_X10_same_48 : mj_dec prog_12_method_27_code 48 = some (.getfield 30, 3) := by decide +kernel
theorem dm_X10_same_51 : mj_dec prog_12_method_27_code 51 = some (.if_icmp .ne 25, 3) := by decide +kernel
theorem dm_X10_same_54 : mj_dec prog_12_method_27_code 54 = some (.aload_n 0, 1) := by decide +kernel
theorem dm_X10_same_55 : mj_dec prog_12_method_27_code 55 = some (.getfield 33, 3) := by decide +kernel
theorem dm_X10_same_58 : mj_dec prog_12_method_27_code 58 = some (.aload_n 1, 1) := by decide +kernel
theorem dm_X10_same_59 : mj_dec prog_12_method_27_code 59 = some (.getfield 33, 3) := by decide +kernel
theorem dm_X10_same_62 : mj_dec prog_12_method_27_code 62 = some (.if_icmp .ne 14, 3) := by decide +kernel
theorem dm_X10_same_65 : mj_dec prog_12_method_27_code 65 = some (.aload_n 0, 1) := by decide +kernel
theorem dm_X10_same_66 : mj_dec prog_12_method_27_code 66 = some (.invokevirtual 93, 3) := by decide +kernel
theorem dm_X10_same_69 : mj_dec prog_12_method_27_code 69 = some (.aload_n 1, 1) := by decide +kernel
theorem dm_X10_same_70 : mj_dec prog_12_method_27_code 70 = some (.invokevirtual 93, 3) := by decide +kernel
theorem dm_X10_same_73 : mj_dec prog_12_method_27_code 73 = some (.if_icmp .eq 5, 3) := by decide +kernel
theorem dm_X10_same_76 : mj_dec prog_12_method_27_code 76 = some (.iconst 0, 1) := by decide +kernel
theorem dm_X10_same_77 : mj_dec prog_12_method_27_code 77 = some (.ireturn, 1) := by decide +kernel
theorem dm_X10_same_78 : mj_dec prog_12_method_27_code 78 = some (.aload_n 0, 1) := by decide +kernel
theorem dm_X10_same_79 : mj_dec prog_12_method_27_code 79 = some (.getfield 9, 3) := by decide +kernel
theorem dm_X10_same_82 : mj_dec prog_12_method_27_code 82 = some (.bipush 7, 2) := by decide +kernel
theorem dm_X10_same_84 : mj_dec prog_12_method_27_code 84 = some (.if_icmp .ne 12, 3) := by decide +kernel
theorem dm_X10_same_87 : mj_dec prog_12_method_27_code 87 = some (.aload_n 1, 1) := by decide +kernel
theorem dm_X10_same_88 : mj_dec prog_12_method_27_code 88 = some (.getfield 9, 3) := by decide +kernel
theorem dm_X10_same_91 : mj_dec prog_12_method_27_code 91 = some (.bipush 7, 2) := by decide +kernel
theorem dm_X10_same_93 : mj_dec prog_12_method_27_code 93 = some (.if_icmp .eq 41, 3) := by decide +kernel
theorem dm_X10_same_96 : mj_dec prog_12_method_27_code 96 = some (.aload_n 0, 1) := by decide +kernel
theorem dm_X10_same_97 : mj_dec prog_12_method_27_code 97 = some (.getfield 9, 3) := by decide +kernel
theorem dm_X10_same_100 : mj_dec prog_12_method_27_code 100 = some (.bipush 7, 2) := by decide +kernel
theorem dm_X10_same_102 : mj_dec prog_12_method_27_code 102 = some (.if_icmp .eq 30, 3) := by decide +kernel
theorem dm_X10_same_105 : mj_dec prog_12_method_27_code 105 = some (.aload_n 1, 1) := by decide +kernel
theorem dm_X10_same_106 : mj_dec prog_12_method_27_code 106 = some (.getfield 9, 3) := by decide +kernel
theorem dm_X10_same_109 : mj_dec prog_12_method_27_code 109 = some (.bipush 7, 2) := by decide +kernel
theorem dm_X10_same_111 : mj_dec prog_12_method_27_code 111 = some (.if_icmp .eq 21, 3) := by decide +kernel
theorem dm_X10_same_114 : mj_dec prog_12_method_27_code 114 = some (.aload_n 0, 1) := by decide +kernel
theorem dm_X10_same_115 : mj_dec prog_12_method_27_code 115 = some (.iconst 0, 1) := by decide +kernel
theorem dm_X10_same_116 : mj_dec prog_12_method_27_code 116 = some (.aload_n 1, 1) := by decide +kernel
theorem dm_X10_same_117 : mj_dec prog_12_method_27_code 117 = some (.iconst 0, 1) := by decide +kernel
theorem dm_X10_same_118 : mj_dec prog_12_method_27_code 118 = some (.aload_n 0, 1) := by decide +kernel
theorem dm_X10_same_119 : mj_dec prog_12_method_27_code 119 = some (.invokevirtual 96, 3) := by decide +kernel
theorem dm_X10_same_122 : mj_dec prog_12_method_27_code 122 = some (.invokestatic 100, 3) := by decide +kernel
theorem dm_X10_same_125 : mj_dec prog_12_method_27_code 125 = some (.ifCond .eq 7, 3) := by decide +kernel
theorem dm_X10_same_128 : mj_dec prog_12_method_27_code 128 = some (.iconst 1, 1) := by decide +kernel
theorem dm_X10_same_129 : mj_dec prog_12_method_27_code 129 = some (.goto 4, 3) := by decide +kernel
theorem dm_X10_same_132 : mj_dec prog_12_method_27_code 132 = some (.iconst 0, 1) := by decide +kernel
theorem dm_X10_same_133 : mj_dec prog_12_method_27_code 133 = some (.ireturn, 1) := by decide +kernel
theorem dm_X10_same_134 : mj_dec prog_12_method_27_code 134 = some (.iconst 0, 1) := by decide +kernel
theorem dm_X10_same_135 : mj_dec prog_12_method_27_code 135 = some (.istore_n 2, 1) := by decide +kernel
theorem dm_X10_same_136 : mj_dec prog_12_method_27_code 136 = some (.iload_n 2, 1) := by decide +kernel
theorem dm_X10_same_137 : mj_dec prog_12_method_27_code 137 = some (.aload_n 0, 1) := by decide +kernel
theorem dm_X10_same_138 : mj_dec prog_12_method_27_code 138 = some (.getfield 30, 3) := by decide +kernel
theorem dm_X10_same_141 : mj_dec prog_12_method_27_code 141 = some (.if_icmp .ge 27, 3) := by decide +kernel
theorem dm_X10_same_144 : mj_dec prog_12_method_27_code 144 = some (.aload_n 0, 1) := by decide +kernel
theorem dm_X10_same_145 : mj_dec prog_12_method_27_code 145 = some (.iload_n 2, 1) := by decide +kernel
theorem dm_X10_same_146 : mj_dec prog_12_method_27_code 146 = some (.invokevirtual 65, 3) := by decide +kernel
theorem dm_X10_same_149 : mj_dec prog_12_method_27_code 149 = some (.aload_n 1, 1) := by decide +kernel
theorem dm_X10_same_150 : mj_dec prog_12_method_27_code 150 = some (.iload_n 2, 1) := by decide +kernel
theorem dm_X10_same_151 : mj_dec prog_12_method_27_code 151 = some (.invokevirtual 65, 3) := by decide +kernel
theorem dm_X10_same_154 : mj_dec prog_12_method_27_code 154 = some (.invokestatic 104, 3) := by decide +kernel
theorem dm_X10_same_157 : mj_dec prog_12_method_27_code 157 = some (.ifCond .ne 5, 3) := by decide +kernel
theorem dm_X10_same_160 : mj_dec prog_12_method_27_code 160 = some (.iconst 0, 1) := by decide +kernel
theorem dm_X10_same_161 : mj_dec prog_12_method_27_code 161 = some (.ireturn, 1) := by decide +kernel
theorem dm_X10_same_162 : mj_dec prog_12_method_27_code 162 = some (.iinc 2 1, 3) := by decide +kernel
theorem dm_X10_same_165 : mj_dec prog_12_method_27_code 165 = some (.goto (-29), 3) := by decide +kernel
theorem dm_X10_same_168 : mj_dec prog_12_method_27_code 168 = some (.iconst 1, 1) := by decide +kernel
theorem dm_X10_same_169 : mj_dec prog_12_method_27_code 169 = some (.ireturn, 1) := by decide +kernel
theorem c_same {xt : mj_X} {A : Nat → Prop} {h : mj_H} {f1 : Nat → Value} (hx1 : xt 1 = some (.long, 0, f1)) : ∀ (e : Nat) {d p q : Nat} {v w : VV}, 4 * e + 4 ≤ d → cv A h e p v → cv A h e q w → pgP xt d 124 [.ref p, .ref q] h (zz (vsame e v w)) := by
  intro e
  induction e with
  | zero => intro d p q v w hd hv; exact hv.elim
  | succ e ih =>
    intro d p q v w hd hv hw
    have hcv := vw1_c hv.1
    have hcw := vw1_c hw.1
    obtain ⟨row, fr, vals, hp, hp2, hpA, hvk, hvm, hvc, hvs, hvl⟩ := cv_val hv
    obtain ⟨row2, fr2, vals2, hq, hq2, hqA, hwk, hwm, hwc, hws, hwl⟩ := cv_val hw
    refine x_enter pm_X10_same (L0 := [(0, .ref p), (1, .ref q)]) rfl (Nat.le_of_ble_eq_true rfl) (by omega) ?_
    refine me1 (pc' := 1) (L' := [(0, .ref p), (1, .ref q)]) (S' := [.ref p]) dm_X10_same_0 rfl rfl rfl rfl ?_
    refine x_cp (pc' := 4) (v := zz (decide (vk v ≤ 1))) (rest := []) dm_X10_same_1 rfl (g_inv (As := []) (S := []) hp rfl rfl rfl (by omega)) rfl rfl rfl (c_isOne (by omega) hv) ?_
    refine y_zne (c := decide (vk v ≤ 1)) (t := 14) (pc' := 7) dm_X10_same_4 rfl rfl (fun hb1 => ?_) (fun hb1 => ?_)
    · replace hb1 := dT hb1
      refine me1 (pc' := 15) (L' := [(0, .ref p), (1, .ref q)]) (S' := [.ref p]) dm_X10_same_14 rfl rfl rfl rfl ?_
      refine me3 (pc' := 18) (S' := [ii (vk v : Int)]) dm_X10_same_15 (g_get (v := ii (vk v : Int)) hp rfl rfl (by omega)) rfl rfl rfl ?_
      refine me1 (pc' := 19) (L' := [(0, .ref p), (1, .ref q)]) (S' := [.ref q, ii (vk v : Int)]) dm_X10_same_18 rfl rfl rfl rfl ?_
      refine me3 (pc' := 22) (S' := [ii (vk w : Int), ii (vk v : Int)]) dm_X10_same_19 (g_get (v := ii (vk w : Int)) hq rfl rfl (by omega)) rfl rfl rfl ?_
      refine y_2ne (a := (vk v : Int)) (b := (vk w : Int)) (t := 41) (pc' := 25) dm_X10_same_22 rfl rfl (by omega) (fun hb2 => ?_) (fun hb2 => ?_)
      · refine me0 (pc' := 42) (S' := [ii 0]) dm_X10_same_41 rfl rfl rfl rfl ?_
        refine y_ret (r := some (ii 0)) dm_X10_same_42 rfl rfl rfl ?_
        refine ⟨congrArg some ?_, rfl⟩
        rw [show vsame (e + 1) v w = false from (by first | exact vsame_1k (by omega) (by omega) | exact vsame_1n (by omega) (by assumption))]; rfl
      · refine me1 (pc' := 26) (L' := [(0, .ref p), (1, .ref q)]) (S' := [.ref p]) dm_X10_same_25 rfl rfl rfl rfl ?_
        refine me3 (pc' := 29) (S' := [.long (cnum v)]) dm_X10_same_26 (g_get (v := .long (cnum v)) hp rfl rfl (by omega)) rfl rfl rfl ?_
        refine me1 (pc' := 30) (L' := [(0, .ref p), (1, .ref q)]) (S' := [.ref q, .long (cnum v)]) dm_X10_same_29 rfl rfl rfl rfl ?_
        refine me3 (pc' := 33) (S' := [.long (cnum w), .long (cnum v)]) dm_X10_same_30 (g_get (v := .long (cnum w)) hq rfl rfl (by omega)) rfl rfl rfl ?_
        refine y_lne (x := cnum v) (y := cnum w) (t := 41) (pc1 := 34) (pc' := 37) dm_X10_same_33 rfl dm_X10_same_34 rfl rfl (fun hb3 => ?_) (fun hb3 => ?_)
        · refine me0 (pc' := 42) (S' := [ii 0]) dm_X10_same_41 rfl rfl rfl rfl ?_
          refine y_ret (r := some (ii 0)) dm_X10_same_42 rfl rfl rfl ?_
          refine ⟨congrArg some ?_, rfl⟩
          rw [show vsame (e + 1) v w = false from (by first | exact vsame_1k (by omega) (by omega) | exact vsame_1n (by omega) (by assumption))]; rfl
        · refine me0 (pc' := 38) (S' := [ii 1]) dm_X10_same_37 rfl rfl rfl rfl ?_
          refine me2 (pc' := 42) (S' := [ii 1]) dm_X10_same_38 rfl rfl rfl ?_
          refine y_ret (r := some (ii 1)) dm_X10_same_42 rfl rfl rfl ?_
          refine ⟨congrArg some ?_, rfl⟩
          rw [vsame_1t (by omega) (by omega) hb3]; rfl
    · replace hb1 := dF hb1
      refine me1 (pc' := 8) (L' := [(0, .ref p), (1, .ref q)]) (S' := [.ref q]) dm_X10_same_7 rfl rfl rfl rfl ?_
      refine x_cp (pc' := 11) (v := zz (decide (vk w ≤ 1))) (rest := []) dm_X10_same_8 rfl (g_inv (As := []) (S := []) hq rfl rfl rfl (by omega)) rfl rfl rfl (c_isOne (by omega) hw) ?_
      refine y_zeq (c := decide (vk w ≤ 1)) (t := 43) (pc' := 14) dm_X10_same_11 rfl rfl (fun hb4 => ?_) (fun hb4 => ?_)
      · replace hb4 := dF hb4
        refine me1 (pc' := 44) (L' := [(0, .ref p), (1, .ref q)]) (S' := [.ref p]) dm_X10_same_43 rfl rfl rfl rfl ?_
        refine me3 (pc' := 47) (S' := [ii (vm v : Int)]) dm_X10_same_44 (g_get (v := ii (vm v : Int)) hp rfl rfl (by omega)) rfl rfl rfl ?_
        refine me1 (pc' := 48) (L' := [(0, .ref p), (1, .ref q)]) (S' := [.ref q, ii (vm v : Int)]) dm_X10_same_47 rfl rfl rfl rfl ?_
        refine me3 (pc' := 51) (S' := [ii (vm w : Int), ii (vm v : Int)]) dm_X10_same_48 (g_get (v := ii (vm w : Int)) hq rfl rfl (by omega)) rfl rfl rfl ?_
        refine y_2ne (a := (vm v : Int)) (b := (vm w : Int)) (t := 76) (pc' := 54) dm_X10_same_51 rfl rfl (by omega) (fun hb5 => ?_) (fun hb5 => ?_)
        · refine me0 (pc' := 77) (S' := [ii 0]) dm_X10_same_76 rfl rfl rfl rfl ?_
          refine y_ret (r := some (ii 0)) dm_X10_same_77 rfl rfl rfl ?_
          refine ⟨congrArg some ?_, rfl⟩
          rw [vsame_no (by omega) (by omega) (by omega)]; rfl
        · refine me1 (pc' := 55) (L' := [(0, .ref p), (1, .ref q)]) (S' := [.ref p]) dm_X10_same_54 rfl rfl rfl rfl ?_
          refine me3 (pc' := 58) (S' := [ii (vc v : Int)]) dm_X10_same_55 (g_get (v := ii (vc v : Int)) hp rfl rfl (by omega)) rfl rfl rfl ?_
          refine me1 (pc' := 59) (L' := [(0, .ref p), (1, .ref q)]) (S' := [.ref q, ii (vc v : Int)]) dm_X10_same_58 rfl rfl rfl rfl ?_
          refine me3 (pc' := 62) (S' := [ii (vc w : Int), ii (vc v : Int)]) dm_X10_same_59 (g_get (v := ii (vc w : Int)) hq rfl rfl (by omega)) rfl rfl rfl ?_
          refine y_2ne (a := (vc v : Int)) (b := (vc w : Int)) (t := 76) (pc' := 65) dm_X10_same_62 rfl rfl (by omega) (fun hb6 => ?_) (fun hb6 => ?_)
          · refine me0 (pc' := 77) (S' := [ii 0]) dm_X10_same_76 rfl rfl rfl rfl ?_
            refine y_ret (r := some (ii 0)) dm_X10_same_77 rfl rfl rfl ?_
            refine ⟨congrArg some ?_, rfl⟩
            rw [vsame_no (by omega) (by omega) (by omega)]; rfl
          · refine me1 (pc' := 66) (L' := [(0, .ref p), (1, .ref q)]) (S' := [.ref p]) dm_X10_same_65 rfl rfl rfl rfl ?_
            refine x_cp (pc' := 69) (v := zz (decide (vk v = 1 ∨ vk v = 3))) (rest := []) dm_X10_same_66 rfl (g_inv (As := []) (S := []) hp rfl rfl rfl (by omega)) rfl rfl rfl (c_ofSigns (by omega) hv) ?_
            refine me1 (pc' := 70) (L' := [(0, .ref p), (1, .ref q)]) (S' := [.ref q, zz (decide (vk v = 1 ∨ vk v = 3))]) dm_X10_same_69 rfl rfl rfl rfl ?_
            refine x_cp (pc' := 73) (v := zz (decide (vk w = 1 ∨ vk w = 3))) (rest := [zz (decide (vk v = 1 ∨ vk v = 3))]) dm_X10_same_70 rfl (g_inv (As := []) (S := [zz (decide (vk v = 1 ∨ vk v = 3))]) hq rfl rfl rfl (by omega)) rfl rfl rfl (c_ofSigns (by omega) hw) ?_
            refine y_z2eq (c := decide (vk v = 1 ∨ vk v = 3)) (e := decide (vk w = 1 ∨ vk w = 3)) (t := 78) (pc' := 76) dm_X10_same_73 rfl rfl (fun hb7 => ?_) (fun hb7 => ?_)
            · replace hb7 := dEq hb7
              refine me1 (pc' := 79) (L' := [(0, .ref p), (1, .ref q)]) (S' := [.ref p]) dm_X10_same_78 rfl rfl rfl rfl ?_
              refine me3 (pc' := 82) (S' := [ii (vk v : Int)]) dm_X10_same_79 (g_get (v := ii (vk v : Int)) hp rfl rfl (by omega)) rfl rfl rfl ?_
              refine me0 (pc' := 84) (S' := [ii 7, ii (vk v : Int)]) dm_X10_same_82 rfl rfl rfl rfl ?_
              refine y_2ne (a := (vk v : Int)) (b := 7) (t := 96) (pc' := 87) dm_X10_same_84 rfl rfl (by omega) (fun hb8 => ?_) (fun hb8 => ?_)
              · have hcc : (vk v = 7 ∧ vk w ≠ 7) ∨ (vk v ≠ 7 ∧ vk w = 7) ∨ ((vk v ≤ 6 ∧ vk w ≤ 6) ∧ (((vk v = 2 ∨ vk v = 4 ∨ vk v = 5) ∧ (vk w = 2 ∨ vk w = 4 ∨ vk w = 5)) ∨ (¬ (vk v = 2 ∨ vk v = 4 ∨ vk v = 5) ∧ vk v = vk w))) := by omega
                refine me1 (pc' := 97) (L' := [(0, .ref p), (1, .ref q)]) (S' := [.ref p]) dm_X10_same_96 rfl rfl rfl rfl ?_
                refine me3 (pc' := 100) (S' := [ii (vk v : Int)]) dm_X10_same_97 (g_get (v := ii (vk v : Int)) hp rfl rfl (by omega)) rfl rfl rfl ?_
                refine me0 (pc' := 102) (S' := [ii 7, ii (vk v : Int)]) dm_X10_same_100 rfl rfl rfl rfl ?_
                refine y_2eq (a := (vk v : Int)) (b := 7) (t := 132) (pc' := 105) dm_X10_same_102 rfl rfl (by omega) (fun hb9 => ?_) (fun hb9 => ?_)
                · refine me0 (pc' := 133) (S' := [ii 0]) dm_X10_same_132 rfl rfl rfl rfl ?_
                  refine y_ret (r := some (ii 0)) dm_X10_same_133 rfl rfl rfl ?_
                  refine ⟨congrArg some ?_, rfl⟩
                  first | (rw [vsame_no (by omega) (by omega) (by omega)]; rfl) | (rw [vsame_yes (by omega) (by omega) (by omega) (by omega) (by omega), if_neg (by omega)]; have hzz := hd; rw [allN_congr (g := fun k => decide (vn v k = vn w k)) (fun k _ => by rw [Nat.zero_add])] at hzz; rw [hzz]; rfl)
                · refine me1 (pc' := 106) (L' := [(0, .ref p), (1, .ref q)]) (S' := [.ref q]) dm_X10_same_105 rfl rfl rfl rfl ?_
                  refine me3 (pc' := 109) (S' := [ii (vk w : Int)]) dm_X10_same_106 (g_get (v := ii (vk w : Int)) hq rfl rfl (by omega)) rfl rfl rfl ?_
                  refine me0 (pc' := 111) (S' := [ii 7, ii (vk w : Int)]) dm_X10_same_109 rfl rfl rfl rfl ?_
                  refine y_2eq (a := (vk w : Int)) (b := 7) (t := 132) (pc' := 114) dm_X10_same_111 rfl rfl (by omega) (fun hb10 => ?_) (fun hb10 => ?_)
                  · refine me0 (pc' := 133) (S' := [ii 0]) dm_X10_same_132 rfl rfl rfl rfl ?_
                    refine y_ret (r := some (ii 0)) dm_X10_same_133 rfl rfl rfl ?_
                    refine ⟨congrArg some ?_, rfl⟩
                    first | (rw [vsame_no (by omega) (by omega) (by omega)]; rfl) | (rw [vsame_yes (by omega) (by omega) (by omega) (by omega) (by omega), if_neg (by omega)]; have hzz := hd; rw [allN_congr (g := fun k => decide (vn v k = vn w k)) (fun k _ => by rw [Nat.zero_add])] at hzz; rw [hzz]; rfl)
                  · have hvq := vq_eq (a := v) (b := w) (by omega) (by omega) (by omega) (by omega) (by omega)
                    refine me1 (pc' := 115) (L' := [(0, .ref p), (1, .ref q)]) (S' := [.ref p]) dm_X10_same_114 rfl rfl rfl rfl ?_
                    refine me0 (pc' := 116) (S' := [ii 0, .ref p]) dm_X10_same_115 rfl rfl rfl rfl ?_
                    refine me1 (pc' := 117) (L' := [(0, .ref p), (1, .ref q)]) (S' := [.ref q, ii 0, .ref p]) dm_X10_same_116 rfl rfl rfl rfl ?_
                    refine me0 (pc' := 118) (S' := [ii 0, .ref q, ii 0, .ref p]) dm_X10_same_117 rfl rfl rfl rfl ?_
                    refine me1 (pc' := 119) (L' := [(0, .ref p), (1, .ref q)]) (S' := [.ref p, ii 0, .ref q, ii 0, .ref p]) dm_X10_same_118 rfl rfl rfl rfl ?_
                    refine x_cp (pc' := 122) (v := ii (vq v : Int)) (rest := [ii 0, .ref q, ii 0, .ref p]) dm_X10_same_119 rfl (g_inv (As := []) (S := [ii 0, .ref q, ii 0, .ref p]) hp rfl rfl rfl (by omega)) rfl rfl rfl (c_numbers (by omega) hv) ?_
                    refine x_cp (pc' := 125) (v := zz (allN (vq v) (fun k => decide (vn v (0 + k) = vn w (0 + k))))) (rest := []) dm_X10_same_122 rfl (g_invs (As := [.ref p, ii 0, .ref q, ii 0, ii (vq v : Int)]) (S := []) rfl rfl rfl) rfl rfl rfl (c_sameRun (s1 := 0) (s2 := 0) (n := vq v) hx1 (by omega) hv hw (by omega) (by omega) (by omega) (by omega) (by omega) (by omega)) ?_
                    refine y_zeq (c := allN (vq v) (fun k => decide (vn v (0 + k) = vn w (0 + k)))) (t := 132) (pc' := 128) dm_X10_same_125 rfl rfl (fun hb11 => ?_) (fun hb11 => ?_)
                    · refine me0 (pc' := 133) (S' := [ii 0]) dm_X10_same_132 rfl rfl rfl rfl ?_
                      refine y_ret (r := some (ii 0)) dm_X10_same_133 rfl rfl rfl ?_
                      refine ⟨congrArg some ?_, rfl⟩
                      first | (rw [vsame_no (by omega) (by omega) (by omega)]; rfl) | (rw [vsame_yes (by omega) (by omega) (by omega) (by omega) (by omega), if_neg (by omega)]; have hzz := hb11; rw [allN_congr (g := fun k => decide (vn v k = vn w k)) (fun k _ => by rw [Nat.zero_add])] at hzz; rw [hzz]; rfl)
                    · refine me0 (pc' := 129) (S' := [ii 1]) dm_X10_same_128 rfl rfl rfl rfl ?_
                      refine me2 (pc' := 133) (S' := [ii 1]) dm_X10_same_129 rfl rfl rfl ?_
                      refine y_ret (r := some (ii 1)) dm_X10_same_133 rfl rfl rfl ?_
                      refine ⟨congrArg some ?_, rfl⟩
                      rw [vsame_yes (by omega) (by omega) (by omega) (by omega) (by omega), if_neg (by omega)]
                      have hzz := hb11
                      rw [allN_congr (g := fun k => decide (vn v k = vn w k)) (fun k _ => by rw [Nat.zero_add])] at hzz
                      rw [hzz]; rfl
              · refine me1 (pc' := 88) (L' := [(0, .ref p), (1, .ref q)]) (S' := [.ref q]) dm_X10_same_87 rfl rfl rfl rfl ?_
                refine me3 (pc' := 91) (S' := [ii (vk w : Int)]) dm_X10_same_88 (g_get (v := ii (vk w : Int)) hq rfl rfl (by omega)) rfl rfl rfl ?_
                refine me0 (pc' := 93) (S' := [ii 7, ii (vk w : Int)]) dm_X10_same_91 rfl rfl rfl rfl ?_
                refine y_2eq (a := (vk w : Int)) (b := 7) (t := 134) (pc' := 96) dm_X10_same_93 rfl rfl (by omega) (fun hb12 => ?_) (fun hb12 => ?_)
                · refine me0 (pc' := 135) (S' := [ii 0]) dm_X10_same_134 rfl rfl rfl rfl ?_
                  refine me1 (pc' := 136) (L' := [(2, ii 0), (0, .ref p), (1, .ref q)]) (S' := []) dm_X10_same_135 rfl rfl rfl rfl ?_
                  have lp136 : ∀ (n136 : Nat) (k : Nat), vm v - k = n136 → (k ≤ vm v) → (∀ j, j < k → vsame e (vd v j) (vd w j) = true) → pgE xt (d - 1) 10 3 false (Option.some Jvm.ClassFile.FieldType.boolean) (mj_dec prog_12_method_27_code) 136 [(0, .ref p), (1, .ref q), (2, ii (k : Int))] [] h (fun r h' => r = some (zz (vsame (e + 1) v w)) ∧ h' = h) := by
                    intro n136
                    induction n136 using Nat.strongRecOn with
                    | ind n136 ih136 =>
                      intro k hm136 hk hall
                      refine me1 (pc' := 137) (L' := [(0, .ref p), (1, .ref q), (2, ii (k : Int))]) (S' := [ii (k : Int)]) dm_X10_same_136 rfl rfl rfl rfl ?_
                      refine me1 (pc' := 138) (L' := [(0, .ref p), (1, .ref q), (2, ii (k : Int))]) (S' := [.ref p, ii (k : Int)]) dm_X10_same_137 rfl rfl rfl rfl ?_
                      refine me3 (pc' := 141) (S' := [ii (vm v : Int), ii (k : Int)]) dm_X10_same_138 (g_get (v := ii (vm v : Int)) hp rfl rfl (by omega)) rfl rfl rfl ?_
                      refine y_2ge (a := (k : Int)) (b := (vm v : Int)) (t := 168) (pc' := 144) dm_X10_same_141 rfl rfl (by omega) (fun hb13 => ?_) (fun hb13 => ?_)
                      · refine me0 (pc' := 169) (S' := [ii 1]) dm_X10_same_168 rfl rfl rfl rfl ?_
                        refine y_ret (r := some (ii 1)) dm_X10_same_169 rfl rfl rfl ?_
                        refine ⟨congrArg some ?_, rfl⟩
                        rw [vsame_yes (by omega) (by omega) (by omega) (by omega) (by omega), if_pos (by omega), allN_iff.mpr (fun j hj => hall j (by omega))]; rfl
                      · refine me1 (pc' := 145) (L' := [(0, .ref p), (1, .ref q), (2, ii (k : Int))]) (S' := [.ref p]) dm_X10_same_144 rfl rfl rfl rfl ?_
                        refine me1 (pc' := 146) (L' := [(0, .ref p), (1, .ref q), (2, ii (k : Int))]) (S' := [ii (k : Int), .ref p]) dm_X10_same_145 rfl rfl rfl rfl ?_
                        obtain ⟨q1, hq1, hcq1⟩ := c_valueAt7 (xt := xt) (d := d - 1) (i := (k : Int)) (by omega) hv (by omega) (by omega) (by omega)
                        refine x_cp (pc' := 149) (v := .ref q1) (rest := []) dm_X10_same_146 rfl (g_inv (As := [ii (k : Int)]) (S := []) hp rfl rfl rfl (by omega)) rfl rfl rfl (hcq1) ?_
                        refine me1 (pc' := 150) (L' := [(0, .ref p), (1, .ref q), (2, ii (k : Int))]) (S' := [.ref q, .ref q1]) dm_X10_same_149 rfl rfl rfl rfl ?_
                        refine me1 (pc' := 151) (L' := [(0, .ref p), (1, .ref q), (2, ii (k : Int))]) (S' := [ii (k : Int), .ref q, .ref q1]) dm_X10_same_150 rfl rfl rfl rfl ?_
                        obtain ⟨q2, hq2, hcq2⟩ := c_valueAt7 (xt := xt) (d := d - 1) (i := (k : Int)) (by omega) hw (by omega) (by omega) (by omega)
                        refine x_cp (pc' := 154) (v := .ref q2) (rest := [.ref q1]) dm_X10_same_151 rfl (g_inv (As := [ii (k : Int)]) (S := [.ref q1]) hq rfl rfl rfl (by omega)) rfl rfl rfl (hcq2) ?_
                        refine x_cp (pc' := 157) (v := zz (vsame e (vd v k) (vd w k))) (rest := []) dm_X10_same_154 rfl (g_invs (As := [.ref q1, .ref q2]) (S := []) rfl rfl rfl) rfl rfl rfl (ih (by omega) hq1 hq2) ?_
                        refine y_zne (c := vsame e (vd v k) (vd w k)) (t := 162) (pc' := 160) dm_X10_same_157 rfl rfl (fun hb14 => ?_) (fun hb14 => ?_)
                        · refine y_iinc (pc' := 165) (L' := [(2, ii ((k : Int) + 1)), (0, .ref p), (1, .ref q)]) dm_X10_same_162 (y_incp (a := (k : Int)) (c := 1) rfl rfl (by decide)) rfl ?_
                          refine me2 (pc' := 136) (S' := []) dm_X10_same_165 rfl rfl rfl ?_
                          exact pg_sub (L := [(0, .ref p), (1, .ref q), (2, ii ((k + 1) : Int))]) rfl rfl rfl (ih136 (vm v - (k + 1)) (by omega) (k + 1) rfl (by omega) (fun j hj => by by_cases z : j = k; (subst z; exact hb14); exact hall j (by omega)))
                        · refine me0 (pc' := 161) (S' := [ii 0]) dm_X10_same_160 rfl rfl rfl rfl ?_
                          refine y_ret (r := some (ii 0)) dm_X10_same_161 rfl rfl rfl ?_
                          refine ⟨congrArg some ?_, rfl⟩
                          rw [vsame_yes (by omega) (by omega) (by omega) (by omega) (by omega), if_pos (by omega), allN_f (k := k) (by omega) hb14]; rfl
                  exact pg_sub (L := [(0, .ref p), (1, .ref q), (2, ii (0 : Int))]) rfl rfl rfl (lp136 _ 0 rfl (by omega) (fun j hj => absurd hj (Nat.not_lt_zero j)))
                · have hcc : (vk v = 7 ∧ vk w ≠ 7) ∨ (vk v ≠ 7 ∧ vk w = 7) ∨ ((vk v ≤ 6 ∧ vk w ≤ 6) ∧ (((vk v = 2 ∨ vk v = 4 ∨ vk v = 5) ∧ (vk w = 2 ∨ vk w = 4 ∨ vk w = 5)) ∨ (¬ (vk v = 2 ∨ vk v = 4 ∨ vk v = 5) ∧ vk v = vk w))) := by omega
                  refine me1 (pc' := 97) (L' := [(0, .ref p), (1, .ref q)]) (S' := [.ref p]) dm_X10_same_96 rfl rfl rfl rfl ?_
                  refine me3 (pc' := 100) (S' := [ii (vk v : Int)]) dm_X10_same_97 (g_get (v := ii (vk v : Int)) hp rfl rfl (by omega)) rfl rfl rfl ?_
                  refine me0 (pc' := 102) (S' := [ii 7, ii (vk v : Int)]) dm_X10_same_100 rfl rfl rfl rfl ?_
                  refine y_2eq (a := (vk v : Int)) (b := 7) (t := 132) (pc' := 105) dm_X10_same_102 rfl rfl (by omega) (fun hb15 => ?_) (fun hb15 => ?_)
                  · refine me0 (pc' := 133) (S' := [ii 0]) dm_X10_same_132 rfl rfl rfl rfl ?_
                    refine y_ret (r := some (ii 0)) dm_X10_same_133 rfl rfl rfl ?_
                    refine ⟨congrArg some ?_, rfl⟩
                    first | (rw [vsame_no (by omega) (by omega) (by omega)]; rfl) | (rw [vsame_yes (by omega) (by omega) (by omega) (by omega) (by omega), if_neg (by omega)]; have hzz := hb11; rw [allN_congr (g := fun k => decide (vn v k = vn w k)) (fun k _ => by rw [Nat.zero_add])] at hzz; rw [hzz]; rfl)
                  · refine me1 (pc' := 106) (L' := [(0, .ref p), (1, .ref q)]) (S' := [.ref q]) dm_X10_same_105 rfl rfl rfl rfl ?_
                    refine me3 (pc' := 109) (S' := [ii (vk w : Int)]) dm_X10_same_106 (g_get (v := ii (vk w : Int)) hq rfl rfl (by omega)) rfl rfl rfl ?_
                    refine me0 (pc' := 111) (S' := [ii 7, ii (vk w : Int)]) dm_X10_same_109 rfl rfl rfl rfl ?_
                    refine y_2eq (a := (vk w : Int)) (b := 7) (t := 132) (pc' := 114) dm_X10_same_111 rfl rfl (by omega) (fun hb16 => ?_) (fun hb16 => ?_)
                    · refine me0 (pc' := 133) (S' := [ii 0]) dm_X10_same_132 rfl rfl rfl rfl ?_
                      refine y_ret (r := some (ii 0)) dm_X10_same_133 rfl rfl rfl ?_
                      refine ⟨congrArg some ?_, rfl⟩
                      first | (rw [vsame_no (by omega) (by omega) (by omega)]; rfl) | (rw [vsame_yes (by omega) (by omega) (by omega) (by omega) (by omega), if_neg (by omega)]; have hzz := hb11; rw [allN_congr (g := fun k => decide (vn v k = vn w k)) (fun k _ => by rw [Nat.zero_add])] at hzz; rw [hzz]; rfl)
                    · have hvq := vq_eq (a := v) (b := w) (by omega) (by omega) (by omega) (by omega) (by omega)
                      refine me1 (pc' := 115) (L' := [(0, .ref p), (1, .ref q)]) (S' := [.ref p]) dm_X10_same_114 rfl rfl rfl rfl ?_
                      refine me0 (pc' := 116) (S' := [ii 0, .ref p]) dm_X10_same_115 rfl rfl rfl rfl ?_
                      refine me1 (pc' := 117) (L' := [(0, .ref p), (1, .ref q)]) (S' := [.ref q, ii 0, .ref p]) dm_X10_same_116 rfl rfl rfl rfl ?_
                      refine me0 (pc' := 118) (S' := [ii 0, .ref q, ii 0, .ref p]) dm_X10_same_117 rfl rfl rfl rfl ?_
                      refine me1 (pc' := 119) (L' := [(0, .ref p), (1, .ref q)]) (S' := [.ref p, ii 0, .ref q, ii 0, .ref p]) dm_X10_same_118 rfl rfl rfl rfl ?_
                      refine x_cp (pc' := 122) (v := ii (vq v : Int)) (rest := [ii 0, .ref q, ii 0, .ref p]) dm_X10_same_119 rfl (g_inv (As := []) (S := [ii 0, .ref q, ii 0, .ref p]) hp rfl rfl rfl (by omega)) rfl rfl rfl (c_numbers (by omega) hv) ?_
                      refine x_cp (pc' := 125) (v := zz (allN (vq v) (fun k => decide (vn v (0 + k) = vn w (0 + k))))) (rest := []) dm_X10_same_122 rfl (g_invs (As := [.ref p, ii 0, .ref q, ii 0, ii (vq v : Int)]) (S := []) rfl rfl rfl) rfl rfl rfl (c_sameRun (s1 := 0) (s2 := 0) (n := vq v) hx1 (by omega) hv hw (by omega) (by omega) (by omega) (by omega) (by omega) (by omega)) ?_
                      refine y_zeq (c := allN (vq v) (fun k => decide (vn v (0 + k) = vn w (0 + k)))) (t := 132) (pc' := 128) dm_X10_same_125 rfl rfl (fun hb17 => ?_) (fun hb17 => ?_)
                      · refine me0 (pc' := 133) (S' := [ii 0]) dm_X10_same_132 rfl rfl rfl rfl ?_
                        refine y_ret (r := some (ii 0)) dm_X10_same_133 rfl rfl rfl ?_
                        refine ⟨congrArg some ?_, rfl⟩
                        first | (rw [vsame_no (by omega) (by omega) (by omega)]; rfl) | (rw [vsame_yes (by omega) (by omega) (by omega) (by omega) (by omega), if_neg (by omega)]; have hzz := hb17; rw [allN_congr (g := fun k => decide (vn v k = vn w k)) (fun k _ => by rw [Nat.zero_add])] at hzz; rw [hzz]; rfl)
                      · refine me0 (pc' := 129) (S' := [ii 1]) dm_X10_same_128 rfl rfl rfl rfl ?_
                        refine me2 (pc' := 133) (S' := [ii 1]) dm_X10_same_129 rfl rfl rfl ?_
                        refine y_ret (r := some (ii 1)) dm_X10_same_133 rfl rfl rfl ?_
                        refine ⟨congrArg some ?_, rfl⟩
                        rw [vsame_yes (by omega) (by omega) (by omega) (by omega) (by omega), if_neg (by omega)]
                        have hzz := hb17
                        rw [allN_congr (g := fun k => decide (vn v k = vn w k)) (fun k _ => by rw [Nat.zero_add])] at hzz
                        rw [hzz]; rfl
            · replace hb7 := dNe hb7
              refine me0 (pc' := 77) (S' := [ii 0]) dm_X10_same_76 rfl rfl rfl rfl ?_
              refine y_ret (r := some (ii 0)) dm_X10_same_77 rfl rfl rfl ?_
              refine ⟨congrArg some ?_, rfl⟩
              rw [vsame_no (by omega) (by omega) (by omega)]; rfl
      · replace hb4 := dT hb4
        refine me1 (pc' := 15) (L' := [(0, .ref p), (1, .ref q)]) (S' := [.ref p]) dm_X10_same_14 rfl rfl rfl rfl ?_
        refine me3 (pc' := 18) (S' := [ii (vk v : Int)]) dm_X10_same_15 (g_get (v := ii (vk v : Int)) hp rfl rfl (by omega)) rfl rfl rfl ?_
        refine me1 (pc' := 19) (L' := [(0, .ref p), (1, .ref q)]) (S' := [.ref q, ii (vk v : Int)]) dm_X10_same_18 rfl rfl rfl rfl ?_
        refine me3 (pc' := 22) (S' := [ii (vk w : Int), ii (vk v : Int)]) dm_X10_same_19 (g_get (v := ii (vk w : Int)) hq rfl rfl (by omega)) rfl rfl rfl ?_
        refine y_2ne (a := (vk v : Int)) (b := (vk w : Int)) (t := 41) (pc' := 25) dm_X10_same_22 rfl rfl (by omega) (fun hb18 => ?_) (fun hb18 => ?_)
        · refine me0 (pc' := 42) (S' := [ii 0]) dm_X10_same_41 rfl rfl rfl rfl ?_
          refine y_ret (r := some (ii 0)) dm_X10_same_42 rfl rfl rfl ?_
          refine ⟨congrArg some ?_, rfl⟩
          rw [show vsame (e + 1) v w = false from (by first | exact vsame_1k (by omega) (by omega) | exact vsame_1n (by omega) (by assumption))]; rfl
        · refine me1 (pc' := 26) (L' := [(0, .ref p), (1, .ref q)]) (S' := [.ref p]) dm_X10_same_25 rfl rfl rfl rfl ?_
          refine me3 (pc' := 29) (S' := [.long (cnum v)]) dm_X10_same_26 (g_get (v := .long (cnum v)) hp rfl rfl (by omega)) rfl rfl rfl ?_
          refine me1 (pc' := 30) (L' := [(0, .ref p), (1, .ref q)]) (S' := [.ref q, .long (cnum v)]) dm_X10_same_29 rfl rfl rfl rfl ?_
          refine me3 (pc' := 33) (S' := [.long (cnum w), .long (cnum v)]) dm_X10_same_30 (g_get (v := .long (cnum w)) hq rfl rfl (by omega)) rfl rfl rfl ?_
          refine y_lne (x := cnum v) (y := cnum w) (t := 41) (pc1 := 34) (pc' := 37) dm_X10_same_33 rfl dm_X10_same_34 rfl rfl (fun hb19 => ?_) (fun hb19 => ?_)
          · refine me0 (pc' := 42) (S' := [ii 0]) dm_X10_same_41 rfl rfl rfl rfl ?_
            refine y_ret (r := some (ii 0)) dm_X10_same_42 rfl rfl rfl ?_
            refine ⟨congrArg some ?_, rfl⟩
            rw [show vsame (e + 1) v w = false from (by first | exact vsame_1k (by omega) (by omega) | exact vsame_1n (by omega) (by assumption))]; rfl
          · refine me0 (pc' := 38) (S' := [ii 1]) dm_X10_same_37 rfl rfl rfl rfl ?_
            refine me2 (pc' := 42) (S' := [ii 1]) dm_X10_same_38 rfl rfl rfl ?_
            refine y_ret (r := some (ii 1)) dm_X10_same_42 rfl rfl rfl ?_
            refine ⟨congrArg some ?_, rfl⟩
            rw [vsame_1t (by omega) (by omega) hb19]; rfl
