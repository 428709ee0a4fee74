set_option maxRecDepth 20000 in
theorem pm_X12_picks : mj_mmof pg_ms 270 = some ((⟨"ArrayCalculatorModel", "picks", "(III)I"⟩, prog_14_method_60_code, 7, (Option.some Jvm.ClassFile.FieldType.int)), 12, false, mj_dec prog_14_method_60_code) := rfl
theorem dm_X12_picks_0 : mj_dec prog_14_method_60_code 0 = some (.aload_n 0, 1) := by decide +kernel
theorem dm_X12_picks_1 : mj_dec prog_14_method_60_code 1 = some (.iload_n 1, 1) := by decide +kernel
theorem dm_X12_picks_2 : mj_dec prog_14_method_60_code 2 = some (.invokevirtual 162, 3) := by decide +kernel
theorem dm_X12_picks_5 : mj_dec prog_14_method_60_code 5 = some (.ifCond .ne 13, 3) := by decide +kernel
theorem dm_X12_picks_8 : mj_dec prog_14_method_60_code 8 = some (.aload_n 0, 1) := by decide +kernel
theorem dm_X12_picks_9 : mj_dec prog_14_method_60_code 9 = some (.iload_n 2, 1) := by decide +kernel
theorem dm_X12_picks_10 : mj_dec prog_14_method_60_code 10 = some (.invokevirtual 146, 3) := by decide +kernel
theorem dm_X12_picks_13 : mj_dec prog_14_method_60_code 13 = some (.bipush 6, 2) := by decide +kernel
theorem dm_X12_picks_15 : mj_dec prog_14_method_60_code 15 = some (.if_icmp .lt 10, 3) := by decide +kernel
theorem dm_X12_picks_18 : mj_dec prog_14_method_60_code 18 = some (.aload_n 0, 1) := by decide +kernel
theorem dm_X12_picks_19 : mj_dec prog_14_method_60_code 19 = some (.iconst 3, 1) := by decide +kernel
theorem dm_X12_picks_20 : mj_dec prog_14_method_60_code 20 = some (.iload_n 3, 1) := by decide +kernel
theorem dm_X12_picks_21 : mj_dec prog_14_method_60_code 21 = some (.invokevirtual 190, 3) := by decide +kernel
theorem dm_X12_picks_24 : mj_dec prog_14_method_60_code 24 = some (.ireturn, 1) := by decide +kernel
theorem dm_X12_picks_25 : mj_dec prog_14_method_60_code 25 = some (.aload_n 0, 1) := by decide +kernel
theorem dm_X12_picks_26 : mj_dec prog_14_method_60_code 26 = some (.iload_n 2, 1) := by decide +kernel
theorem dm_X12_picks_27 : mj_dec prog_14_method_60_code 27 = some (.invokevirtual 146, 3) := by decide +kernel
theorem dm_X12_picks_30 : mj_dec prog_14_method_60_code 30 = some (.iconst 1, 1) := by decide +kernel
theorem dm_X12_picks_31 : mj_dec prog_14_method_60_code 31 = some (.if_icmp .eq 12, 3) := by decide +kernel
theorem dm_X12_picks_34 : mj_dec prog_14_method_60_code 34 = some (.aload_n 0, 1) := by decide +kernel
theorem dm_X12_picks_35 : mj_dec prog_14_method_60_code 35 = some (.iload_n 2, 1) := by decide +kernel
theorem dm_X12_picks_36 : mj_dec prog_14_method_60_code 36 = some (.invokevirtual 146, 3) := by decide +kernel
theorem dm_X12_picks_39 : mj_dec prog_14_method_60_code 39 = some (.iconst 3, 1) := by decide +kernel
theorem dm_X12_picks_40 : mj_dec prog_14_method_60_code 40 = some (.if_icmp .ne 10, 3) := by decide +kernel
theorem dm_X12_picks_43 : mj_dec prog_14_method_60_code 43 = some (.aload_n 0, 1) := by decide +kernel
theorem dm_X12_picks_44 : mj_dec prog_14_method_60_code 44 = some (.iconst 5, 1) := by decide +kernel
theorem dm_X12_picks_45 : mj_dec prog_14_method_60_code 45 = some (.iload_n 3, 1) := by decide +kernel
theorem dm_X12_picks_46 : mj_dec prog_14_method_60_code 46 = some (.invokevirtual 190, 3) := by decide +kernel
theorem dm_X12_picks_49 : mj_dec prog_14_method_60_code 49 = some (.ireturn, 1) := by decide +kernel
theorem dm_X12_picks_50 : mj_dec prog_14_method_60_code 50 = some (.aload_n 0, 1) := by decide +kernel
theorem dm_X12_picks_51 : mj_dec prog_14_method_60_code 51 = some (.iload_n 2, 1) := by decide +kernel
theorem dm_X12_picks_52 : mj_dec prog_14_method_60_code 52 = some (.invokevirtual 162, 3) := by decide +kernel
theorem dm_X12_picks_55 : mj_dec prog_14_method_60_code 55 = some (.ifCond .ne 28, 3) := by decide +kernel
theorem dm_X12_picks_58 : mj_dec prog_14_method_60_code 58 = some (.aload_n 0, 1) := by decide +kernel
theorem dm_X12_picks_59 : mj_dec prog_14_method_60_code 59 = some (.iload_n 1, 1) := by decide +kernel
theorem dm_X12_picks_60 : mj_dec prog_14_method_60_code 60 = some (.invokevirtual 146, 3) := by decide +kernel
theorem dm_X12_picks_63 : mj_dec prog_14_method_60_code 63 = some (.bipush 6, 2) := by decide +kernel
theorem dm_X12_picks_65 : mj_dec prog_14_method_60_code 65 = some (.if_icmp .ne 18, 3) := by decide +kernel
theorem dm_X12_picks_68 : mj_dec prog_14_method_60_code 68 = some (.aload_n 0, 1) := by decide +kernel
theorem dm_X12_picks_69 : mj_dec prog_14_method_60_code 69 = some (.iload_n 2, 1) := by decide +kernel
theorem dm_X12_picks_70 : mj_dec prog_14_method_60_code 70 = some (.invokevirtual 134, 3) := by decide +kernel
theorem dm_X12_picks_73 : mj_dec prog_14_method_60_code 73 = some (.ifCond .ne 10, 3) := by decide +kernel
theorem dm_X12_picks_76 : mj_dec prog_14_method_60_code 76 = some (.aload_n 0, 1) := by decide +kernel
theorem dm_X12_picks_77 : mj_dec prog_14_method_60_code 77 = some (.iconst 4, 1) := by decide +kernel
theorem dm_X12_picks_78 : mj_dec prog_14_method_60_code 78 = some (.iload_n 3, 1) := by decide +kernel
theorem dm_X12_picks_79 : mj_dec prog_14_method_60_code 79 = some (.invokevirtual 190, 3) := by decide +kernel
theorem dm_X12_picks_82 : mj_dec prog_14_method_60_code 82 = some (.ireturn, 1) := by decide +kernel
theorem dm_X12_picks_83 : mj_dec prog_14_method_60_code 83 = some (.iconst 0, 1) := by decide +kernel
theorem dm_X12_picks_84 : mj_dec prog_14_method_60_code 84 = some (.istore 4, 2) := by decide +kernel
theorem dm_X12_picks_86 : mj_dec prog_14_method_60_code 86 = some (.iload 4, 2) := by decide +kernel
theorem dm_X12_picks_88 : mj_dec prog_14_method_60_code 88 = some (.aload_n 0, 1) := by decide +kernel
theorem dm_X12_picks_89 : mj_dec prog_14_method_60_code 89 = some (.iload_n 2, 1) := by decide +kernel
theorem dm_X12_picks_90 : mj_dec prog_14_method_60_code 90 = some (.invokevirtual 134, 3) := by decide +kernel
theorem dm_X12_picks_93 : mj_dec prog_14_method_60_code 93 = some (.if_icmp .ge 55, 3) := by decide +kernel
theorem dm_X12_picks_96 : mj_dec prog_14_method_60_code 96 = some (.aload_n 0, 1) := by decide +kernel
theorem dm_X12_picks_97 : mj_dec prog_14_method_60_code 97 = some (.iload_n 2, 1) := by decide +kernel
theorem dm_X12_picks_98 : mj_dec prog_14_method_60_code 98 = some (.iload 4, 2) := by decide +kernel
theorem dm_X12_picks_100 : mj_dec prog_14_method_60_code 100 = some (.invokevirtual 138, 3) := by decide +kernel
theorem dm_X12_picks_103 : mj_dec prog_14_method_60_code 103 = some (.lstore 5, 2) := by decide +kernel
theorem dm_X12_picks_105 : mj_dec prog_14_method_60_code 105 = some (.lload 5, 2) := by decide +kernel
theorem dm_X12_picks_107 : mj_dec prog_14_method_60_code 107 = some (.lconst 0, 1) := by decide +kernel
theorem dm_X12_picks_108 : mj_dec prog_14_method_60_code 108 = some (.lcmp, 1) := by decide +kernel
theorem dm_X12_picks_109 : mj_dec prog_14_method_60_code 109 = some (.ifCond .lt 15, 3) := by decide +kernel
theorem dm_X12_picks_112 : mj_dec prog_14_method_60_code 112 = some (.lload 5, 2) := by decide +kernel
theorem dm_X12_picks_114 : mj_dec prog_14_method_60_code 114 = some (.aload_n 0, 1) := by decide +kernel
theorem dm_X12_picks_115 : mj_dec prog_14_method_60_code 115 = some (.iload_n 1, 1) := by decide +kernel
theorem dm_X12_picks_116 : mj_dec prog_14_method_60_code 116 = some (.invokevirtual 134, 3) := by decide +kernel
theorem dm_X12_picks_119 : mj_dec prog_14_method_60_code 119 = some (.i2l, 1) := by decide +kernel
theorem dm_X12_picks_120 : mj_dec prog_14_method_60_code 120 = some (.lcmp, 1) := by decide +kernel
theorem dm_X12_picks_121 : mj_dec prog_14_method_60_code 121 = some (.ifCond .lt 11, 3) := by decide +kernel
theorem dm_X12_picks_124 : mj_dec prog_14_method_60_code 124 = some (.aload_n 0, 1) := by decide +kernel
theorem dm_X12_picks_125 : mj_dec prog_14_method_60_code 125 = some (.bipush 7, 2) := by decide +kernel
theorem dm_X12_picks_127 : mj_dec prog_14_method_60_code 127 = some (.iload_n 3, 1) := by decide +kernel
theorem dm_X12_picks_128 : mj_dec prog_14_method_60_code 128 = some (.invokevirtual 190, 3) := by decide +kernel
theorem dm_X12_picks_131 : mj_dec prog_14_method_60_code 131 = some (.ireturn, 1) := by decide +kernel
theorem dm_X12_picks_132 : mj_dec prog_14_method_60_code 132 = some (.aload_n 0, 1) := by decide +kernel
theorem dm_X12_picks_133 : mj_dec prog_14_method_60_code 133 = some (.getfield 33, 3) := by decide +kernel
theorem dm_X12_picks_136 : mj_dec prog_14_method_60_code 136 = some (.iload 4, 2) := by decide +kernel
theorem dm_X12_picks_138 : mj_dec prog_14_method_60_code 138 = some (.lload 5, 2) := by decide +kernel
theorem dm_X12_picks_140 : mj_dec prog_14_method_60_code 140 = some (.l2i, 1) := by decide +kernel
theorem dm_X12_picks_141 : mj_dec prog_14_method_60_code 141 = some (.iastore, 1) := by decide +kernel
theorem dm_X12_picks_142 : mj_dec prog_14_method_60_code 142 = some (.iinc 4 1, 3) := by decide +kernel
theorem dm_X12_picks_145 : mj_dec prog_14_method_60_code 145 = some (.goto (-59), 3) := by decide +kernel
theorem dm_X12_picks_148 : mj_dec prog_14_method_60_code 148 = some (.aload_n 0, 1) := by decide +kernel
theorem dm_X12_picks_149 : mj_dec prog_14_method_60_code 149 = some (.iload_n 2, 1) := by decide +kernel
theorem dm_X12_picks_150 : mj_dec prog_14_method_60_code 150 = some (.invokevirtual 162, 3) := by decide +kernel
theorem dm_X12_picks_153 : mj_dec prog_14_method_60_code 153 = some (.ifCond .eq 15, 3) := by decide +kernel
theorem dm_X12_picks_156 : mj_dec prog_14_method_60_code 156 = some (.aload_n 0, 1) := by decide +kernel
theorem dm_X12_picks_157 : mj_dec prog_14_method_60_code 157 = some (.iload_n 1, 1) := by decide +kernel
theorem dm_X12_picks_158 : mj_dec prog_14_method_60_code 158 = some (.aload_n 0, 1) := by decide +kernel
theorem dm_X12_picks_159 : mj_dec prog_14_method_60_code 159 = some (.getfield 33, 3) := by decide +kernel
theorem dm_X12_picks_162 : mj_dec prog_14_method_60_code 162 = some (.iconst 0, 1) := by decide +kernel
theorem dm_X12_picks_163 : mj_dec prog_14_method_60_code 163 = some (.iaload, 1) := by decide +kernel
theorem dm_X12_picks_164 : mj_dec prog_14_method_60_code 164 = some (.invokevirtual 217, 3) := by decide +kernel
theorem dm_X12_picks_167 : mj_dec prog_14_method_60_code 167 = some (.ireturn, 1) := by decide +kernel
theorem dm_X12_picks_168 : mj_dec prog_14_method_60_code 168 = some (.aload_n 0, 1) := by decide +kernel
theorem dm_X12_picks_169 : mj_dec prog_14_method_60_code 169 = some (.iload_n 2, 1) := by decide +kernel
theorem dm_X12_picks_170 : mj_dec prog_14_method_60_code 170 = some (.invokevirtual 134, 3) := by decide +kernel
theorem dm_X12_picks_173 : mj_dec prog_14_method_60_code 173 = some (.aload_n 0, 1) := by decide +kernel
theorem dm_X12_picks_174 : mj_dec prog_14_method_60_code 174 = some (.iload_n 1, 1) := by decide +kernel
theorem dm_X12_picks_175 : mj_dec prog_14_method_60_code 175 = some (.invokevirtual 146, 3) := by decide +kernel
theorem dm_X12_picks_178 : mj_dec prog_14_method_60_code 178 = some (.bipush 7, 2) := by decide +kernel
theorem dm_X12_picks_180 : mj_dec prog_14_method_60_code 180 = some (.if_icmp .ne 8, 3) := by decide +kernel
theorem dm_X12_picks_183 : mj_dec prog_14_method_60_code 183 = some (.bipush 24, 2) := by decide +kernel
theorem dm_X12_picks_185 : mj_dec prog_14_method_60_code 185 = some (.goto 20, 3) := by decide +kernel
theorem dm_X12_picks_188 : mj_dec prog_14_method_60_code 188 = some (.aload_n 0, 1) := by decide +kernel
theorem dm_X12_picks_189 : mj_dec prog_14_method_60_code 189 = some (.iload_n 1, 1) := by decide +kernel
theorem dm_X12_picks_190 : mj_dec prog_14_method_60_code 190 = some (.invokevirtual 146, 3) := by decide +kernel
theorem dm_X12_picks_193 : mj_dec prog_14_method_60_code 193 = some (.bipush 6, 2) := by decide +kernel
theorem dm_X12_picks_195 : mj_dec prog_14_method_60_code 195 = some (.if_icmp .ne 8, 3) := by decide +kernel
theorem dm_X12_picks_198 : mj_dec prog_14_method_60_code 198 = some (.bipush 12, 2) := by decide +kernel
theorem dm_X12_picks_200 : mj_dec prog_14_method_60_code 200 = some (.goto 5, 3) := by decide +kernel
theorem dm_X12_picks_203 : mj_dec prog_14_method_60_code 203 = some (.bipush 120, 2) := by decide +kernel
theorem dm_X12_picks_205 : mj_dec prog_14_method_60_code 205 = some (.if_icmp .le 11, 3) := by decide +kernel
theorem dm_X12_picks_208 : mj_dec prog_14_method_60_code 208 = some (.aload_n 0, 1) := by decide +kernel
theorem dm_X12_picks_209 : mj_dec prog_14_method_60_code 209 = some (.bipush 8, 2) := by decide +kernel
theorem dm_X12_picks_211 : mj_dec prog_14_method_60_code 211 = some (.iload_n 3, 1) := by decide +kernel
theorem dm_X12_picks_212 : mj_dec prog_14_method_60_code 212 = some (.invokevirtual 190, 3) := by decide +kernel
theorem dm_X12_picks_215 : mj_dec prog_14_method_60_code 215 = some (.ireturn, 1) := by decide +kernel
theorem dm_X12_picks_216 : mj_dec prog_14_method_60_code 216 = some (.aload_n 0, 1) := by decide +kernel
theorem dm_X12_picks_217 : mj_dec prog_14_method_60_code 217 = some (.iload_n 1, 1) := by decide +kernel
theorem dm_X12_picks_218 : mj_dec prog_14_method_60_code 218 = some (.aload_n 0, 1) := by decide +kernel
theorem dm_X12_picks_219 : mj_dec prog_14_method_60_code 219 = some (.iload_n 2, 1) := by decide +kernel
theorem dm_X12_picks_220 : mj_dec prog_14_method_60_code 220 = some (.invokevirtual 134, 3) := by decide +kernel
theorem dm_X12_picks_223 : mj_dec prog_14_method_60_code 223 = some (.invokevirtual 223, 3) := by decide +kernel
theorem dm_X12_picks_226 : mj_dec prog_14_method_60_code 226 = some (.ireturn, 1) := by decide +kernel
theorem r_picks_ {xt : mj_X} {d e hd hd2 q b : Nat} {pre post : mj_H} {s : RS} {v w : VV} {place : Int} (hm : pre.length = 102) (hd1 : 6 ≤ d) (hB : rB s) (hv : rv s (e + 1) hd v) (hh3 : 3 ≤ hd) (hw : rv s (e + 1) hd2 w) (hh4 : 3 ≤ hd2) (hq : s.1 4 = (q : Int)) (hb : s.1 3 = (b : Int)) (hq3 : 3 ≤ q) (hV2 : q < 310000) (he0 : s.1 5 = 0) (hca : 0 ≤ s.1 10 ∧ s.1 10 ≤ 100) (hC : b + 300 ≤ 820000) : pgV xt d 270 [.ref 102, ii (hd : Int), ii (hd2 : Int), ii place] (rS pre post s) (rres pre post s (e + 1) (d_at v w) place 144 1) := by
  have hB0 := hB
  obtain ⟨hB1, hB2, hB3, hB4⟩ := hB
  obtain ⟨fr, hfr, hsh, hlt, hcl, hvk, hvm, hvc, hvq, hvcl⟩ := rv_val hv
  obtain ⟨fw, hfw, hshw, hltw, hclw, hwk, hwm, hwc, hwq, hwcl⟩ := rv_val hw
  have h0 : (Int64.ofInt 0).toInt = 0 := by decide
  have hvmL : (Int64.ofInt (vm v : Int)).toInt = (vm v : Int) := n_toL (by omega) (by omega)
  have hask : ¬ (vk v ≤ 1 ∨ 6 ≤ vk w) → ¬ (vk w = 1 ∨ vk w = 3) → askP v w = 0 := fun y z => by unfold askP; rw [if_neg y, if_neg z]
  have hqw : vk w ≤ 5 → vq w = vm w := vq_m
  have hw1 : vk w ≤ 1 → vm w = 1 := fun z => (hw.1.2.1 z).1
  have h6c : vk v = 6 → 1 ≤ vc v ∧ vm v ≤ 12 := fun z => ⟨(hv.1.2.2.2.1 z).2.2.1, (hv.1.2.2.2.1 z).2.1⟩
  refine x_enter pm_X12_picks (L0 := [(0, .ref 102), (1, ii (hd : Int)), (2, ii (hd2 : Int)), (3, ii place)]) rfl (Nat.le_of_ble_eq_true rfl) (by omega) ?_
  refine me1 (pc' := 1) (L' := [(0, .ref 102), (1, ii (hd : Int)), (2, ii (hd2 : Int)), (3, ii place)]) (S' := [.ref 102]) dm_X12_picks_0 rfl rfl rfl rfl ?_
  refine me1 (pc' := 2) (L' := [(0, .ref 102), (1, ii (hd : Int)), (2, ii (hd2 : Int)), (3, ii place)]) (S' := [ii (hd : Int), .ref 102]) dm_X12_picks_1 rfl rfl rfl rfl ?_
  refine x_cp (pc' := 5) (v := zz (decide (vk v ≤ 1))) (rest := []) dm_X12_picks_2 rfl (q_inv (As := [ii (hd : Int)]) (S := []) hm rfl rfl rfl) rfl rfl rfl (r_isOne_ hm (by omega) hB0 hv) ?_
  refine y_zne (c := decide (vk v ≤ 1)) (t := 18) (pc' := 8) dm_X12_picks_5 rfl rfl (fun hb1 => ?_) (fun hb1 => ?_)
  · replace hb1 := dT hb1
    refine me1 (pc' := 19) (L' := [(0, .ref 102), (1, ii (hd : Int)), (2, ii (hd2 : Int)), (3, ii place)]) (S' := [.ref 102]) dm_X12_picks_18 rfl rfl rfl rfl ?_
    refine me0 (pc' := 20) (S' := [ii 3, .ref 102]) dm_X12_picks_19 rfl rfl rfl rfl ?_
    refine me1 (pc' := 21) (L' := [(0, .ref 102), (1, ii (hd : Int)), (2, ii (hd2 : Int)), (3, ii place)]) (S' := [ii place, ii 3, .ref 102]) dm_X12_picks_20 rfl rfl rfl rfl ?_
    refine x_cv (pc' := 24) (rest := []) dm_X12_picks_21 rfl (q_inv (As := [ii 3, ii place]) (S := []) hm rfl rfl rfl) rfl rfl rfl (r_fail_ (s := s) hm (by omega) he0 hca.1 hca.2) ?_
    rintro _ _ ⟨rfl, rfl⟩
    refine y_ret (r := some (ii (-1))) dm_X12_picks_24 rfl rfl rfl ?_
    rw [show d_at v w = .inl 3 from by unfold d_at; rw [show askP v w = 3 by unfold askP; rw [if_pos (by omega)], if_pos (by decide)]]
    exact ⟨_, rfl, rres_fail (rpre_rf s) he0⟩
  · replace hb1 := dF hb1
    refine me1 (pc' := 9) (L' := [(0, .ref 102), (1, ii (hd : Int)), (2, ii (hd2 : Int)), (3, ii place)]) (S' := [.ref 102]) dm_X12_picks_8 rfl rfl rfl rfl ?_
    refine me1 (pc' := 10) (L' := [(0, .ref 102), (1, ii (hd : Int)), (2, ii (hd2 : Int)), (3, ii place)]) (S' := [ii (hd2 : Int), .ref 102]) dm_X12_picks_9 rfl rfl rfl rfl ?_
    refine x_cp (pc' := 13) (v := ii (vk w : Int)) (rest := []) dm_X12_picks_10 rfl (q_inv (As := [ii (hd2 : Int)]) (S := []) hm rfl rfl rfl) rfl rfl rfl (r_kindOf_ hm (by omega) hB0 hw) ?_
    refine me0 (pc' := 15) (S' := [ii 6, ii (vk w : Int)]) dm_X12_picks_13 rfl rfl rfl rfl ?_
    refine y_2lt (a := (vk w : Int)) (b := 6) (t := 25) (pc' := 18) dm_X12_picks_15 rfl rfl (by omega) (fun hb2 => ?_) (fun hb2 => ?_)
    · refine me1 (pc' := 26) (L' := [(0, .ref 102), (1, ii (hd : Int)), (2, ii (hd2 : Int)), (3, ii place)]) (S' := [.ref 102]) dm_X12_picks_25 rfl rfl rfl rfl ?_
      refine me1 (pc' := 27) (L' := [(0, .ref 102), (1, ii (hd : Int)), (2, ii (hd2 : Int)), (3, ii place)]) (S' := [ii (hd2 : Int), .ref 102]) dm_X12_picks_26 rfl rfl rfl rfl ?_
      refine x_cp (pc' := 30) (v := ii (vk w : Int)) (rest := []) dm_X12_picks_27 rfl (q_inv (As := [ii (hd2 : Int)]) (S := []) hm rfl rfl rfl) rfl rfl rfl (r_kindOf_ hm (by omega) hB0 hw) ?_
      refine me0 (pc' := 31) (S' := [ii 1, ii (vk w : Int)]) dm_X12_picks_30 rfl rfl rfl rfl ?_
      refine y_2eq (a := (vk w : Int)) (b := 1) (t := 43) (pc' := 34) dm_X12_picks_31 rfl rfl (by omega) (fun hb3 => ?_) (fun hb3 => ?_)
      · refine me1 (pc' := 44) (L' := [(0, .ref 102), (1, ii (hd : Int)), (2, ii (hd2 : Int)), (3, ii place)]) (S' := [.ref 102]) dm_X12_picks_43 rfl rfl rfl rfl ?_
        refine me0 (pc' := 45) (S' := [ii 5, .ref 102]) dm_X12_picks_44 rfl rfl rfl rfl ?_
        refine me1 (pc' := 46) (L' := [(0, .ref 102), (1, ii (hd : Int)), (2, ii (hd2 : Int)), (3, ii place)]) (S' := [ii place, ii 5, .ref 102]) dm_X12_picks_45 rfl rfl rfl rfl ?_
        refine x_cv (pc' := 49) (rest := []) dm_X12_picks_46 rfl (q_inv (As := [ii 5, ii place]) (S := []) hm rfl rfl rfl) rfl rfl rfl (r_fail_ (s := s) hm (by omega) he0 hca.1 hca.2) ?_
        rintro _ _ ⟨rfl, rfl⟩
        refine y_ret (r := some (ii (-1))) dm_X12_picks_49 rfl rfl rfl ?_
        rw [show d_at v w = .inl 5 from by unfold d_at; rw [show askP v w = 5 by unfold askP; rw [if_neg (by omega), if_pos (by omega)], if_pos (by decide)]]
        exact ⟨_, rfl, rres_fail (rpre_rf s) he0⟩
      · refine me1 (pc' := 35) (L' := [(0, .ref 102), (1, ii (hd : Int)), (2, ii (hd2 : Int)), (3, ii place)]) (S' := [.ref 102]) dm_X12_picks_34 rfl rfl rfl rfl ?_
        refine me1 (pc' := 36) (L' := [(0, .ref 102), (1, ii (hd : Int)), (2, ii (hd2 : Int)), (3, ii place)]) (S' := [ii (hd2 : Int), .ref 102]) dm_X12_picks_35 rfl rfl rfl rfl ?_
        refine x_cp (pc' := 39) (v := ii (vk w : Int)) (rest := []) dm_X12_picks_36 rfl (q_inv (As := [ii (hd2 : Int)]) (S := []) hm rfl rfl rfl) rfl rfl rfl (r_kindOf_ hm (by omega) hB0 hw) ?_
        refine me0 (pc' := 40) (S' := [ii 3, ii (vk w : Int)]) dm_X12_picks_39 rfl rfl rfl rfl ?_
        refine y_2ne (a := (vk w : Int)) (b := 3) (t := 50) (pc' := 43) dm_X12_picks_40 rfl rfl (by omega) (fun hb4 => ?_) (fun hb4 => ?_)
        · refine me1 (pc' := 51) (L' := [(0, .ref 102), (1, ii (hd : Int)), (2, ii (hd2 : Int)), (3, ii place)]) (S' := [.ref 102]) dm_X12_picks_50 rfl rfl rfl rfl ?_
          refine me1 (pc' := 52) (L' := [(0, .ref 102), (1, ii (hd : Int)), (2, ii (hd2 : Int)), (3, ii place)]) (S' := [ii (hd2 : Int), .ref 102]) dm_X12_picks_51 rfl rfl rfl rfl ?_
          refine x_cp (pc' := 55) (v := zz (decide (vk w ≤ 1))) (rest := []) dm_X12_picks_52 rfl (q_inv (As := [ii (hd2 : Int)]) (S := []) hm rfl rfl rfl) rfl rfl rfl (r_isOne_ hm (by omega) hB0 hw) ?_
          refine y_zne (c := decide (vk w ≤ 1)) (t := 83) (pc' := 58) dm_X12_picks_55 rfl rfl (fun hb5 => ?_) (fun hb5 => ?_)
          · replace hb5 := dT hb5
            refine me0 (pc' := 84) (S' := [ii 0]) dm_X12_picks_83 rfl rfl rfl rfl ?_
            refine me1 (pc' := 86) (L' := [(4, ii 0), (0, .ref 102), (1, ii (hd : Int)), (2, ii (hd2 : Int)), (3, ii place)]) (S' := []) dm_X12_picks_84 rfl rfl rfl rfl ?_
            have lp86 : ∀ (n86 : Nat) (k : Nat) (P : Nat → Int), vm w - k = n86 → (k ≤ vm w) → (∀ j, j < k → P j = (vn w j).toInt ∧ 0 ≤ (vn w j).toInt ∧ (vn w j).toInt < (vm v : Int)) → pgE xt (d - 1) 12 7 false (Option.some Jvm.ClassFile.FieldType.int) (mj_dec prog_14_method_60_code) 86 [(0, .ref 102), (1, ii (hd : Int)), (2, ii (hd2 : Int)), (3, ii place), (4, ii ((k : Nat) : Int))] [] (rI pre post ((ordS s P).1) ((ordS s P).2.1) ((ordS s P).2.2.1) ((ordS s P).2.2.2)) (fun r h' => ∃ x, r = some x ∧ rres pre post s (e + 1) (d_at v w) place 144 1 x h') := by
              intro n86
              induction n86 using Nat.strongRecOn with
              | ind n86 ih86 =>
                intro k P hm86 hk hP
                refine me1 (pc' := 88) (L' := [(0, .ref 102), (1, ii (hd : Int)), (2, ii (hd2 : Int)), (3, ii place), (4, ii ((k : Nat) : Int))]) (S' := [ii ((k : Nat) : Int)]) dm_X12_picks_86 rfl rfl rfl rfl ?_
                refine me1 (pc' := 89) (L' := [(0, .ref 102), (1, ii (hd : Int)), (2, ii (hd2 : Int)), (3, ii place), (4, ii ((k : Nat) : Int))]) (S' := [.ref 102, ii ((k : Nat) : Int)]) dm_X12_picks_88 rfl rfl rfl rfl ?_
                refine me1 (pc' := 90) (L' := [(0, .ref 102), (1, ii (hd : Int)), (2, ii (hd2 : Int)), (3, ii place), (4, ii ((k : Nat) : Int))]) (S' := [ii (hd2 : Int), .ref 102, ii ((k : Nat) : Int)]) dm_X12_picks_89 rfl rfl rfl rfl ?_
                refine x_cp (pc' := 93) (v := ii (vm w : Int)) (rest := [ii ((k : Nat) : Int)]) dm_X12_picks_90 rfl (q_inv (As := [ii (hd2 : Int)]) (S := [ii ((k : Nat) : Int)]) hm rfl rfl rfl) rfl rfl rfl (r_many_ hm (by omega) (rB_ord hB0) (rv_ord hh4 hw)) ?_
                refine y_2ge (a := ((k : Nat) : Int)) (b := (vm w : Int)) (t := 148) (pc' := 96) dm_X12_picks_93 rfl rfl (by omega) (fun hb6 => ?_) (fun hb6 => ?_)
                · refine me1 (pc' := 149) (L' := [(0, .ref 102), (1, ii (hd : Int)), (2, ii (hd2 : Int)), (3, ii place), (4, ii ((k : Nat) : Int))]) (S' := [.ref 102]) dm_X12_picks_148 rfl rfl rfl rfl ?_
                  refine me1 (pc' := 150) (L' := [(0, .ref 102), (1, ii (hd : Int)), (2, ii (hd2 : Int)), (3, ii place), (4, ii ((k : Nat) : Int))]) (S' := [ii (hd2 : Int), .ref 102]) dm_X12_picks_149 rfl rfl rfl rfl ?_
                  refine x_cp (pc' := 153) (v := zz (decide (vk w ≤ 1))) (rest := []) dm_X12_picks_150 rfl (q_inv (As := [ii (hd2 : Int)]) (S := []) hm rfl rfl rfl) rfl rfl rfl (r_isOne_ hm (by omega) (rB_ord hB0) (rv_ord hh4 hw)) ?_
                  refine y_zeq (c := decide (vk w ≤ 1)) (t := 168) (pc' := 156) dm_X12_picks_153 rfl rfl (fun hb7 => ?_) (fun hb7 => ?_)
                  · replace hb7 := dF hb7
                    refine me1 (pc' := 169) (L' := [(0, .ref 102), (1, ii (hd : Int)), (2, ii (hd2 : Int)), (3, ii place), (4, ii ((k : Nat) : Int))]) (S' := [.ref 102]) dm_X12_picks_168 rfl rfl rfl rfl ?_
                    refine me1 (pc' := 170) (L' := [(0, .ref 102), (1, ii (hd : Int)), (2, ii (hd2 : Int)), (3, ii place), (4, ii ((k : Nat) : Int))]) (S' := [ii (hd2 : Int), .ref 102]) dm_X12_picks_169 rfl rfl rfl rfl ?_
                    refine x_cp (pc' := 173) (v := ii (vm w : Int)) (rest := []) dm_X12_picks_170 rfl (q_inv (As := [ii (hd2 : Int)]) (S := []) hm rfl rfl rfl) rfl rfl rfl (r_many_ hm (by omega) (rB_ord hB0) (rv_ord hh4 hw)) ?_
                    refine me1 (pc' := 174) (L' := [(0, .ref 102), (1, ii (hd : Int)), (2, ii (hd2 : Int)), (3, ii place), (4, ii ((k : Nat) : Int))]) (S' := [.ref 102, ii (vm w : Int)]) dm_X12_picks_173 rfl rfl rfl rfl ?_
                    refine me1 (pc' := 175) (L' := [(0, .ref 102), (1, ii (hd : Int)), (2, ii (hd2 : Int)), (3, ii place), (4, ii ((k : Nat) : Int))]) (S' := [ii (hd : Int), .ref 102, ii (vm w : Int)]) dm_X12_picks_174 rfl rfl rfl rfl ?_
                    refine x_cp (pc' := 178) (v := ii (vk v : Int)) (rest := [ii (vm w : Int)]) dm_X12_picks_175 rfl (q_inv (As := [ii (hd : Int)]) (S := [ii (vm w : Int)]) hm rfl rfl rfl) rfl rfl rfl (r_kindOf_ hm (by omega) (rB_ord hB0) (rv_ord hh3 hv)) ?_
                    refine me0 (pc' := 180) (S' := [ii 7, ii (vk v : Int), ii (vm w : Int)]) dm_X12_picks_178 rfl rfl rfl rfl ?_
                    refine y_2ne (a := (vk v : Int)) (b := 7) (t := 188) (pc' := 183) dm_X12_picks_180 rfl rfl (by omega) (fun hb8 => ?_) (fun hb8 => ?_)
                    · refine me1 (pc' := 189) (L' := [(0, .ref 102), (1, ii (hd : Int)), (2, ii (hd2 : Int)), (3, ii place), (4, ii ((k : Nat) : Int))]) (S' := [.ref 102, ii (vm w : Int)]) dm_X12_picks_188 rfl rfl rfl rfl ?_
                      refine me1 (pc' := 190) (L' := [(0, .ref 102), (1, ii (hd : Int)), (2, ii (hd2 : Int)), (3, ii place), (4, ii ((k : Nat) : Int))]) (S' := [ii (hd : Int), .ref 102, ii (vm w : Int)]) dm_X12_picks_189 rfl rfl rfl rfl ?_
                      refine x_cp (pc' := 193) (v := ii (vk v : Int)) (rest := [ii (vm w : Int)]) dm_X12_picks_190 rfl (q_inv (As := [ii (hd : Int)]) (S := [ii (vm w : Int)]) hm rfl rfl rfl) rfl rfl rfl (r_kindOf_ hm (by omega) (rB_ord hB0) (rv_ord hh3 hv)) ?_
                      refine me0 (pc' := 195) (S' := [ii 6, ii (vk v : Int), ii (vm w : Int)]) dm_X12_picks_193 rfl rfl rfl rfl ?_
                      refine y_2ne (a := (vk v : Int)) (b := 6) (t := 203) (pc' := 198) dm_X12_picks_195 rfl rfl (by omega) (fun hb9 => ?_) (fun hb9 => ?_)
                      · refine me0 (pc' := 205) (S' := [ii 120, ii (vm w : Int)]) dm_X12_picks_203 rfl rfl rfl rfl ?_
                        refine y_2le (a := (vm w : Int)) (b := 120) (t := 216) (pc' := 208) dm_X12_picks_205 rfl rfl (by omega) (fun hb10 => ?_) (fun hb10 => ?_)
                        · refine me1 (pc' := 217) (L' := [(0, .ref 102), (1, ii (hd : Int)), (2, ii (hd2 : Int)), (3, ii place), (4, ii ((k : Nat) : Int))]) (S' := [.ref 102]) dm_X12_picks_216 rfl rfl rfl rfl ?_
                          refine me1 (pc' := 218) (L' := [(0, .ref 102), (1, ii (hd : Int)), (2, ii (hd2 : Int)), (3, ii place), (4, ii ((k : Nat) : Int))]) (S' := [ii (hd : Int), .ref 102]) dm_X12_picks_217 rfl rfl rfl rfl ?_
                          refine me1 (pc' := 219) (L' := [(0, .ref 102), (1, ii (hd : Int)), (2, ii (hd2 : Int)), (3, ii place), (4, ii ((k : Nat) : Int))]) (S' := [.ref 102, ii (hd : Int), .ref 102]) dm_X12_picks_218 rfl rfl rfl rfl ?_
                          refine me1 (pc' := 220) (L' := [(0, .ref 102), (1, ii (hd : Int)), (2, ii (hd2 : Int)), (3, ii place), (4, ii ((k : Nat) : Int))]) (S' := [ii (hd2 : Int), .ref 102, ii (hd : Int), .ref 102]) dm_X12_picks_219 rfl rfl rfl rfl ?_
                          refine x_cp (pc' := 223) (v := ii (vm w : Int)) (rest := [ii (hd : Int), .ref 102]) dm_X12_picks_220 rfl (q_inv (As := [ii (hd2 : Int)]) (S := [ii (hd : Int), .ref 102]) hm rfl rfl rfl) rfl rfl rfl (r_many_ hm (by omega) (rB_ord hB0) (rv_ord hh4 hw)) ?_
                          have hal : allP v w = true := allN_iff.mpr (fun j hj => decide_eq_true (by have := hP j (by omega); omega))
                          have hpc : pcl v (vm w) ≤ 144 := by unfold pcl; split; (have hm12 := Nat.mul_le_mul (show vm w ≤ 12 by omega) hvc; omega); omega
                          have hOO : ∀ j, j < vm w → 0 ≤ (ordS s P).2.2.1 14 j ∧ (ordS s P).2.2.1 14 j < vm v := fun j hj => by rw [ordS_14]; have := hP j (by omega); omega
                          refine x_cv (pc' := 226) (rest := []) dm_X12_picks_223 rfl (q_inv (As := [ii (hd : Int), ii (vm w : Int)]) (S := []) hm rfl rfl rfl) rfl rfl rfl (r_picked_ (s := ordS s P) (q := q) (b := b) (n := vm w) (place := place) hm (by omega) (rB_ord hB0) (rv_ord hh3 hv) hh3 hq hb hq3 hV2 he0 (by omega) (by omega) (by omega) (by omega) hOO) ?_
                          rintro _ _ ⟨t1, rfl, r1, r2, r3, r4, r5, r6, p1, r7, rfl, r8⟩
                          refine y_ret (r := some (ii (p1 : Int))) dm_X12_picks_226 rfl rfl rfl ?_
                          rw [show d_at v w = .inr (vpick v (fun k => (vn w k).toInt.toNat) (vm w)) by unfold d_at; rw [if_neg (by omega), if_neg (by omega), if_neg (by rw [hal]; decide), if_neg (by omega)]; by_cases z7 : vk v = 7; (exact s_pick_7 z7 (by omega)); first | exact s_pick_6 (by omega) (by omega) (by omega) | exact s_pick_r (by omega)]
                          refine ⟨_, rfl, rres_up (rres_bk (rpre_ord s P) (rres_ve (vpick_congr (by omega) (fun j hj => ?_)) ⟨t1, rfl, r1, r2, r3, r4, r5, r6, p1, r7, rfl, r8⟩)) hpc (Nat.le_refl _)⟩
                          show ((ordS s P).2.2.1 14 j).toNat = _
                          rw [ordS_14, (hP j (by omega)).1]
                        · refine me1 (pc' := 209) (L' := [(0, .ref 102), (1, ii (hd : Int)), (2, ii (hd2 : Int)), (3, ii place), (4, ii ((k : Nat) : Int))]) (S' := [.ref 102]) dm_X12_picks_208 rfl rfl rfl rfl ?_
                          refine me0 (pc' := 211) (S' := [ii 8, .ref 102]) dm_X12_picks_209 rfl rfl rfl rfl ?_
                          refine me1 (pc' := 212) (L' := [(0, .ref 102), (1, ii (hd : Int)), (2, ii (hd2 : Int)), (3, ii place), (4, ii ((k : Nat) : Int))]) (S' := [ii place, ii 8, .ref 102]) dm_X12_picks_211 rfl rfl rfl rfl ?_
                          refine x_cv (pc' := 215) (rest := []) dm_X12_picks_212 rfl (q_inv (As := [ii 8, ii place]) (S := []) hm rfl rfl rfl) rfl rfl rfl (r_fail_ (s := (ordS s P)) hm (by omega) he0 hca.1 hca.2) ?_
                          rintro _ _ ⟨rfl, rfl⟩
                          refine y_ret (r := some (ii (-1))) dm_X12_picks_215 rfl rfl rfl ?_
                          have hal : allP v w = true := allN_iff.mpr (fun j hj => decide_eq_true (by have := hP j (by omega); omega))
                          rw [show d_at v w = .inl 8 from by first | (exfalso; omega) | (unfold d_at; rw [if_neg (by omega), if_neg (by omega), if_neg (by rw [hal]; decide), if_neg (by omega)]; first | exact s_pick_7e (by omega) (by omega) | exact s_pick_6e (by omega) (by omega))]
                          exact ⟨_, rfl, rres_fail (rpre_ord s P) he0⟩
                      · refine me0 (pc' := 200) (S' := [ii 12, ii (vm w : Int)]) dm_X12_picks_198 rfl rfl rfl rfl ?_
                        refine me2 (pc' := 205) (S' := [ii 12, ii (vm w : Int)]) dm_X12_picks_200 rfl rfl rfl ?_
                        refine y_2le (a := (vm w : Int)) (b := 12) (t := 216) (pc' := 208) dm_X12_picks_205 rfl rfl (by omega) (fun hb11 => ?_) (fun hb11 => ?_)
                        · refine me1 (pc' := 217) (L' := [(0, .ref 102), (1, ii (hd : Int)), (2, ii (hd2 : Int)), (3, ii place), (4, ii ((k : Nat) : Int))]) (S' := [.ref 102]) dm_X12_picks_216 rfl rfl rfl rfl ?_
                          refine me1 (pc' := 218) (L' := [(0, .ref 102), (1, ii (hd : Int)), (2, ii (hd2 : Int)), (3, ii place), (4, ii ((k : Nat) : Int))]) (S' := [ii (hd : Int), .ref 102]) dm_X12_picks_217 rfl rfl rfl rfl ?_
                          refine me1 (pc' := 219) (L' := [(0, .ref 102), (1, ii (hd : Int)), (2, ii (hd2 : Int)), (3, ii place), (4, ii ((k : Nat) : Int))]) (S' := [.ref 102, ii (hd : Int), .ref 102]) dm_X12_picks_218 rfl rfl rfl rfl ?_
                          refine me1 (pc' := 220) (L' := [(0, .ref 102), (1, ii (hd : Int)), (2, ii (hd2 : Int)), (3, ii place), (4, ii ((k : Nat) : Int))]) (S' := [ii (hd2 : Int), .ref 102, ii (hd : Int), .ref 102]) dm_X12_picks_219 rfl rfl rfl rfl ?_
                          refine x_cp (pc' := 223) (v := ii (vm w : Int)) (rest := [ii (hd : Int), .ref 102]) dm_X12_picks_220 rfl (q_inv (As := [ii (hd2 : Int)]) (S := [ii (hd : Int), .ref 102]) hm rfl rfl rfl) rfl rfl rfl (r_many_ hm (by omega) (rB_ord hB0) (rv_ord hh4 hw)) ?_
                          have hal : allP v w = true := allN_iff.mpr (fun j hj => decide_eq_true (by have := hP j (by omega); omega))
                          have hpc : pcl v (vm w) ≤ 144 := by unfold pcl; split; (have hm12 := Nat.mul_le_mul (show vm w ≤ 12 by omega) hvc; omega); omega
                          have hOO : ∀ j, j < vm w → 0 ≤ (ordS s P).2.2.1 14 j ∧ (ordS s P).2.2.1 14 j < vm v := fun j hj => by rw [ordS_14]; have := hP j (by omega); omega
                          refine x_cv (pc' := 226) (rest := []) dm_X12_picks_223 rfl (q_inv (As := [ii (hd : Int), ii (vm w : Int)]) (S := []) hm rfl rfl rfl) rfl rfl rfl (r_picked_ (s := ordS s P) (q := q) (b := b) (n := vm w) (place := place) hm (by omega) (rB_ord hB0) (rv_ord hh3 hv) hh3 hq hb hq3 hV2 he0 (by omega) (by omega) (by omega) (by omega) hOO) ?_
                          rintro _ _ ⟨t1, rfl, r1, r2, r3, r4, r5, r6, p1, r7, rfl, r8⟩
                          refine y_ret (r := some (ii (p1 : Int))) dm_X12_picks_226 rfl rfl rfl ?_
                          rw [show d_at v w = .inr (vpick v (fun k => (vn w k).toInt.toNat) (vm w)) by unfold d_at; rw [if_neg (by omega), if_neg (by omega), if_neg (by rw [hal]; decide), if_neg (by omega)]; by_cases z7 : vk v = 7; (exact s_pick_7 z7 (by omega)); first | exact s_pick_6 (by omega) (by omega) (by omega) | exact s_pick_r (by omega)]
                          refine ⟨_, rfl, rres_up (rres_bk (rpre_ord s P) (rres_ve (vpick_congr (by omega) (fun j hj => ?_)) ⟨t1, rfl, r1, r2, r3, r4, r5, r6, p1, r7, rfl, r8⟩)) hpc (Nat.le_refl _)⟩
                          show ((ordS s P).2.2.1 14 j).toNat = _
                          rw [ordS_14, (hP j (by omega)).1]
                        · refine me1 (pc' := 209) (L' := [(0, .ref 102), (1, ii (hd : Int)), (2, ii (hd2 : Int)), (3, ii place), (4, ii ((k : Nat) : Int))]) (S' := [.ref 102]) dm_X12_picks_208 rfl rfl rfl rfl ?_
                          refine me0 (pc' := 211) (S' := [ii 8, .ref 102]) dm_X12_picks_209 rfl rfl rfl rfl ?_
                          refine me1 (pc' := 212) (L' := [(0, .ref 102), (1, ii (hd : Int)), (2, ii (hd2 : Int)), (3, ii place), (4, ii ((k : Nat) : Int))]) (S' := [ii place, ii 8, .ref 102]) dm_X12_picks_211 rfl rfl rfl rfl ?_
                          refine x_cv (pc' := 215) (rest := []) dm_X12_picks_212 rfl (q_inv (As := [ii 8, ii place]) (S := []) hm rfl rfl rfl) rfl rfl rfl (r_fail_ (s := (ordS s P)) hm (by omega) he0 hca.1 hca.2) ?_
                          rintro _ _ ⟨rfl, rfl⟩
                          refine y_ret (r := some (ii (-1))) dm_X12_picks_215 rfl rfl rfl ?_
                          have hal : allP v w = true := allN_iff.mpr (fun j hj => decide_eq_true (by have := hP j (by omega); omega))
                          rw [show d_at v w = .inl 8 from by first | (exfalso; omega) | (unfold d_at; rw [if_neg (by omega), if_neg (by omega), if_neg (by rw [hal]; decide), if_neg (by omega)]; first | exact s_pick_7e (by omega) (by omega) | exact s_pick_6e (by omega) (by omega))]
                          exact ⟨_, rfl, rres_fail (rpre_ord s P) he0⟩
                    · refine me0 (pc' := 185) (S' := [ii 24, ii (vm w : Int)]) dm_X12_picks_183 rfl rfl rfl rfl ?_
                      refine me2 (pc' := 205) (S' := [ii 24, ii (vm w : Int)]) dm_X12_picks_185 rfl rfl rfl ?_
                      refine y_2le (a := (vm w : Int)) (b := 24) (t := 216) (pc' := 208) dm_X12_picks_205 rfl rfl (by omega) (fun hb12 => ?_) (fun hb12 => ?_)
                      · refine me1 (pc' := 217) (L' := [(0, .ref 102), (1, ii (hd : Int)), (2, ii (hd2 : Int)), (3, ii place), (4, ii ((k : Nat) : Int))]) (S' := [.ref 102]) dm_X12_picks_216 rfl rfl rfl rfl ?_
                        refine me1 (pc' := 218) (L' := [(0, .ref 102), (1, ii (hd : Int)), (2, ii (hd2 : Int)), (3, ii place), (4, ii ((k : Nat) : Int))]) (S' := [ii (hd : Int), .ref 102]) dm_X12_picks_217 rfl rfl rfl rfl ?_
                        refine me1 (pc' := 219) (L' := [(0, .ref 102), (1, ii (hd : Int)), (2, ii (hd2 : Int)), (3, ii place), (4, ii ((k : Nat) : Int))]) (S' := [.ref 102, ii (hd : Int), .ref 102]) dm_X12_picks_218 rfl rfl rfl rfl ?_
                        refine me1 (pc' := 220) (L' := [(0, .ref 102), (1, ii (hd : Int)), (2, ii (hd2 : Int)), (3, ii place), (4, ii ((k : Nat) : Int))]) (S' := [ii (hd2 : Int), .ref 102, ii (hd : Int), .ref 102]) dm_X12_picks_219 rfl rfl rfl rfl ?_
                        refine x_cp (pc' := 223) (v := ii (vm w : Int)) (rest := [ii (hd : Int), .ref 102]) dm_X12_picks_220 rfl (q_inv (As := [ii (hd2 : Int)]) (S := [ii (hd : Int), .ref 102]) hm rfl rfl rfl) rfl rfl rfl (r_many_ hm (by omega) (rB_ord hB0) (rv_ord hh4 hw)) ?_
                        have hal : allP v w = true := allN_iff.mpr (fun j hj => decide_eq_true (by have := hP j (by omega); omega))
                        have hpc : pcl v (vm w) ≤ 144 := by unfold pcl; split; (have hm12 := Nat.mul_le_mul (show vm w ≤ 12 by omega) hvc; omega); omega
                        have hOO : ∀ j, j < vm w → 0 ≤ (ordS s P).2.2.1 14 j ∧ (ordS s P).2.2.1 14 j < vm v := fun j hj => by rw [ordS_14]; have := hP j (by omega); omega
                        refine x_cv (pc' := 226) (rest := []) dm_X12_picks_223 rfl (q_inv (As := [ii (hd : Int), ii (vm w : Int)]) (S := []) hm rfl rfl rfl) rfl rfl rfl (r_picked_ (s := ordS s P) (q := q) (b := b) (n := vm w) (place := place) hm (by omega) (rB_ord hB0) (rv_ord hh3 hv) hh3 hq hb hq3 hV2 he0 (by omega) (by omega) (by omega) (by omega) hOO) ?_
                        rintro _ _ ⟨t1, rfl, r1, r2, r3, r4, r5, r6, p1, r7, rfl, r8⟩
                        refine y_ret (r := some (ii (p1 : Int))) dm_X12_picks_226 rfl rfl rfl ?_
                        rw [show d_at v w = .inr (vpick v (fun k => (vn w k).toInt.toNat) (vm w)) by unfold d_at; rw [if_neg (by omega), if_neg (by omega), if_neg (by rw [hal]; decide), if_neg (by omega)]; by_cases z7 : vk v = 7; (exact s_pick_7 z7 (by omega)); first | exact s_pick_6 (by omega) (by omega) (by omega) | exact s_pick_r (by omega)]
                        refine ⟨_, rfl, rres_up (rres_bk (rpre_ord s P) (rres_ve (vpick_congr (by omega) (fun j hj => ?_)) ⟨t1, rfl, r1, r2, r3, r4, r5, r6, p1, r7, rfl, r8⟩)) hpc (Nat.le_refl _)⟩
                        show ((ordS s P).2.2.1 14 j).toNat = _
                        rw [ordS_14, (hP j (by omega)).1]
                      · refine me1 (pc' := 209) (L' := [(0, .ref 102), (1, ii (hd : Int)), (2, ii (hd2 : Int)), (3, ii place), (4, ii ((k : Nat) : Int))]) (S' := [.ref 102]) dm_X12_picks_208 rfl rfl rfl rfl ?_
                        refine me0 (pc' := 211) (S' := [ii 8, .ref 102]) dm_X12_picks_209 rfl rfl rfl rfl ?_
                        refine me1 (pc' := 212) (L' := [(0, .ref 102), (1, ii (hd : Int)), (2, ii (hd2 : Int)), (3, ii place), (4, ii ((k : Nat) : Int))]) (S' := [ii place, ii 8, .ref 102]) dm_X12_picks_211 rfl rfl rfl rfl ?_
                        refine x_cv (pc' := 215) (rest := []) dm_X12_picks_212 rfl (q_inv (As := [ii 8, ii place]) (S := []) hm rfl rfl rfl) rfl rfl rfl (r_fail_ (s := (ordS s P)) hm (by omega) he0 hca.1 hca.2) ?_
                        rintro _ _ ⟨rfl, rfl⟩
                        refine y_ret (r := some (ii (-1))) dm_X12_picks_215 rfl rfl rfl ?_
                        have hal : allP v w = true := allN_iff.mpr (fun j hj => decide_eq_true (by have := hP j (by omega); omega))
                        rw [show d_at v w = .inl 8 from by first | (exfalso; omega) | (unfold d_at; rw [if_neg (by omega), if_neg (by omega), if_neg (by rw [hal]; decide), if_neg (by omega)]; first | exact s_pick_7e (by omega) (by omega) | exact s_pick_6e (by omega) (by omega))]
                        exact ⟨_, rfl, rres_fail (rpre_ord s P) he0⟩
                  · replace hb7 := dT hb7
                    refine me1 (pc' := 157) (L' := [(0, .ref 102), (1, ii (hd : Int)), (2, ii (hd2 : Int)), (3, ii place), (4, ii ((k : Nat) : Int))]) (S' := [.ref 102]) dm_X12_picks_156 rfl rfl rfl rfl ?_
                    refine me1 (pc' := 158) (L' := [(0, .ref 102), (1, ii (hd : Int)), (2, ii (hd2 : Int)), (3, ii place), (4, ii ((k : Nat) : Int))]) (S' := [ii (hd : Int), .ref 102]) dm_X12_picks_157 rfl rfl rfl rfl ?_
                    refine me1 (pc' := 159) (L' := [(0, .ref 102), (1, ii (hd : Int)), (2, ii (hd2 : Int)), (3, ii place), (4, ii ((k : Nat) : Int))]) (S' := [.ref 102, ii (hd : Int), .ref 102]) dm_X12_picks_158 rfl rfl rfl rfl ?_
                    refine me3 (pc' := 162) (S' := [.ref (102 + 5), ii (hd : Int), .ref 102]) dm_X12_picks_159 (q_getr hm rfl (fun m i l => rg_14 m i l)) rfl rfl rfl ?_
                    refine me0 (pc' := 163) (S' := [ii 0, .ref (102 + 5), ii (hd : Int), .ref 102]) dm_X12_picks_162 rfl rfl rfl rfl ?_
                    refine me3 (pc' := 164) (S' := [ii ((((ordS s P).2.2.1) 14) 0), ii (hd : Int), .ref 102]) dm_X12_picks_163 (q_iald (v := (((ordS s P).2.2.1) 14) 0) (k := 14) (n := 260) hm (fun m i l I J => rc_14 m i l I J) (by omega) (by omega) (by decide) rfl) rfl rfl rfl ?_
                    have hal : allP v w = true := allN_iff.mpr (fun j hj => decide_eq_true (by have := hP j (by omega); omega))
                    have hP0 := hP 0 (by omega)
                    refine pg_st (S' := [ii (((vn w 0).toInt.toNat : Nat) : Int), ii (hd : Int), .ref 102]) (congrArg (fun z => ii z :: [ii (hd : Int), .ref 102]) (show (ordS s P).2.2.1 14 0 = _ by rw [ordS_14, hP0.1]; omega)) ?_
                    refine x_cv (pc' := 167) (rest := []) dm_X12_picks_164 rfl (q_inv (As := [ii (hd : Int), ii (((vn w 0).toInt.toNat : Nat) : Int)]) (S := []) hm rfl rfl rfl) rfl rfl rfl (r_itemOf_ (s := ordS s P) (q := q) (b := b) (place := place) (k := (vn w 0).toInt.toNat) hm (by omega) (rB_ord hB0) (rv_ord hh3 hv) hh3 hq hb hq3 hV2 he0 hca hC (by omega) (by omega)) ?_
                    rintro _ _ ⟨t1, rfl, r1, r2, r3, r4, r5, r6, p1, r7, rfl, r8⟩
                    refine y_ret (r := some (ii (p1 : Int))) dm_X12_picks_167 rfl rfl rfl ?_
                    rw [show d_at v w = .inr (vit v (vn w 0).toInt.toNat) by unfold d_at; rw [if_neg (by omega), if_neg (by omega), if_neg (by rw [hal]; decide), if_pos (by omega)]]
                    exact ⟨_, rfl, rres_up (rres_bk (rpre_ord s P) ⟨t1, rfl, r1, r2, r3, r4, r5, r6, p1, r7, rfl, r8⟩) (by omega) (Nat.le_refl _)⟩
                · refine me1 (pc' := 97) (L' := [(0, .ref 102), (1, ii (hd : Int)), (2, ii (hd2 : Int)), (3, ii place), (4, ii ((k : Nat) : Int))]) (S' := [.ref 102]) dm_X12_picks_96 rfl rfl rfl rfl ?_
                  refine me1 (pc' := 98) (L' := [(0, .ref 102), (1, ii (hd : Int)), (2, ii (hd2 : Int)), (3, ii place), (4, ii ((k : Nat) : Int))]) (S' := [ii (hd2 : Int), .ref 102]) dm_X12_picks_97 rfl rfl rfl rfl ?_
                  refine me1 (pc' := 100) (L' := [(0, .ref 102), (1, ii (hd : Int)), (2, ii (hd2 : Int)), (3, ii place), (4, ii ((k : Nat) : Int))]) (S' := [ii ((k : Nat) : Int), ii (hd2 : Int), .ref 102]) dm_X12_picks_98 rfl rfl rfl rfl ?_
                  refine x_cp (pc' := 103) (v := .long (vn w k)) (rest := []) dm_X12_picks_100 rfl (q_inv (As := [ii (hd2 : Int), ii ((k : Nat) : Int)]) (S := []) hm rfl rfl rfl) rfl rfl rfl (r_number_ (k := k) hm (by omega) (rB_ord hB0) (rv_ord hh4 hw) (by omega) (by omega)) ?_
                  refine me1 (pc' := 105) (L' := [(5, .long (vn w k)), (0, .ref 102), (1, ii (hd : Int)), (2, ii (hd2 : Int)), (3, ii place), (4, ii ((k : Nat) : Int))]) (S' := []) dm_X12_picks_103 rfl rfl rfl rfl ?_
                  refine me1 (pc' := 107) (L' := [(5, .long (vn w k)), (0, .ref 102), (1, ii (hd : Int)), (2, ii (hd2 : Int)), (3, ii place), (4, ii ((k : Nat) : Int))]) (S' := [.long (vn w k)]) dm_X12_picks_105 rfl rfl rfl rfl ?_
                  refine me0 (pc' := 108) (S' := [.long (Int64.ofInt 0), .long (vn w k)]) dm_X12_picks_107 rfl rfl rfl rfl ?_
                  refine y_llt (x := vn w k) (y := Int64.ofInt 0) (t := 124) (pc1 := 109) (pc' := 112) dm_X12_picks_108 rfl dm_X12_picks_109 rfl rfl (fun hb13 => ?_) (fun hb13 => ?_)
                  · rw [h0] at hb13
                    refine me1 (pc' := 125) (L' := [(5, .long (vn w k)), (0, .ref 102), (1, ii (hd : Int)), (2, ii (hd2 : Int)), (3, ii place), (4, ii ((k : Nat) : Int))]) (S' := [.ref 102]) dm_X12_picks_124 rfl rfl rfl rfl ?_
                    refine me0 (pc' := 127) (S' := [ii 7, .ref 102]) dm_X12_picks_125 rfl rfl rfl rfl ?_
                    refine me1 (pc' := 128) (L' := [(5, .long (vn w k)), (0, .ref 102), (1, ii (hd : Int)), (2, ii (hd2 : Int)), (3, ii place), (4, ii ((k : Nat) : Int))]) (S' := [ii place, ii 7, .ref 102]) dm_X12_picks_127 rfl rfl rfl rfl ?_
                    refine x_cv (pc' := 131) (rest := []) dm_X12_picks_128 rfl (q_inv (As := [ii 7, ii place]) (S := []) hm rfl rfl rfl) rfl rfl rfl (r_fail_ (s := (ordS s P)) hm (by omega) he0 hca.1 hca.2) ?_
                    rintro _ _ ⟨rfl, rfl⟩
                    refine y_ret (r := some (ii (-1))) dm_X12_picks_131 rfl rfl rfl ?_
                    rw [show d_at v w = .inl 7 from by unfold d_at; rw [if_neg (by omega), if_neg (by omega), if_pos (show allP v w = false from allN_f (k := k) (by omega) (decide_eq_false (by omega)))]]
                    exact ⟨_, rfl, rres_fail (rpre_ord s P) he0⟩
                  · rw [h0] at hb13
                    refine me1 (pc' := 114) (L' := [(5, .long (vn w k)), (0, .ref 102), (1, ii (hd : Int)), (2, ii (hd2 : Int)), (3, ii place), (4, ii ((k : Nat) : Int))]) (S' := [.long (vn w k)]) dm_X12_picks_112 rfl rfl rfl rfl ?_
                    refine me1 (pc' := 115) (L' := [(5, .long (vn w k)), (0, .ref 102), (1, ii (hd : Int)), (2, ii (hd2 : Int)), (3, ii place), (4, ii ((k : Nat) : Int))]) (S' := [.ref 102, .long (vn w k)]) dm_X12_picks_114 rfl rfl rfl rfl ?_
                    refine me1 (pc' := 116) (L' := [(5, .long (vn w k)), (0, .ref 102), (1, ii (hd : Int)), (2, ii (hd2 : Int)), (3, ii place), (4, ii ((k : Nat) : Int))]) (S' := [ii (hd : Int), .ref 102, .long (vn w k)]) dm_X12_picks_115 rfl rfl rfl rfl ?_
                    refine x_cp (pc' := 119) (v := ii (vm v : Int)) (rest := [.long (vn w k)]) dm_X12_picks_116 rfl (q_inv (As := [ii (hd : Int)]) (S := [.long (vn w k)]) hm rfl rfl rfl) rfl rfl rfl (r_many_ hm (by omega) (rB_ord hB0) (rv_ord hh3 hv)) ?_
                    refine y_i2l (a := (vm v : Int)) dm_X12_picks_119 (pc' := 120) rfl (by omega) (by omega) ?_
                    refine y_llt (x := vn w k) (y := Int64.ofInt (vm v : Int)) (t := 132) (pc1 := 121) (pc' := 124) dm_X12_picks_120 rfl dm_X12_picks_121 rfl rfl (fun hb14 => ?_) (fun hb14 => ?_)
                    · rw [hvmL] at hb14
                      refine me1 (pc' := 133) (L' := [(5, .long (vn w k)), (0, .ref 102), (1, ii (hd : Int)), (2, ii (hd2 : Int)), (3, ii place), (4, ii ((k : Nat) : Int))]) (S' := [.ref 102]) dm_X12_picks_132 rfl rfl rfl rfl ?_
                      refine me3 (pc' := 136) (S' := [.ref (102 + 5)]) dm_X12_picks_133 (q_getr hm rfl (fun m i l => rg_14 m i l)) rfl rfl rfl ?_
                      refine me1 (pc' := 138) (L' := [(5, .long (vn w k)), (0, .ref 102), (1, ii (hd : Int)), (2, ii (hd2 : Int)), (3, ii place), (4, ii ((k : Nat) : Int))]) (S' := [ii ((k : Nat) : Int), .ref (102 + 5)]) dm_X12_picks_136 rfl rfl rfl rfl ?_
                      refine me1 (pc' := 140) (L' := [(5, .long (vn w k)), (0, .ref 102), (1, ii (hd : Int)), (2, ii (hd2 : Int)), (3, ii place), (4, ii ((k : Nat) : Int))]) (S' := [.long (vn w k), ii ((k : Nat) : Int), .ref (102 + 5)]) dm_X12_picks_138 rfl rfl rfl rfl ?_
                      refine y_l2i (a := (vn w k).toInt) dm_X12_picks_140 (pc' := 141) rfl (n_l2i _ rfl) ?_
                      refine me3 (pc' := 142) (S' := []) (h1 := rI pre post ((ordS s P).1) ((ordS s P).2.1) (va_up ((ordS s P).2.2.1) 14 (va_up (((ordS s P).2.2.1) 14) k ((vn w k).toInt))) ((ordS s P).2.2.2)) dm_X12_picks_141 (q_iast (j := ((k : Nat) : Int)) (k := 14) (n := 260) hm (fun m i l I J => rc_14 m i l I J) (fun m i l I J f => rs_14 m i l I J f) (by omega) (by omega) (by decide)) rfl rfl rfl ?_
                      refine y_iinc (pc' := 145) (L' := [(4, ii (((k : Nat) : Int) + 1)), (5, .long (vn w k)), (0, .ref 102), (1, ii (hd : Int)), (2, ii (hd2 : Int)), (3, ii place)]) dm_X12_picks_142 (y_incp (a := ((k : Nat) : Int)) (c := 1) rfl rfl (by decide)) rfl ?_
                      refine me2 (pc' := 86) (S' := []) dm_X12_picks_145 rfl rfl rfl ?_
                      refine pg_cast (h2 := rI pre post ((ordS s (va_up P k (vn w k).toInt)).1) ((ordS s (va_up P k (vn w k).toInt)).2.1) ((ordS s (va_up P k (vn w k).toInt)).2.2.1) ((ordS s (va_up P k (vn w k).toInt)).2.2.2)) (ord_up s P k _) ?_
                      exact pg_sub (L := [(0, .ref 102), (1, ii (hd : Int)), (2, ii (hd2 : Int)), (3, ii place), (4, ii (((k + 1) : Nat) : Int))]) rfl rfl rfl (ih86 (vm w - (k + 1)) (by omega) (k + 1) (va_up P k (vn w k).toInt) rfl (by omega) (fun j hj => by rw [up_at]; by_cases z : j = k; (rw [if_pos z, z]; exact ⟨rfl, by omega, by omega⟩); (rw [if_neg z]; exact hP j (by omega))))
                    · rw [hvmL] at hb14
                      refine me1 (pc' := 125) (L' := [(5, .long (vn w k)), (0, .ref 102), (1, ii (hd : Int)), (2, ii (hd2 : Int)), (3, ii place), (4, ii ((k : Nat) : Int))]) (S' := [.ref 102]) dm_X12_picks_124 rfl rfl rfl rfl ?_
                      refine me0 (pc' := 127) (S' := [ii 7, .ref 102]) dm_X12_picks_125 rfl rfl rfl rfl ?_
                      refine me1 (pc' := 128) (L' := [(5, .long (vn w k)), (0, .ref 102), (1, ii (hd : Int)), (2, ii (hd2 : Int)), (3, ii place), (4, ii ((k : Nat) : Int))]) (S' := [ii place, ii 7, .ref 102]) dm_X12_picks_127 rfl rfl rfl rfl ?_
                      refine x_cv (pc' := 131) (rest := []) dm_X12_picks_128 rfl (q_inv (As := [ii 7, ii place]) (S := []) hm rfl rfl rfl) rfl rfl rfl (r_fail_ (s := (ordS s P)) hm (by omega) he0 hca.1 hca.2) ?_
                      rintro _ _ ⟨rfl, rfl⟩
                      refine y_ret (r := some (ii (-1))) dm_X12_picks_131 rfl rfl rfl ?_
                      rw [show d_at v w = .inl 7 from by unfold d_at; rw [if_neg (by omega), if_neg (by omega), if_pos (show allP v w = false from allN_f (k := k) (by omega) (decide_eq_false (by omega)))]]
                      exact ⟨_, rfl, rres_fail (rpre_ord s P) he0⟩
            refine pg_cast (h2 := rI pre post ((ordS s (s.2.2.1 14)).1) ((ordS s (s.2.2.1 14)).2.1) ((ordS s (s.2.2.1 14)).2.2.1) ((ordS s (s.2.2.1 14)).2.2.2)) (ord_0 s) ?_
            exact pg_sub (L := [(0, .ref 102), (1, ii (hd : Int)), (2, ii (hd2 : Int)), (3, ii place), (4, ii ((0 : Nat) : Int))]) rfl rfl rfl (lp86 _ 0 (s.2.2.1 14) rfl (Nat.zero_le _) (fun j hj => absurd hj (Nat.not_lt_zero j)))
          · replace hb5 := dF hb5
            refine me1 (pc' := 59) (L' := [(0, .ref 102), (1, ii (hd : Int)), (2, ii (hd2 : Int)), (3, ii place)]) (S' := [.ref 102]) dm_X12_picks_58 rfl rfl rfl rfl ?_
            refine me1 (pc' := 60) (L' := [(0, .ref 102), (1, ii (hd : Int)), (2, ii (hd2 : Int)), (3, ii place)]) (S' := [ii (hd : Int), .ref 102]) dm_X12_picks_59 rfl rfl rfl rfl ?_
            refine x_cp (pc' := 63) (v := ii (vk v : Int)) (rest := []) dm_X12_picks_60 rfl (q_inv (As := [ii (hd : Int)]) (S := []) hm rfl rfl rfl) rfl rfl rfl (r_kindOf_ hm (by omega) hB0 hv) ?_
            refine me0 (pc' := 65) (S' := [ii 6, ii (vk v : Int)]) dm_X12_picks_63 rfl rfl rfl rfl ?_
            refine y_2ne (a := (vk v : Int)) (b := 6) (t := 83) (pc' := 68) dm_X12_picks_65 rfl rfl (by omega) (fun hb15 => ?_) (fun hb15 => ?_)
            · refine me0 (pc' := 84) (S' := [ii 0]) dm_X12_picks_83 rfl rfl rfl rfl ?_
              refine me1 (pc' := 86) (L' := [(4, ii 0), (0, .ref 102), (1, ii (hd : Int)), (2, ii (hd2 : Int)), (3, ii place)]) (S' := []) dm_X12_picks_84 rfl rfl rfl rfl ?_
              have lp86 : ∀ (n86 : Nat) (k : Nat) (P : Nat → Int), vm w - k = n86 → (k ≤ vm w) → (∀ j, j < k → P j = (vn w j).toInt ∧ 0 ≤ (vn w j).toInt ∧ (vn w j).toInt < (vm v : Int)) → pgE xt (d - 1) 12 7 false (Option.some Jvm.ClassFile.FieldType.int) (mj_dec prog_14_method_60_code) 86 [(0, .ref 102), (1, ii (hd : Int)), (2, ii (hd2 : Int)), (3, ii place), (4, ii ((k : Nat) : Int))] [] (rI pre post ((ordS s P).1) ((ordS s P).2.1) ((ordS s P).2.2.1) ((ordS s P).2.2.2)) (fun r h' => ∃ x, r = some x ∧ rres pre post s (e + 1) (d_at v w) place 144 1 x h') := by
                intro n86
                induction n86 using Nat.strongRecOn with
                | ind n86 ih86 =>
                  intro k P hm86 hk hP
                  refine me1 (pc' := 88) (L' := [(0, .ref 102), (1, ii (hd : Int)), (2, ii (hd2 : Int)), (3, ii place), (4, ii ((k : Nat) : Int))]) (S' := [ii ((k : Nat) : Int)]) dm_X12_picks_86 rfl rfl rfl rfl ?_
                  refine me1 (pc' := 89) (L' := [(0, .ref 102), (1, ii (hd : Int)), (2, ii (hd2 : Int)), (3, ii place), (4, ii ((k : Nat) : Int))]) (S' := [.ref 102, ii ((k : Nat) : Int)]) dm_X12_picks_88 rfl rfl rfl rfl ?_
                  refine me1 (pc' := 90) (L' := [(0, .ref 102), (1, ii (hd : Int)), (2, ii (hd2 : Int)), (3, ii place), (4, ii ((k : Nat) : Int))]) (S' := [ii (hd2 : Int), .ref 102, ii ((k : Nat) : Int)]) dm_X12_picks_89 rfl rfl rfl rfl ?_
                  refine x_cp (pc' := 93) (v := ii (vm w : Int)) (rest := [ii ((k : Nat) : Int)]) dm_X12_picks_90 rfl (q_inv (As := [ii (hd2 : Int)]) (S := [ii ((k : Nat) : Int)]) hm rfl rfl rfl) rfl rfl rfl (r_many_ hm (by omega) (rB_ord hB0) (rv_ord hh4 hw)) ?_
                  refine y_2ge (a := ((k : Nat) : Int)) (b := (vm w : Int)) (t := 148) (pc' := 96) dm_X12_picks_93 rfl rfl (by omega) (fun hb16 => ?_) (fun hb16 => ?_)
                  · refine me1 (pc' := 149) (L' := [(0, .ref 102), (1, ii (hd : Int)), (2, ii (hd2 : Int)), (3, ii place), (4, ii ((k : Nat) : Int))]) (S' := [.ref 102]) dm_X12_picks_148 rfl rfl rfl rfl ?_
                    refine me1 (pc' := 150) (L' := [(0, .ref 102), (1, ii (hd : Int)), (2, ii (hd2 : Int)), (3, ii place), (4, ii ((k : Nat) : Int))]) (S' := [ii (hd2 : Int), .ref 102]) dm_X12_picks_149 rfl rfl rfl rfl ?_
                    refine x_cp (pc' := 153) (v := zz (decide (vk w ≤ 1))) (rest := []) dm_X12_picks_150 rfl (q_inv (As := [ii (hd2 : Int)]) (S := []) hm rfl rfl rfl) rfl rfl rfl (r_isOne_ hm (by omega) (rB_ord hB0) (rv_ord hh4 hw)) ?_
                    refine y_zeq (c := decide (vk w ≤ 1)) (t := 168) (pc' := 156) dm_X12_picks_153 rfl rfl (fun hb17 => ?_) (fun hb17 => ?_)
                    · replace hb17 := dF hb17
                      refine me1 (pc' := 169) (L' := [(0, .ref 102), (1, ii (hd : Int)), (2, ii (hd2 : Int)), (3, ii place), (4, ii ((k : Nat) : Int))]) (S' := [.ref 102]) dm_X12_picks_168 rfl rfl rfl rfl ?_
                      refine me1 (pc' := 170) (L' := [(0, .ref 102), (1, ii (hd : Int)), (2, ii (hd2 : Int)), (3, ii place), (4, ii ((k : Nat) : Int))]) (S' := [ii (hd2 : Int), .ref 102]) dm_X12_picks_169 rfl rfl rfl rfl ?_
                      refine x_cp (pc' := 173) (v := ii (vm w : Int)) (rest := []) dm_X12_picks_170 rfl (q_inv (As := [ii (hd2 : Int)]) (S := []) hm rfl rfl rfl) rfl rfl rfl (r_many_ hm (by omega) (rB_ord hB0) (rv_ord hh4 hw)) ?_
                      refine me1 (pc' := 174) (L' := [(0, .ref 102), (1, ii (hd : Int)), (2, ii (hd2 : Int)), (3, ii place), (4, ii ((k : Nat) : Int))]) (S' := [.ref 102, ii (vm w : Int)]) dm_X12_picks_173 rfl rfl rfl rfl ?_
                      refine me1 (pc' := 175) (L' := [(0, .ref 102), (1, ii (hd : Int)), (2, ii (hd2 : Int)), (3, ii place), (4, ii ((k : Nat) : Int))]) (S' := [ii (hd : Int), .ref 102, ii (vm w : Int)]) dm_X12_picks_174 rfl rfl rfl rfl ?_
                      refine x_cp (pc' := 178) (v := ii (vk v : Int)) (rest := [ii (vm w : Int)]) dm_X12_picks_175 rfl (q_inv (As := [ii (hd : Int)]) (S := [ii (vm w : Int)]) hm rfl rfl rfl) rfl rfl rfl (r_kindOf_ hm (by omega) (rB_ord hB0) (rv_ord hh3 hv)) ?_
                      refine me0 (pc' := 180) (S' := [ii 7, ii (vk v : Int), ii (vm w : Int)]) dm_X12_picks_178 rfl rfl rfl rfl ?_
                      refine y_2ne (a := (vk v : Int)) (b := 7) (t := 188) (pc' := 183) dm_X12_picks_180 rfl rfl (by omega) (fun hb18 => ?_) (fun hb18 => ?_)
                      · refine me1 (pc' := 189) (L' := [(0, .ref 102), (1, ii (hd : Int)), (2, ii (hd2 : Int)), (3, ii place), (4, ii ((k : Nat) : Int))]) (S' := [.ref 102, ii (vm w : Int)]) dm_X12_picks_188 rfl rfl rfl rfl ?_
                        refine me1 (pc' := 190) (L' := [(0, .ref 102), (1, ii (hd : Int)), (2, ii (hd2 : Int)), (3, ii place), (4, ii ((k : Nat) : Int))]) (S' := [ii (hd : Int), .ref 102, ii (vm w : Int)]) dm_X12_picks_189 rfl rfl rfl rfl ?_
                        refine x_cp (pc' := 193) (v := ii (vk v : Int)) (rest := [ii (vm w : Int)]) dm_X12_picks_190 rfl (q_inv (As := [ii (hd : Int)]) (S := [ii (vm w : Int)]) hm rfl rfl rfl) rfl rfl rfl (r_kindOf_ hm (by omega) (rB_ord hB0) (rv_ord hh3 hv)) ?_
                        refine me0 (pc' := 195) (S' := [ii 6, ii (vk v : Int), ii (vm w : Int)]) dm_X12_picks_193 rfl rfl rfl rfl ?_
                        refine y_2ne (a := (vk v : Int)) (b := 6) (t := 203) (pc' := 198) dm_X12_picks_195 rfl rfl (by omega) (fun hb19 => ?_) (fun hb19 => ?_)
                        · refine me0 (pc' := 205) (S' := [ii 120, ii (vm w : Int)]) dm_X12_picks_203 rfl rfl rfl rfl ?_
                          refine y_2le (a := (vm w : Int)) (b := 120) (t := 216) (pc' := 208) dm_X12_picks_205 rfl rfl (by omega) (fun hb20 => ?_) (fun hb20 => ?_)
                          · refine me1 (pc' := 217) (L' := [(0, .ref 102), (1, ii (hd : Int)), (2, ii (hd2 : Int)), (3, ii place), (4, ii ((k : Nat) : Int))]) (S' := [.ref 102]) dm_X12_picks_216 rfl rfl rfl rfl ?_
                            refine me1 (pc' := 218) (L' := [(0, .ref 102), (1, ii (hd : Int)), (2, ii (hd2 : Int)), (3, ii place), (4, ii ((k : Nat) : Int))]) (S' := [ii (hd : Int), .ref 102]) dm_X12_picks_217 rfl rfl rfl rfl ?_
                            refine me1 (pc' := 219) (L' := [(0, .ref 102), (1, ii (hd : Int)), (2, ii (hd2 : Int)), (3, ii place), (4, ii ((k : Nat) : Int))]) (S' := [.ref 102, ii (hd : Int), .ref 102]) dm_X12_picks_218 rfl rfl rfl rfl ?_
                            refine me1 (pc' := 220) (L' := [(0, .ref 102), (1, ii (hd : Int)), (2, ii (hd2 : Int)), (3, ii place), (4, ii ((k : Nat) : Int))]) (S' := [ii (hd2 : Int), .ref 102, ii (hd : Int), .ref 102]) dm_X12_picks_219 rfl rfl rfl rfl ?_
                            refine x_cp (pc' := 223) (v := ii (vm w : Int)) (rest := [ii (hd : Int), .ref 102]) dm_X12_picks_220 rfl (q_inv (As := [ii (hd2 : Int)]) (S := [ii (hd : Int), .ref 102]) hm rfl rfl rfl) rfl rfl rfl (r_many_ hm (by omega) (rB_ord hB0) (rv_ord hh4 hw)) ?_
                            have hal : allP v w = true := allN_iff.mpr (fun j hj => decide_eq_true (by have := hP j (by omega); omega))
                            have hpc : pcl v (vm w) ≤ 144 := by unfold pcl; split; (have hm12 := Nat.mul_le_mul (show vm w ≤ 12 by omega) hvc; omega); omega
                            have hOO : ∀ j, j < vm w → 0 ≤ (ordS s P).2.2.1 14 j ∧ (ordS s P).2.2.1 14 j < vm v := fun j hj => by rw [ordS_14]; have := hP j (by omega); omega
                            refine x_cv (pc' := 226) (rest := []) dm_X12_picks_223 rfl (q_inv (As := [ii (hd : Int), ii (vm w : Int)]) (S := []) hm rfl rfl rfl) rfl rfl rfl (r_picked_ (s := ordS s P) (q := q) (b := b) (n := vm w) (place := place) hm (by omega) (rB_ord hB0) (rv_ord hh3 hv) hh3 hq hb hq3 hV2 he0 (by omega) (by omega) (by omega) (by omega) hOO) ?_
                            rintro _ _ ⟨t1, rfl, r1, r2, r3, r4, r5, r6, p1, r7, rfl, r8⟩
                            refine y_ret (r := some (ii (p1 : Int))) dm_X12_picks_226 rfl rfl rfl ?_
                            rw [show d_at v w = .inr (vpick v (fun k => (vn w k).toInt.toNat) (vm w)) by unfold d_at; rw [if_neg (by omega), if_neg (by omega), if_neg (by rw [hal]; decide), if_neg (by omega)]; by_cases z7 : vk v = 7; (exact s_pick_7 z7 (by omega)); first | exact s_pick_6 (by omega) (by omega) (by omega) | exact s_pick_r (by omega)]
                            refine ⟨_, rfl, rres_up (rres_bk (rpre_ord s P) (rres_ve (vpick_congr (by omega) (fun j hj => ?_)) ⟨t1, rfl, r1, r2, r3, r4, r5, r6, p1, r7, rfl, r8⟩)) hpc (Nat.le_refl _)⟩
                            show ((ordS s P).2.2.1 14 j).toNat = _
                            rw [ordS_14, (hP j (by omega)).1]
                          · refine me1 (pc' := 209) (L' := [(0, .ref 102), (1, ii (hd : Int)), (2, ii (hd2 : Int)), (3, ii place), (4, ii ((k : Nat) : Int))]) (S' := [.ref 102]) dm_X12_picks_208 rfl rfl rfl rfl ?_
                            refine me0 (pc' := 211) (S' := [ii 8, .ref 102]) dm_X12_picks_209 rfl rfl rfl rfl ?_
                            refine me1 (pc' := 212) (L' := [(0, .ref 102), (1, ii (hd : Int)), (2, ii (hd2 : Int)), (3, ii place), (4, ii ((k : Nat) : Int))]) (S' := [ii place, ii 8, .ref 102]) dm_X12_picks_211 rfl rfl rfl rfl ?_
                            refine x_cv (pc' := 215) (rest := []) dm_X12_picks_212 rfl (q_inv (As := [ii 8, ii place]) (S := []) hm rfl rfl rfl) rfl rfl rfl (r_fail_ (s := (ordS s P)) hm (by omega) he0 hca.1 hca.2) ?_
                            rintro _ _ ⟨rfl, rfl⟩
                            refine y_ret (r := some (ii (-1))) dm_X12_picks_215 rfl rfl rfl ?_
                            have hal : allP v w = true := allN_iff.mpr (fun j hj => decide_eq_true (by have := hP j (by omega); omega))
                            rw [show d_at v w = .inl 8 from by first | (exfalso; omega) | (unfold d_at; rw [if_neg (by omega), if_neg (by omega), if_neg (by rw [hal]; decide), if_neg (by omega)]; first | exact s_pick_7e (by omega) (by omega) | exact s_pick_6e (by omega) (by omega))]
                            exact ⟨_, rfl, rres_fail (rpre_ord s P) he0⟩
                        · refine me0 (pc' := 200) (S' := [ii 12, ii (vm w : Int)]) dm_X12_picks_198 rfl rfl rfl rfl ?_
                          refine me2 (pc' := 205) (S' := [ii 12, ii (vm w : Int)]) dm_X12_picks_200 rfl rfl rfl ?_
                          refine y_2le (a := (vm w : Int)) (b := 12) (t := 216) (pc' := 208) dm_X12_picks_205 rfl rfl (by omega) (fun hb21 => ?_) (fun hb21 => ?_)
                          · refine me1 (pc' := 217) (L' := [(0, .ref 102), (1, ii (hd : Int)), (2, ii (hd2 : Int)), (3, ii place), (4, ii ((k : Nat) : Int))]) (S' := [.ref 102]) dm_X12_picks_216 rfl rfl rfl rfl ?_
                            refine me1 (pc' := 218) (L' := [(0, .ref 102), (1, ii (hd : Int)), (2, ii (hd2 : Int)), (3, ii place), (4, ii ((k : Nat) : Int))]) (S' := [ii (hd : Int), .ref 102]) dm_X12_picks_217 rfl rfl rfl rfl ?_
                            refine me1 (pc' := 219) (L' := [(0, .ref 102), (1, ii (hd : Int)), (2, ii (hd2 : Int)), (3, ii place), (4, ii ((k : Nat) : Int))]) (S' := [.ref 102, ii (hd : Int), .ref 102]) dm_X12_picks_218 rfl rfl rfl rfl ?_
                            refine me1 (pc' := 220) (L' := [(0, .ref 102), (1, ii (hd : Int)), (2, ii (hd2 : Int)), (3, ii place), (4, ii ((k : Nat) : Int))]) (S' := [ii (hd2 : Int), .ref 102, ii (hd : Int), .ref 102]) dm_X12_picks_219 rfl rfl rfl rfl ?_
                            refine x_cp (pc' := 223) (v := ii (vm w : Int)) (rest := [ii (hd : Int), .ref 102]) dm_X12_picks_220 rfl (q_inv (As := [ii (hd2 : Int)]) (S := [ii (hd : Int), .ref 102]) hm rfl rfl rfl) rfl rfl rfl (r_many_ hm (by omega) (rB_ord hB0) (rv_ord hh4 hw)) ?_
                            have hal : allP v w = true := allN_iff.mpr (fun j hj => decide_eq_true (by have := hP j (by omega); omega))
                            have hpc : pcl v (vm w) ≤ 144 := by unfold pcl; split; (have hm12 := Nat.mul_le_mul (show vm w ≤ 12 by omega) hvc; omega); omega
                            have hOO : ∀ j, j < vm w → 0 ≤ (ordS s P).2.2.1 14 j ∧ (ordS s P).2.2.1 14 j < vm v := fun j hj => by rw [ordS_14]; have := hP j (by omega); omega
                            refine x_cv (pc' := 226) (rest := []) dm_X12_picks_223 rfl (q_inv (As := [ii (hd : Int), ii (vm w : Int)]) (S := []) hm rfl rfl rfl) rfl rfl rfl (r_picked_ (s := ordS s P) (q := q) (b := b) (n := vm w) (place := place) hm (by omega) (rB_ord hB0) (rv_ord hh3 hv) hh3 hq hb hq3 hV2 he0 (by omega) (by omega) (by omega) (by omega) hOO) ?_
                            rintro _ _ ⟨t1, rfl, r1, r2, r3, r4, r5, r6, p1, r7, rfl, r8⟩
                            refine y_ret (r := some (ii (p1 : Int))) dm_X12_picks_226 rfl rfl rfl ?_
                            rw [show d_at v w = .inr (vpick v (fun k => (vn w k).toInt.toNat) (vm w)) by unfold d_at; rw [if_neg (by omega), if_neg (by omega), if_neg (by rw [hal]; decide), if_neg (by omega)]; by_cases z7 : vk v = 7; (exact s_pick_7 z7 (by omega)); first | exact s_pick_6 (by omega) (by omega) (by omega) | exact s_pick_r (by omega)]
                            refine ⟨_, rfl, rres_up (rres_bk (rpre_ord s P) (rres_ve (vpick_congr (by omega) (fun j hj => ?_)) ⟨t1, rfl, r1, r2, r3, r4, r5, r6, p1, r7, rfl, r8⟩)) hpc (Nat.le_refl _)⟩
                            show ((ordS s P).2.2.1 14 j).toNat = _
                            rw [ordS_14, (hP j (by omega)).1]
                          · refine me1 (pc' := 209) (L' := [(0, .ref 102), (1, ii (hd : Int)), (2, ii (hd2 : Int)), (3, ii place), (4, ii ((k : Nat) : Int))]) (S' := [.ref 102]) dm_X12_picks_208 rfl rfl rfl rfl ?_
                            refine me0 (pc' := 211) (S' := [ii 8, .ref 102]) dm_X12_picks_209 rfl rfl rfl rfl ?_
                            refine me1 (pc' := 212) (L' := [(0, .ref 102), (1, ii (hd : Int)), (2, ii (hd2 : Int)), (3, ii place), (4, ii ((k : Nat) : Int))]) (S' := [ii place, ii 8, .ref 102]) dm_X12_picks_211 rfl rfl rfl rfl ?_
                            refine x_cv (pc' := 215) (rest := []) dm_X12_picks_212 rfl (q_inv (As := [ii 8, ii place]) (S := []) hm rfl rfl rfl) rfl rfl rfl (r_fail_ (s := (ordS s P)) hm (by omega) he0 hca.1 hca.2) ?_
                            rintro _ _ ⟨rfl, rfl⟩
                            refine y_ret (r := some (ii (-1))) dm_X12_picks_215 rfl rfl rfl ?_
                            have hal : allP v w = true := allN_iff.mpr (fun j hj => decide_eq_true (by have := hP j (by omega); omega))
                            rw [show d_at v w = .inl 8 from by first | (exfalso; omega) | (unfold d_at; rw [if_neg (by omega), if_neg (by omega), if_neg (by rw [hal]; decide), if_neg (by omega)]; first | exact s_pick_7e (by omega) (by omega) | exact s_pick_6e (by omega) (by omega))]
                            exact ⟨_, rfl, rres_fail (rpre_ord s P) he0⟩
                      · refine me0 (pc' := 185) (S' := [ii 24, ii (vm w : Int)]) dm_X12_picks_183 rfl rfl rfl rfl ?_
                        refine me2 (pc' := 205) (S' := [ii 24, ii (vm w : Int)]) dm_X12_picks_185 rfl rfl rfl ?_
                        refine y_2le (a := (vm w : Int)) (b := 24) (t := 216) (pc' := 208) dm_X12_picks_205 rfl rfl (by omega) (fun hb22 => ?_) (fun hb22 => ?_)
                        · refine me1 (pc' := 217) (L' := [(0, .ref 102), (1, ii (hd : Int)), (2, ii (hd2 : Int)), (3, ii place), (4, ii ((k : Nat) : Int))]) (S' := [.ref 102]) dm_X12_picks_216 rfl rfl rfl rfl ?_
                          refine me1 (pc' := 218) (L' := [(0, .ref 102), (1, ii (hd : Int)), (2, ii (hd2 : Int)), (3, ii place), (4, ii ((k : Nat) : Int))]) (S' := [ii (hd : Int), .ref 102]) dm_X12_picks_217 rfl rfl rfl rfl ?_
                          refine me1 (pc' := 219) (L' := [(0, .ref 102), (1, ii (hd : Int)), (2, ii (hd2 : Int)), (3, ii place), (4, ii ((k : Nat) : Int))]) (S' := [.ref 102, ii (hd : Int), .ref 102]) dm_X12_picks_218 rfl rfl rfl rfl ?_
                          refine me1 (pc' := 220) (L' := [(0, .ref 102), (1, ii (hd : Int)), (2, ii (hd2 : Int)), (3, ii place), (4, ii ((k : Nat) : Int))]) (S' := [ii (hd2 : Int), .ref 102, ii (hd : Int), .ref 102]) dm_X12_picks_219 rfl rfl rfl rfl ?_
                          refine x_cp (pc' := 223) (v := ii (vm w : Int)) (rest := [ii (hd : Int), .ref 102]) dm_X12_picks_220 rfl (q_inv (As := [ii (hd2 : Int)]) (S := [ii (hd : Int), .ref 102]) hm rfl rfl rfl) rfl rfl rfl (r_many_ hm (by omega) (rB_ord hB0) (rv_ord hh4 hw)) ?_
                          have hal : allP v w = true := allN_iff.mpr (fun j hj => decide_eq_true (by have := hP j (by omega); omega))
                          have hpc : pcl v (vm w) ≤ 144 := by unfold pcl; split; (have hm12 := Nat.mul_le_mul (show vm w ≤ 12 by omega) hvc; omega); omega
                          have hOO : ∀ j, j < vm w → 0 ≤ (ordS s P).2.2.1 14 j ∧ (ordS s P).2.2.1 14 j < vm v := fun j hj => by rw [ordS_14]; have := hP j (by omega); omega
                          refine x_cv (pc' := 226) (rest := []) dm_X12_picks_223 rfl (q_inv (As := [ii (hd : Int), ii (vm w : Int)]) (S := []) hm rfl rfl rfl) rfl rfl rfl (r_picked_ (s := ordS s P) (q := q) (b := b) (n := vm w) (place := place) hm (by omega) (rB_ord hB0) (rv_ord hh3 hv) hh3 hq hb hq3 hV2 he0 (by omega) (by omega) (by omega) (by omega) hOO) ?_
                          rintro _ _ ⟨t1, rfl, r1, r2, r3, r4, r5, r6, p1, r7, rfl, r8⟩
                          refine y_ret (r := some (ii (p1 : Int))) dm_X12_picks_226 rfl rfl rfl ?_
                          rw [show d_at v w = .inr (vpick v (fun k => (vn w k).toInt.toNat) (vm w)) by unfold d_at; rw [if_neg (by omega), if_neg (by omega), if_neg (by rw [hal]; decide), if_neg (by omega)]; by_cases z7 : vk v = 7; (exact s_pick_7 z7 (by omega)); first | exact s_pick_6 (by omega) (by omega) (by omega) | exact s_pick_r (by omega)]
                          refine ⟨_, rfl, rres_up (rres_bk (rpre_ord s P) (rres_ve (vpick_congr (by omega) (fun j hj => ?_)) ⟨t1, rfl, r1, r2, r3, r4, r5, r6, p1, r7, rfl, r8⟩)) hpc (Nat.le_refl _)⟩
                          show ((ordS s P).2.2.1 14 j).toNat = _
                          rw [ordS_14, (hP j (by omega)).1]
                        · refine me1 (pc' := 209) (L' := [(0, .ref 102), (1, ii (hd : Int)), (2, ii (hd2 : Int)), (3, ii place), (4, ii ((k : Nat) : Int))]) (S' := [.ref 102]) dm_X12_picks_208 rfl rfl rfl rfl ?_
                          refine me0 (pc' := 211) (S' := [ii 8, .ref 102]) dm_X12_picks_209 rfl rfl rfl rfl ?_
                          refine me1 (pc' := 212) (L' := [(0, .ref 102), (1, ii (hd : Int)), (2, ii (hd2 : Int)), (3, ii place), (4, ii ((k : Nat) : Int))]) (S' := [ii place, ii 8, .ref 102]) dm_X12_picks_211 rfl rfl rfl rfl ?_
                          refine x_cv (pc' := 215) (rest := []) dm_X12_picks_212 rfl (q_inv (As := [ii 8, ii place]) (S := []) hm rfl rfl rfl) rfl rfl rfl (r_fail_ (s := (ordS s P)) hm (by omega) he0 hca.1 hca.2) ?_
                          rintro _ _ ⟨rfl, rfl⟩
                          refine y_ret (r := some (ii (-1))) dm_X12_picks_215 rfl rfl rfl ?_
                          have hal : allP v w = true := allN_iff.mpr (fun j hj => decide_eq_true (by have := hP j (by omega); omega))
                          rw [show d_at v w = .inl 8 from by first | (exfalso; omega) | (unfold d_at; rw [if_neg (by omega), if_neg (by omega), if_neg (by rw [hal]; decide), if_neg (by omega)]; first | exact s_pick_7e (by omega) (by omega) | exact s_pick_6e (by omega) (by omega))]
                          exact ⟨_, rfl, rres_fail (rpre_ord s P) he0⟩
                    · replace hb17 := dT hb17
                      refine me1 (pc' := 157) (L' := [(0, .ref 102), (1, ii (hd : Int)), (2, ii (hd2 : Int)), (3, ii place), (4, ii ((k : Nat) : Int))]) (S' := [.ref 102]) dm_X12_picks_156 rfl rfl rfl rfl ?_
                      refine me1 (pc' := 158) (L' := [(0, .ref 102), (1, ii (hd : Int)), (2, ii (hd2 : Int)), (3, ii place), (4, ii ((k : Nat) : Int))]) (S' := [ii (hd : Int), .ref 102]) dm_X12_picks_157 rfl rfl rfl rfl ?_
                      refine me1 (pc' := 159) (L' := [(0, .ref 102), (1, ii (hd : Int)), (2, ii (hd2 : Int)), (3, ii place), (4, ii ((k : Nat) : Int))]) (S' := [.ref 102, ii (hd : Int), .ref 102]) dm_X12_picks_158 rfl rfl rfl rfl ?_
                      refine me3 (pc' := 162) (S' := [.ref (102 + 5), ii (hd : Int), .ref 102]) dm_X12_picks_159 (q_getr hm rfl (fun m i l => rg_14 m i l)) rfl rfl rfl ?_
                      refine me0 (pc' := 163) (S' := [ii 0, .ref (102 + 5), ii (hd : Int), .ref 102]) dm_X12_picks_162 rfl rfl rfl rfl ?_
                      refine me3 (pc' := 164) (S' := [ii ((((ordS s P).2.2.1) 14) 0), ii (hd : Int), .ref 102]) dm_X12_picks_163 (q_iald (v := (((ordS s P).2.2.1) 14) 0) (k := 14) (n := 260) hm (fun m i l I J => rc_14 m i l I J) (by omega) (by omega) (by decide) rfl) rfl rfl rfl ?_
                      have hal : allP v w = true := allN_iff.mpr (fun j hj => decide_eq_true (by have := hP j (by omega); omega))
                      have hP0 := hP 0 (by omega)
                      refine pg_st (S' := [ii (((vn w 0).toInt.toNat : Nat) : Int), ii (hd : Int), .ref 102]) (congrArg (fun z => ii z :: [ii (hd : Int), .ref 102]) (show (ordS s P).2.2.1 14 0 = _ by rw [ordS_14, hP0.1]; omega)) ?_
                      refine x_cv (pc' := 167) (rest := []) dm_X12_picks_164 rfl (q_inv (As := [ii (hd : Int), ii (((vn w 0).toInt.toNat : Nat) : Int)]) (S := []) hm rfl rfl rfl) rfl rfl rfl (r_itemOf_ (s := ordS s P) (q := q) (b := b) (place := place) (k := (vn w 0).toInt.toNat) hm (by omega) (rB_ord hB0) (rv_ord hh3 hv) hh3 hq hb hq3 hV2 he0 hca hC (by omega) (by omega)) ?_
                      rintro _ _ ⟨t1, rfl, r1, r2, r3, r4, r5, r6, p1, r7, rfl, r8⟩
                      refine y_ret (r := some (ii (p1 : Int))) dm_X12_picks_167 rfl rfl rfl ?_
                      rw [show d_at v w = .inr (vit v (vn w 0).toInt.toNat) by unfold d_at; rw [if_neg (by omega), if_neg (by omega), if_neg (by rw [hal]; decide), if_pos (by omega)]]
                      exact ⟨_, rfl, rres_up (rres_bk (rpre_ord s P) ⟨t1, rfl, r1, r2, r3, r4, r5, r6, p1, r7, rfl, r8⟩) (by omega) (Nat.le_refl _)⟩
                  · refine me1 (pc' := 97) (L' := [(0, .ref 102), (1, ii (hd : Int)), (2, ii (hd2 : Int)), (3, ii place), (4, ii ((k : Nat) : Int))]) (S' := [.ref 102]) dm_X12_picks_96 rfl rfl rfl rfl ?_
                    refine me1 (pc' := 98) (L' := [(0, .ref 102), (1, ii (hd : Int)), (2, ii (hd2 : Int)), (3, ii place), (4, ii ((k : Nat) : Int))]) (S' := [ii (hd2 : Int), .ref 102]) dm_X12_picks_97 rfl rfl rfl rfl ?_
                    refine me1 (pc' := 100) (L' := [(0, .ref 102), (1, ii (hd : Int)), (2, ii (hd2 : Int)), (3, ii place), (4, ii ((k : Nat) : Int))]) (S' := [ii ((k : Nat) : Int), ii (hd2 : Int), .ref 102]) dm_X12_picks_98 rfl rfl rfl rfl ?_
                    refine x_cp (pc' := 103) (v := .long (vn w k)) (rest := []) dm_X12_picks_100 rfl (q_inv (As := [ii (hd2 : Int), ii ((k : Nat) : Int)]) (S := []) hm rfl rfl rfl) rfl rfl rfl (r_number_ (k := k) hm (by omega) (rB_ord hB0) (rv_ord hh4 hw) (by omega) (by omega)) ?_
                    refine me1 (pc' := 105) (L' := [(5, .long (vn w k)), (0, .ref 102), (1, ii (hd : Int)), (2, ii (hd2 : Int)), (3, ii place), (4, ii ((k : Nat) : Int))]) (S' := []) dm_X12_picks_103 rfl rfl rfl rfl ?_
                    refine me1 (pc' := 107) (L' := [(5, .long (vn w k)), (0, .ref 102), (1, ii (hd : Int)), (2, ii (hd2 : Int)), (3, ii place), (4, ii ((k : Nat) : Int))]) (S' := [.long (vn w k)]) dm_X12_picks_105 rfl rfl rfl rfl ?_
                    refine me0 (pc' := 108) (S' := [.long (Int64.ofInt 0), .long (vn w k)]) dm_X12_picks_107 rfl rfl rfl rfl ?_
                    refine y_llt (x := vn w k) (y := Int64.ofInt 0) (t := 124) (pc1 := 109) (pc' := 112) dm_X12_picks_108 rfl dm_X12_picks_109 rfl rfl (fun hb23 => ?_) (fun hb23 => ?_)
                    · rw [h0] at hb23
                      refine me1 (pc' := 125) (L' := [(5, .long (vn w k)), (0, .ref 102), (1, ii (hd : Int)), (2, ii (hd2 : Int)), (3, ii place), (4, ii ((k : Nat) : Int))]) (S' := [.ref 102]) dm_X12_picks_124 rfl rfl rfl rfl ?_
                      refine me0 (pc' := 127) (S' := [ii 7, .ref 102]) dm_X12_picks_125 rfl rfl rfl rfl ?_
                      refine me1 (pc' := 128) (L' := [(5, .long (vn w k)), (0, .ref 102), (1, ii (hd : Int)), (2, ii (hd2 : Int)), (3, ii place), (4, ii ((k : Nat) : Int))]) (S' := [ii place, ii 7, .ref 102]) dm_X12_picks_127 rfl rfl rfl rfl ?_
                      refine x_cv (pc' := 131) (rest := []) dm_X12_picks_128 rfl (q_inv (As := [ii 7, ii place]) (S := []) hm rfl rfl rfl) rfl rfl rfl (r_fail_ (s := (ordS s P)) hm (by omega) he0 hca.1 hca.2) ?_
                      rintro _ _ ⟨rfl, rfl⟩
                      refine y_ret (r := some (ii (-1))) dm_X12_picks_131 rfl rfl rfl ?_
                      rw [show d_at v w = .inl 7 from by unfold d_at; rw [if_neg (by omega), if_neg (by omega), if_pos (show allP v w = false from allN_f (k := k) (by omega) (decide_eq_false (by omega)))]]
                      exact ⟨_, rfl, rres_fail (rpre_ord s P) he0⟩
                    · rw [h0] at hb23
                      refine me1 (pc' := 114) (L' := [(5, .long (vn w k)), (0, .ref 102), (1, ii (hd : Int)), (2, ii (hd2 : Int)), (3, ii place), (4, ii ((k : Nat) : Int))]) (S' := [.long (vn w k)]) dm_X12_picks_112 rfl rfl rfl rfl ?_
                      refine me1 (pc' := 115) (L' := [(5, .long (vn w k)), (0, .ref 102), (1, ii (hd : Int)), (2, ii (hd2 : Int)), (3, ii place), (4, ii ((k : Nat) : Int))]) (S' := [.ref 102, .long (vn w k)]) dm_X12_picks_114 rfl rfl rfl rfl ?_
                      refine me1 (pc' := 116) (L' := [(5, .long (vn w k)), (0, .ref 102), (1, ii (hd : Int)), (2, ii (hd2 : Int)), (3, ii place), (4, ii ((k : Nat) : Int))]) (S' := [ii (hd : Int), .ref 102, .long (vn w k)]) dm_X12_picks_115 rfl rfl rfl rfl ?_
                      refine x_cp (pc' := 119) (v := ii (vm v : Int)) (rest := [.long (vn w k)]) dm_X12_picks_116 rfl (q_inv (As := [ii (hd : Int)]) (S := [.long (vn w k)]) hm rfl rfl rfl) rfl rfl rfl (r_many_ hm (by omega) (rB_ord hB0) (rv_ord hh3 hv)) ?_
                      refine y_i2l (a := (vm v : Int)) dm_X12_picks_119 (pc' := 120) rfl (by omega) (by omega) ?_
                      refine y_llt (x := vn w k) (y := Int64.ofInt (vm v : Int)) (t := 132) (pc1 := 121) (pc' := 124) dm_X12_picks_120 rfl dm_X12_picks_121 rfl rfl (fun hb24 => ?_) (fun hb24 => ?_)
                      · rw [hvmL] at hb24
                        refine me1 (pc' := 133) (L' := [(5, .long (vn w k)), (0, .ref 102), (1, ii (hd : Int)), (2, ii (hd2 : Int)), (3, ii place), (4, ii ((k : Nat) : Int))]) (S' := [.ref 102]) dm_X12_picks_132 rfl rfl rfl rfl ?_
                        refine me3 (pc' := 136) (S' := [.ref (102 + 5)]) dm_X12_picks_133 (q_getr hm rfl (fun m i l => rg_14 m i l)) rfl rfl rfl ?_
                        refine me1 (pc' := 138) (L' := [(5, .long (vn w k)), (0, .ref 102), (1, ii (hd : Int)), (2, ii (hd2 : Int)), (3, ii place), (4, ii ((k : Nat) : Int))]) (S' := [ii ((k : Nat) : Int), .ref (102 + 5)]) dm_X12_picks_136 rfl rfl rfl rfl ?_
                        refine me1 (pc' := 140) (L' := [(5, .long (vn w k)), (0, .ref 102), (1, ii (hd : Int)), (2, ii (hd2 : Int)), (3, ii place), (4, ii ((k : Nat) : Int))]) (S' := [.long (vn w k), ii ((k : Nat) : Int), .ref (102 + 5)]) dm_X12_picks_138 rfl rfl rfl rfl ?_
                        refine y_l2i (a := (vn w k).toInt) dm_X12_picks_140 (pc' := 141) rfl (n_l2i _ rfl) ?_
                        refine me3 (pc' := 142) (S' := []) (h1 := rI pre post ((ordS s P).1) ((ordS s P).2.1) (va_up ((ordS s P).2.2.1) 14 (va_up (((ordS s P).2.2.1) 14) k ((vn w k).toInt))) ((ordS s P).2.2.2)) dm_X12_picks_141 (q_iast (j := ((k : Nat) : Int)) (k := 14) (n := 260) hm (fun m i l I J => rc_14 m i l I J) (fun m i l I J f => rs_14 m i l I J f) (by omega) (by omega) (by decide)) rfl rfl rfl ?_
                        refine y_iinc (pc' := 145) (L' := [(4, ii (((k : Nat) : Int) + 1)), (5, .long (vn w k)), (0, .ref 102), (1, ii (hd : Int)), (2, ii (hd2 : Int)), (3, ii place)]) dm_X12_picks_142 (y_incp (a := ((k : Nat) : Int)) (c := 1) rfl rfl (by decide)) rfl ?_
                        refine me2 (pc' := 86) (S' := []) dm_X12_picks_145 rfl rfl rfl ?_
                        refine pg_cast (h2 := rI pre post ((ordS s (va_up P k (vn w k).toInt)).1) ((ordS s (va_up P k (vn w k).toInt)).2.1) ((ordS s (va_up P k (vn w k).toInt)).2.2.1) ((ordS s (va_up P k (vn w k).toInt)).2.2.2)) (ord_up s P k _) ?_
                        exact pg_sub (L := [(0, .ref 102), (1, ii (hd : Int)), (2, ii (hd2 : Int)), (3, ii place), (4, ii (((k + 1) : Nat) : Int))]) rfl rfl rfl (ih86 (vm w - (k + 1)) (by omega) (k + 1) (va_up P k (vn w k).toInt) rfl (by omega) (fun j hj => by rw [up_at]; by_cases z : j = k; (rw [if_pos z, z]; exact ⟨rfl, by omega, by omega⟩); (rw [if_neg z]; exact hP j (by omega))))
                      · rw [hvmL] at hb24
                        refine me1 (pc' := 125) (L' := [(5, .long (vn w k)), (0, .ref 102), (1, ii (hd : Int)), (2, ii (hd2 : Int)), (3, ii place), (4, ii ((k : Nat) : Int))]) (S' := [.ref 102]) dm_X12_picks_124 rfl rfl rfl rfl ?_
                        refine me0 (pc' := 127) (S' := [ii 7, .ref 102]) dm_X12_picks_125 rfl rfl rfl rfl ?_
                        refine me1 (pc' := 128) (L' := [(5, .long (vn w k)), (0, .ref 102), (1, ii (hd : Int)), (2, ii (hd2 : Int)), (3, ii place), (4, ii ((k : Nat) : Int))]) (S' := [ii place, ii 7, .ref 102]) dm_X12_picks_127 rfl rfl rfl rfl ?_
                        refine x_cv (pc' := 131) (rest := []) dm_X12_picks_128 rfl (q_inv (As := [ii 7, ii place]) (S := []) hm rfl rfl rfl) rfl rfl rfl (r_fail_ (s := (ordS s P)) hm (by omega) he0 hca.1 hca.2) ?_
                        rintro _ _ ⟨rfl, rfl⟩
                        refine y_ret (r := some (ii (-1))) dm_X12_picks_131 rfl rfl rfl ?_
                        rw [show d_at v w = .inl 7 from by unfold d_at; rw [if_neg (by omega), if_neg (by omega), if_pos (show allP v w = false from allN_f (k := k) (by omega) (decide_eq_false (by omega)))]]
                        exact ⟨_, rfl, rres_fail (rpre_ord s P) he0⟩
              refine pg_cast (h2 := rI pre post ((ordS s (s.2.2.1 14)).1) ((ordS s (s.2.2.1 14)).2.1) ((ordS s (s.2.2.1 14)).2.2.1) ((ordS s (s.2.2.1 14)).2.2.2)) (ord_0 s) ?_
              exact pg_sub (L := [(0, .ref 102), (1, ii (hd : Int)), (2, ii (hd2 : Int)), (3, ii place), (4, ii ((0 : Nat) : Int))]) rfl rfl rfl (lp86 _ 0 (s.2.2.1 14) rfl (Nat.zero_le _) (fun j hj => absurd hj (Nat.not_lt_zero j)))
            · refine me1 (pc' := 69) (L' := [(0, .ref 102), (1, ii (hd : Int)), (2, ii (hd2 : Int)), (3, ii place)]) (S' := [.ref 102]) dm_X12_picks_68 rfl rfl rfl rfl ?_
              refine me1 (pc' := 70) (L' := [(0, .ref 102), (1, ii (hd : Int)), (2, ii (hd2 : Int)), (3, ii place)]) (S' := [ii (hd2 : Int), .ref 102]) dm_X12_picks_69 rfl rfl rfl rfl ?_
              refine x_cp (pc' := 73) (v := ii (vm w : Int)) (rest := []) dm_X12_picks_70 rfl (q_inv (As := [ii (hd2 : Int)]) (S := []) hm rfl rfl rfl) rfl rfl rfl (r_many_ hm (by omega) hB0 hw) ?_
              refine y_1ne (a := (vm w : Int)) (t := 83) (pc' := 76) dm_X12_picks_73 rfl rfl (by omega) (fun hb25 => ?_) (fun hb25 => ?_)
              · refine me0 (pc' := 84) (S' := [ii 0]) dm_X12_picks_83 rfl rfl rfl rfl ?_
                refine me1 (pc' := 86) (L' := [(4, ii 0), (0, .ref 102), (1, ii (hd : Int)), (2, ii (hd2 : Int)), (3, ii place)]) (S' := []) dm_X12_picks_84 rfl rfl rfl rfl ?_
                have lp86 : ∀ (n86 : Nat) (k : Nat) (P : Nat → Int), vm w - k = n86 → (k ≤ vm w) → (∀ j, j < k → P j = (vn w j).toInt ∧ 0 ≤ (vn w j).toInt ∧ (vn w j).toInt < (vm v : Int)) → pgE xt (d - 1) 12 7 false (Option.some Jvm.ClassFile.FieldType.int) (mj_dec prog_14_method_60_code) 86 [(0, .ref 102), (1, ii (hd : Int)), (2, ii (hd2 : Int)), (3, ii place), (4, ii ((k : Nat) : Int))] [] (rI pre post ((ordS s P).1) ((ordS s P).2.1) ((ordS s P).2.2.1) ((ordS s P).2.2.2)) (fun r h' => ∃ x, r = some x ∧ rres pre post s (e + 1) (d_at v w) place 144 1 x h') := by
                  intro n86
                  induction n86 using Nat.strongRecOn with
                  | ind n86 ih86 =>
                    intro k P hm86 hk hP
                    refine me1 (pc' := 88) (L' := [(0, .ref 102), (1, ii (hd : Int)), (2, ii (hd2 : Int)), (3, ii place), (4, ii ((k : Nat) : Int))]) (S' := [ii ((k : Nat) : Int)]) dm_X12_picks_86 rfl rfl rfl rfl ?_
                    refine me1 (pc' := 89) (L' := [(0, .ref 102), (1, ii (hd : Int)), (2, ii (hd2 : Int)), (3, ii place), (4, ii ((k : Nat) : Int))]) (S' := [.ref 102, ii ((k : Nat) : Int)]) dm_X12_picks_88 rfl rfl rfl rfl ?_
                    refine me1 (pc' := 90) (L' := [(0, .ref 102), (1, ii (hd : Int)), (2, ii (hd2 : Int)), (3, ii place), (4, ii ((k : Nat) : Int))]) (S' := [ii (hd2 : Int), .ref 102, ii ((k : Nat) : Int)]) dm_X12_picks_89 rfl rfl rfl rfl ?_
                    refine x_cp (pc' := 93) (v := ii (vm w : Int)) (rest := [ii ((k : Nat) : Int)]) dm_X12_picks_90 rfl (q_inv (As := [ii (hd2 : Int)]) (S := [ii ((k : Nat) : Int)]) hm rfl rfl rfl) rfl rfl rfl (r_many_ hm (by omega) (rB_ord hB0) (rv_ord hh4 hw)) ?_
                    refine y_2ge (a := ((k : Nat) : Int)) (b := (vm w : Int)) (t := 148) (pc' := 96) dm_X12_picks_93 rfl rfl (by omega) (fun hb26 => ?_) (fun hb26 => ?_)
                    · refine me1 (pc' := 149) (L' := [(0, .ref 102), (1, ii (hd : Int)), (2, ii (hd2 : Int)), (3, ii place), (4, ii ((k : Nat) : Int))]) (S' := [.ref 102]) dm_X12_picks_148 rfl rfl rfl rfl ?_
                      refine me1 (pc' := 150) (L' := [(0, .ref 102), (1, ii (hd : Int)), (2, ii (hd2 : Int)), (3, ii place), (4, ii ((k : Nat) : Int))]) (S' := [ii (hd2 : Int), .ref 102]) dm_X12_picks_149 rfl rfl rfl rfl ?_
                      refine x_cp (pc' := 153) (v := zz (decide (vk w ≤ 1))) (rest := []) dm_X12_picks_150 rfl (q_inv (As := [ii (hd2 : Int)]) (S := []) hm rfl rfl rfl) rfl rfl rfl (r_isOne_ hm (by omega) (rB_ord hB0) (rv_ord hh4 hw)) ?_
                      refine y_zeq (c := decide (vk w ≤ 1)) (t := 168) (pc' := 156) dm_X12_picks_153 rfl rfl (fun hb27 => ?_) (fun hb27 => ?_)
                      · replace hb27 := dF hb27
                        refine me1 (pc' := 169) (L' := [(0, .ref 102), (1, ii (hd : Int)), (2, ii (hd2 : Int)), (3, ii place), (4, ii ((k : Nat) : Int))]) (S' := [.ref 102]) dm_X12_picks_168 rfl rfl rfl rfl ?_
                        refine me1 (pc' := 170) (L' := [(0, .ref 102), (1, ii (hd : Int)), (2, ii (hd2 : Int)), (3, ii place), (4, ii ((k : Nat) : Int))]) (S' := [ii (hd2 : Int), .ref 102]) dm_X12_picks_169 rfl rfl rfl rfl ?_
                        refine x_cp (pc' := 173) (v := ii (vm w : Int)) (rest := []) dm_X12_picks_170 rfl (q_inv (As := [ii (hd2 : Int)]) (S := []) hm rfl rfl rfl) rfl rfl rfl (r_many_ hm (by omega) (rB_ord hB0) (rv_ord hh4 hw)) ?_
                        refine me1 (pc' := 174) (L' := [(0, .ref 102), (1, ii (hd : Int)), (2, ii (hd2 : Int)), (3, ii place), (4, ii ((k : Nat) : Int))]) (S' := [.ref 102, ii (vm w : Int)]) dm_X12_picks_173 rfl rfl rfl rfl ?_
                        refine me1 (pc' := 175) (L' := [(0, .ref 102), (1, ii (hd : Int)), (2, ii (hd2 : Int)), (3, ii place), (4, ii ((k : Nat) : Int))]) (S' := [ii (hd : Int), .ref 102, ii (vm w : Int)]) dm_X12_picks_174 rfl rfl rfl rfl ?_
                        refine x_cp (pc' := 178) (v := ii (vk v : Int)) (rest := [ii (vm w : Int)]) dm_X12_picks_175 rfl (q_inv (As := [ii (hd : Int)]) (S := [ii (vm w : Int)]) hm rfl rfl rfl) rfl rfl rfl (r_kindOf_ hm (by omega) (rB_ord hB0) (rv_ord hh3 hv)) ?_
                        refine me0 (pc' := 180) (S' := [ii 7, ii (vk v : Int), ii (vm w : Int)]) dm_X12_picks_178 rfl rfl rfl rfl ?_
                        refine y_2ne (a := (vk v : Int)) (b := 7) (t := 188) (pc' := 183) dm_X12_picks_180 rfl rfl (by omega) (fun hb28 => ?_) (fun hb28 => ?_)
                        · refine me1 (pc' := 189) (L' := [(0, .ref 102), (1, ii (hd : Int)), (2, ii (hd2 : Int)), (3, ii place), (4, ii ((k : Nat) : Int))]) (S' := [.ref 102, ii (vm w : Int)]) dm_X12_picks_188 rfl rfl rfl rfl ?_
                          refine me1 (pc' := 190) (L' := [(0, .ref 102), (1, ii (hd : Int)), (2, ii (hd2 : Int)), (3, ii place), (4, ii ((k : Nat) : Int))]) (S' := [ii (hd : Int), .ref 102, ii (vm w : Int)]) dm_X12_picks_189 rfl rfl rfl rfl ?_
                          refine x_cp (pc' := 193) (v := ii (vk v : Int)) (rest := [ii (vm w : Int)]) dm_X12_picks_190 rfl (q_inv (As := [ii (hd : Int)]) (S := [ii (vm w : Int)]) hm rfl rfl rfl) rfl rfl rfl (r_kindOf_ hm (by omega) (rB_ord hB0) (rv_ord hh3 hv)) ?_
                          refine me0 (pc' := 195) (S' := [ii 6, ii (vk v : Int), ii (vm w : Int)]) dm_X12_picks_193 rfl rfl rfl rfl ?_
                          refine y_2ne (a := (vk v : Int)) (b := 6) (t := 203) (pc' := 198) dm_X12_picks_195 rfl rfl (by omega) (fun hb29 => ?_) (fun hb29 => ?_)
                          · refine me0 (pc' := 205) (S' := [ii 120, ii (vm w : Int)]) dm_X12_picks_203 rfl rfl rfl rfl ?_
                            refine y_2le (a := (vm w : Int)) (b := 120) (t := 216) (pc' := 208) dm_X12_picks_205 rfl rfl (by omega) (fun hb30 => ?_) (fun hb30 => ?_)
                            · refine me1 (pc' := 217) (L' := [(0, .ref 102), (1, ii (hd : Int)), (2, ii (hd2 : Int)), (3, ii place), (4, ii ((k : Nat) : Int))]) (S' := [.ref 102]) dm_X12_picks_216 rfl rfl rfl rfl ?_
                              refine me1 (pc' := 218) (L' := [(0, .ref 102), (1, ii (hd : Int)), (2, ii (hd2 : Int)), (3, ii place), (4, ii ((k : Nat) : Int))]) (S' := [ii (hd : Int), .ref 102]) dm_X12_picks_217 rfl rfl rfl rfl ?_
                              refine me1 (pc' := 219) (L' := [(0, .ref 102), (1, ii (hd : Int)), (2, ii (hd2 : Int)), (3, ii place), (4, ii ((k : Nat) : Int))]) (S' := [.ref 102, ii (hd : Int), .ref 102]) dm_X12_picks_218 rfl rfl rfl rfl ?_
                              refine me1 (pc' := 220) (L' := [(0, .ref 102), (1, ii (hd : Int)), (2, ii (hd2 : Int)), (3, ii place), (4, ii ((k : Nat) : Int))]) (S' := [ii (hd2 : Int), .ref 102, ii (hd : Int), .ref 102]) dm_X12_picks_219 rfl rfl rfl rfl ?_
                              refine x_cp (pc' := 223) (v := ii (vm w : Int)) (rest := [ii (hd : Int), .ref 102]) dm_X12_picks_220 rfl (q_inv (As := [ii (hd2 : Int)]) (S := [ii (hd : Int), .ref 102]) hm rfl rfl rfl) rfl rfl rfl (r_many_ hm (by omega) (rB_ord hB0) (rv_ord hh4 hw)) ?_
                              have hal : allP v w = true := allN_iff.mpr (fun j hj => decide_eq_true (by have := hP j (by omega); omega))
                              have hpc : pcl v (vm w) ≤ 144 := by unfold pcl; split; (have hm12 := Nat.mul_le_mul (show vm w ≤ 12 by omega) hvc; omega); omega
                              have hOO : ∀ j, j < vm w → 0 ≤ (ordS s P).2.2.1 14 j ∧ (ordS s P).2.2.1 14 j < vm v := fun j hj => by rw [ordS_14]; have := hP j (by omega); omega
                              refine x_cv (pc' := 226) (rest := []) dm_X12_picks_223 rfl (q_inv (As := [ii (hd : Int), ii (vm w : Int)]) (S := []) hm rfl rfl rfl) rfl rfl rfl (r_picked_ (s := ordS s P) (q := q) (b := b) (n := vm w) (place := place) hm (by omega) (rB_ord hB0) (rv_ord hh3 hv) hh3 hq hb hq3 hV2 he0 (by omega) (by omega) (by omega) (by omega) hOO) ?_
                              rintro _ _ ⟨t1, rfl, r1, r2, r3, r4, r5, r6, p1, r7, rfl, r8⟩
                              refine y_ret (r := some (ii (p1 : Int))) dm_X12_picks_226 rfl rfl rfl ?_
                              rw [show d_at v w = .inr (vpick v (fun k => (vn w k).toInt.toNat) (vm w)) by unfold d_at; rw [if_neg (by omega), if_neg (by omega), if_neg (by rw [hal]; decide), if_neg (by omega)]; by_cases z7 : vk v = 7; (exact s_pick_7 z7 (by omega)); first | exact s_pick_6 (by omega) (by omega) (by omega) | exact s_pick_r (by omega)]
                              refine ⟨_, rfl, rres_up (rres_bk (rpre_ord s P) (rres_ve (vpick_congr (by omega) (fun j hj => ?_)) ⟨t1, rfl, r1, r2, r3, r4, r5, r6, p1, r7, rfl, r8⟩)) hpc (Nat.le_refl _)⟩
                              show ((ordS s P).2.2.1 14 j).toNat = _
                              rw [ordS_14, (hP j (by omega)).1]
                            · refine me1 (pc' := 209) (L' := [(0, .ref 102), (1, ii (hd : Int)), (2, ii (hd2 : Int)), (3, ii place), (4, ii ((k : Nat) : Int))]) (S' := [.ref 102]) dm_X12_picks_208 rfl rfl rfl rfl ?_
                              refine me0 (pc' := 211) (S' := [ii 8, .ref 102]) dm_X12_picks_209 rfl rfl rfl rfl ?_
                              refine me1 (pc' := 212) (L' := [(0, .ref 102), (1, ii (hd : Int)), (2, ii (hd2 : Int)), (3, ii place), (4, ii ((k : Nat) : Int))]) (S' := [ii place, ii 8, .ref 102]) dm_X12_picks_211 rfl rfl rfl rfl ?_
                              refine x_cv (pc' := 215) (rest := []) dm_X12_picks_212 rfl (q_inv (As := [ii 8, ii place]) (S := []) hm rfl rfl rfl) rfl rfl rfl (r_fail_ (s := (ordS s P)) hm (by omega) he0 hca.1 hca.2) ?_
                              rintro _ _ ⟨rfl, rfl⟩
                              refine y_ret (r := some (ii (-1))) dm_X12_picks_215 rfl rfl rfl ?_
                              have hal : allP v w = true := allN_iff.mpr (fun j hj => decide_eq_true (by have := hP j (by omega); omega))
                              rw [show d_at v w = .inl 8 from by first | (exfalso; omega) | (unfold d_at; rw [if_neg (by omega), if_neg (by omega), if_neg (by rw [hal]; decide), if_neg (by omega)]; first | exact s_pick_7e (by omega) (by omega) | exact s_pick_6e (by omega) (by omega))]
                              exact ⟨_, rfl, rres_fail (rpre_ord s P) he0⟩
                          · refine me0 (pc' := 200) (S' := [ii 12, ii (vm w : Int)]) dm_X12_picks_198 rfl rfl rfl rfl ?_
                            refine me2 (pc' := 205) (S' := [ii 12, ii (vm w : Int)]) dm_X12_picks_200 rfl rfl rfl ?_
                            refine y_2le (a := (vm w : Int)) (b := 12) (t := 216) (pc' := 208) dm_X12_picks_205 rfl rfl (by omega) (fun hb31 => ?_) (fun hb31 => ?_)
                            · refine me1 (pc' := 217) (L' := [(0, .ref 102), (1, ii (hd : Int)), (2, ii (hd2 : Int)), (3, ii place), (4, ii ((k : Nat) : Int))]) (S' := [.ref 102]) dm_X12_picks_216 rfl rfl rfl rfl ?_
                              refine me1 (pc' := 218) (L' := [(0, .ref 102), (1, ii (hd : Int)), (2, ii (hd2 : Int)), (3, ii place), (4, ii ((k : Nat) : Int))]) (S' := [ii (hd : Int), .ref 102]) dm_X12_picks_217 rfl rfl rfl rfl ?_
                              refine me1 (pc' := 219) (L' := [(0, .ref 102), (1, ii (hd : Int)), (2, ii (hd2 : Int)), (3, ii place), (4, ii ((k : Nat) : Int))]) (S' := [.ref 102, ii (hd : Int), .ref 102]) dm_X12_picks_218 rfl rfl rfl rfl ?_
                              refine me1 (pc' := 220) (L' := [(0, .ref 102), (1, ii (hd : Int)), (2, ii (hd2 : Int)), (3, ii place), (4, ii ((k : Nat) : Int))]) (S' := [ii (hd2 : Int), .ref 102, ii (hd : Int), .ref 102]) dm_X12_picks_219 rfl rfl rfl rfl ?_
                              refine x_cp (pc' := 223) (v := ii (vm w : Int)) (rest := [ii (hd : Int), .ref 102]) dm_X12_picks_220 rfl (q_inv (As := [ii (hd2 : Int)]) (S := [ii (hd : Int), .ref 102]) hm rfl rfl rfl) rfl rfl rfl (r_many_ hm (by omega) (rB_ord hB0) (rv_ord hh4 hw)) ?_
                              have hal : allP v w = true := allN_iff.mpr (fun j hj => decide_eq_true (by have := hP j (by omega); omega))
                              have hpc : pcl v (vm w) ≤ 144 := by unfold pcl; split; (have hm12 := Nat.mul_le_mul (show vm w ≤ 12 by omega) hvc; omega); omega
                              have hOO : ∀ j, j < vm w → 0 ≤ (ordS s P).2.2.1 14 j ∧ (ordS s P).2.2.1 14 j < vm v := fun j hj => by rw [ordS_14]; have := hP j (by omega); omega
                              refine x_cv (pc' := 226) (rest := []) dm_X12_picks_223 rfl (q_inv (As := [ii (hd : Int), ii (vm w : Int)]) (S := []) hm rfl rfl rfl) rfl rfl rfl (r_picked_ (s := ordS s P) (q := q) (b := b) (n := vm w) (place := place) hm (by omega) (rB_ord hB0) (rv_ord hh3 hv) hh3 hq hb hq3 hV2 he0 (by omega) (by omega) (by omega) (by omega) hOO) ?_
                              rintro _ _ ⟨t1, rfl, r1, r2, r3, r4, r5, r6, p1, r7, rfl, r8⟩
                              refine y_ret (r := some (ii (p1 : Int))) dm_X12_picks_226 rfl rfl rfl ?_
                              rw [show d_at v w = .inr (vpick v (fun k => (vn w k).toInt.toNat) (vm w)) by unfold d_at; rw [if_neg (by omega), if_neg (by omega), if_neg (by rw [hal]; decide), if_neg (by omega)]; by_cases z7 : vk v = 7; (exact s_pick_7 z7 (by omega)); first | exact s_pick_6 (by omega) (by omega) (by omega) | exact s_pick_r (by omega)]
                              refine ⟨_, rfl, rres_up (rres_bk (rpre_ord s P) (rres_ve (vpick_congr (by omega) (fun j hj => ?_)) ⟨t1, rfl, r1, r2, r3, r4, r5, r6, p1, r7, rfl, r8⟩)) hpc (Nat.le_refl _)⟩
                              show ((ordS s P).2.2.1 14 j).toNat = _
                              rw [ordS_14, (hP j (by omega)).1]
                            · refine me1 (pc' := 209) (L' := [(0, .ref 102), (1, ii (hd : Int)), (2, ii (hd2 : Int)), (3, ii place), (4, ii ((k : Nat) : Int))]) (S' := [.ref 102]) dm_X12_picks_208 rfl rfl rfl rfl ?_
                              refine me0 (pc' := 211) (S' := [ii 8, .ref 102]) dm_X12_picks_209 rfl rfl rfl rfl ?_
                              refine me1 (pc' := 212) (L' := [(0, .ref 102), (1, ii (hd : Int)), (2, ii (hd2 : Int)), (3, ii place), (4, ii ((k : Nat) : Int))]) (S' := [ii place, ii 8, .ref 102]) dm_X12_picks_211 rfl rfl rfl rfl ?_
                              refine x_cv (pc' := 215) (rest := []) dm_X12_picks_212 rfl (q_inv (As := [ii 8, ii place]) (S := []) hm rfl rfl rfl) rfl rfl rfl (r_fail_ (s := (ordS s P)) hm (by omega) he0 hca.1 hca.2) ?_
                              rintro _ _ ⟨rfl, rfl⟩
                              refine y_ret (r := some (ii (-1))) dm_X12_picks_215 rfl rfl rfl ?_
                              have hal : allP v w = true := allN_iff.mpr (fun j hj => decide_eq_true (by have := hP j (by omega); omega))
                              rw [show d_at v w = .inl 8 from by first | (exfalso; omega) | (unfold d_at; rw [if_neg (by omega), if_neg (by omega), if_neg (by rw [hal]; decide), if_neg (by omega)]; first | exact s_pick_7e (by omega) (by omega) | exact s_pick_6e (by omega) (by omega))]
                              exact ⟨_, rfl, rres_fail (rpre_ord s P) he0⟩
                        · refine me0 (pc' := 185) (S' := [ii 24, ii (vm w : Int)]) dm_X12_picks_183 rfl rfl rfl rfl ?_
                          refine me2 (pc' := 205) (S' := [ii 24, ii (vm w : Int)]) dm_X12_picks_185 rfl rfl rfl ?_
                          refine y_2le (a := (vm w : Int)) (b := 24) (t := 216) (pc' := 208) dm_X12_picks_205 rfl rfl (by omega) (fun hb32 => ?_) (fun hb32 => ?_)
                          · refine me1 (pc' := 217) (L' := [(0, .ref 102), (1, ii (hd : Int)), (2, ii (hd2 : Int)), (3, ii place), (4, ii ((k : Nat) : Int))]) (S' := [.ref 102]) dm_X12_picks_216 rfl rfl rfl rfl ?_
                            refine me1 (pc' := 218) (L' := [(0, .ref 102), (1, ii (hd : Int)), (2, ii (hd2 : Int)), (3, ii place), (4, ii ((k : Nat) : Int))]) (S' := [ii (hd : Int), .ref 102]) dm_X12_picks_217 rfl rfl rfl rfl ?_
                            refine me1 (pc' := 219) (L' := [(0, .ref 102), (1, ii (hd : Int)), (2, ii (hd2 : Int)), (3, ii place), (4, ii ((k : Nat) : Int))]) (S' := [.ref 102, ii (hd : Int), .ref 102]) dm_X12_picks_218 rfl rfl rfl rfl ?_
                            refine me1 (pc' := 220) (L' := [(0, .ref 102), (1, ii (hd : Int)), (2, ii (hd2 : Int)), (3, ii place), (4, ii ((k : Nat) : Int))]) (S' := [ii (hd2 : Int), .ref 102, ii (hd : Int), .ref 102]) dm_X12_picks_219 rfl rfl rfl rfl ?_
                            refine x_cp (pc' := 223) (v := ii (vm w : Int)) (rest := [ii (hd : Int), .ref 102]) dm_X12_picks_220 rfl (q_inv (As := [ii (hd2 : Int)]) (S := [ii (hd : Int), .ref 102]) hm rfl rfl rfl) rfl rfl rfl (r_many_ hm (by omega) (rB_ord hB0) (rv_ord hh4 hw)) ?_
                            have hal : allP v w = true := allN_iff.mpr (fun j hj => decide_eq_true (by have := hP j (by omega); omega))
                            have hpc : pcl v (vm w) ≤ 144 := by unfold pcl; split; (have hm12 := Nat.mul_le_mul (show vm w ≤ 12 by omega) hvc; omega); omega
                            have hOO : ∀ j, j < vm w → 0 ≤ (ordS s P).2.2.1 14 j ∧ (ordS s P).2.2.1 14 j < vm v := fun j hj => by rw [ordS_14]; have := hP j (by omega); omega
                            refine x_cv (pc' := 226) (rest := []) dm_X12_picks_223 rfl (q_inv (As := [ii (hd : Int), ii (vm w : Int)]) (S := []) hm rfl rfl rfl) rfl rfl rfl (r_picked_ (s := ordS s P) (q := q) (b := b) (n := vm w) (place := place) hm (by omega) (rB_ord hB0) (rv_ord hh3 hv) hh3 hq hb hq3 hV2 he0 (by omega) (by omega) (by omega) (by omega) hOO) ?_
                            rintro _ _ ⟨t1, rfl, r1, r2, r3, r4, r5, r6, p1, r7, rfl, r8⟩
                            refine y_ret (r := some (ii (p1 : Int))) dm_X12_picks_226 rfl rfl rfl ?_
                            rw [show d_at v w = .inr (vpick v (fun k => (vn w k).toInt.toNat) (vm w)) by unfold d_at; rw [if_neg (by omega), if_neg (by omega), if_neg (by rw [hal]; decide), if_neg (by omega)]; by_cases z7 : vk v = 7; (exact s_pick_7 z7 (by omega)); first | exact s_pick_6 (by omega) (by omega) (by omega) | exact s_pick_r (by omega)]
                            refine ⟨_, rfl, rres_up (rres_bk (rpre_ord s P) (rres_ve (vpick_congr (by omega) (fun j hj => ?_)) ⟨t1, rfl, r1, r2, r3, r4, r5, r6, p1, r7, rfl, r8⟩)) hpc (Nat.le_refl _)⟩
                            show ((ordS s P).2.2.1 14 j).toNat = _
                            rw [ordS_14, (hP j (by omega)).1]
                          · refine me1 (pc' := 209) (L' := [(0, .ref 102), (1, ii (hd : Int)), (2, ii (hd2 : Int)), (3, ii place), (4, ii ((k : Nat) : Int))]) (S' := [.ref 102]) dm_X12_picks_208 rfl rfl rfl rfl ?_
                            refine me0 (pc' := 211) (S' := [ii 8, .ref 102]) dm_X12_picks_209 rfl rfl rfl rfl ?_
                            refine me1 (pc' := 212) (L' := [(0, .ref 102), (1, ii (hd : Int)), (2, ii (hd2 : Int)), (3, ii place), (4, ii ((k : Nat) : Int))]) (S' := [ii place, ii 8, .ref 102]) dm_X12_picks_211 rfl rfl rfl rfl ?_
                            refine x_cv (pc' := 215) (rest := []) dm_X12_picks_212 rfl (q_inv (As := [ii 8, ii place]) (S := []) hm rfl rfl rfl) rfl rfl rfl (r_fail_ (s := (ordS s P)) hm (by omega) he0 hca.1 hca.2) ?_
                            rintro _ _ ⟨rfl, rfl⟩
                            refine y_ret (r := some (ii (-1))) dm_X12_picks_215 rfl rfl rfl ?_
                            have hal : allP v w = true := allN_iff.mpr (fun j hj => decide_eq_true (by have := hP j (by omega); omega))
                            rw [show d_at v w = .inl 8 from by first | (exfalso; omega) | (unfold d_at; rw [if_neg (by omega), if_neg (by omega), if_neg (by rw [hal]; decide), if_neg (by omega)]; first | exact s_pick_7e (by omega) (by omega) | exact s_pick_6e (by omega) (by omega))]
                            exact ⟨_, rfl, rres_fail (rpre_ord s P) he0⟩
                      · replace hb27 := dT hb27
                        refine me1 (pc' := 157) (L' := [(0, .ref 102), (1, ii (hd : Int)), (2, ii (hd2 : Int)), (3, ii place), (4, ii ((k : Nat) : Int))]) (S' := [.ref 102]) dm_X12_picks_156 rfl rfl rfl rfl ?_
                        refine me1 (pc' := 158) (L' := [(0, .ref 102), (1, ii (hd : Int)), (2, ii (hd2 : Int)), (3, ii place), (4, ii ((k : Nat) : Int))]) (S' := [ii (hd : Int), .ref 102]) dm_X12_picks_157 rfl rfl rfl rfl ?_
                        refine me1 (pc' := 159) (L' := [(0, .ref 102), (1, ii (hd : Int)), (2, ii (hd2 : Int)), (3, ii place), (4, ii ((k : Nat) : Int))]) (S' := [.ref 102, ii (hd : Int), .ref 102]) dm_X12_picks_158 rfl rfl rfl rfl ?_
                        refine me3 (pc' := 162) (S' := [.ref (102 + 5), ii (hd : Int), .ref 102]) dm_X12_picks_159 (q_getr hm rfl (fun m i l => rg_14 m i l)) rfl rfl rfl ?_
                        refine me0 (pc' := 163) (S' := [ii 0, .ref (102 + 5), ii (hd : Int), .ref 102]) dm_X12_picks_162 rfl rfl rfl rfl ?_
                        refine me3 (pc' := 164) (S' := [ii ((((ordS s P).2.2.1) 14) 0), ii (hd : Int), .ref 102]) dm_X12_picks_163 (q_iald (v := (((ordS s P).2.2.1) 14) 0) (k := 14) (n := 260) hm (fun m i l I J => rc_14 m i l I J) (by omega) (by omega) (by decide) rfl) rfl rfl rfl ?_
                        have hal : allP v w = true := allN_iff.mpr (fun j hj => decide_eq_true (by have := hP j (by omega); omega))
                        have hP0 := hP 0 (by omega)
                        refine pg_st (S' := [ii (((vn w 0).toInt.toNat : Nat) : Int), ii (hd : Int), .ref 102]) (congrArg (fun z => ii z :: [ii (hd : Int), .ref 102]) (show (ordS s P).2.2.1 14 0 = _ by rw [ordS_14, hP0.1]; omega)) ?_
                        refine x_cv (pc' := 167) (rest := []) dm_X12_picks_164 rfl (q_inv (As := [ii (hd : Int), ii (((vn w 0).toInt.toNat : Nat) : Int)]) (S := []) hm rfl rfl rfl) rfl rfl rfl (r_itemOf_ (s := ordS s P) (q := q) (b := b) (place := place) (k := (vn w 0).toInt.toNat) hm (by omega) (rB_ord hB0) (rv_ord hh3 hv) hh3 hq hb hq3 hV2 he0 hca hC (by omega) (by omega)) ?_
                        rintro _ _ ⟨t1, rfl, r1, r2, r3, r4, r5, r6, p1, r7, rfl, r8⟩
                        refine y_ret (r := some (ii (p1 : Int))) dm_X12_picks_167 rfl rfl rfl ?_
                        rw [show d_at v w = .inr (vit v (vn w 0).toInt.toNat) by unfold d_at; rw [if_neg (by omega), if_neg (by omega), if_neg (by rw [hal]; decide), if_pos (by omega)]]
                        exact ⟨_, rfl, rres_up (rres_bk (rpre_ord s P) ⟨t1, rfl, r1, r2, r3, r4, r5, r6, p1, r7, rfl, r8⟩) (by omega) (Nat.le_refl _)⟩
                    · refine me1 (pc' := 97) (L' := [(0, .ref 102), (1, ii (hd : Int)), (2, ii (hd2 : Int)), (3, ii place), (4, ii ((k : Nat) : Int))]) (S' := [.ref 102]) dm_X12_picks_96 rfl rfl rfl rfl ?_
                      refine me1 (pc' := 98) (L' := [(0, .ref 102), (1, ii (hd : Int)), (2, ii (hd2 : Int)), (3, ii place), (4, ii ((k : Nat) : Int))]) (S' := [ii (hd2 : Int), .ref 102]) dm_X12_picks_97 rfl rfl rfl rfl ?_
                      refine me1 (pc' := 100) (L' := [(0, .ref 102), (1, ii (hd : Int)), (2, ii (hd2 : Int)), (3, ii place), (4, ii ((k : Nat) : Int))]) (S' := [ii ((k : Nat) : Int), ii (hd2 : Int), .ref 102]) dm_X12_picks_98 rfl rfl rfl rfl ?_
                      refine x_cp (pc' := 103) (v := .long (vn w k)) (rest := []) dm_X12_picks_100 rfl (q_inv (As := [ii (hd2 : Int), ii ((k : Nat) : Int)]) (S := []) hm rfl rfl rfl) rfl rfl rfl (r_number_ (k := k) hm (by omega) (rB_ord hB0) (rv_ord hh4 hw) (by omega) (by omega)) ?_
                      refine me1 (pc' := 105) (L' := [(5, .long (vn w k)), (0, .ref 102), (1, ii (hd : Int)), (2, ii (hd2 : Int)), (3, ii place), (4, ii ((k : Nat) : Int))]) (S' := []) dm_X12_picks_103 rfl rfl rfl rfl ?_
                      refine me1 (pc' := 107) (L' := [(5, .long (vn w k)), (0, .ref 102), (1, ii (hd : Int)), (2, ii (hd2 : Int)), (3, ii place), (4, ii ((k : Nat) : Int))]) (S' := [.long (vn w k)]) dm_X12_picks_105 rfl rfl rfl rfl ?_
                      refine me0 (pc' := 108) (S' := [.long (Int64.ofInt 0), .long (vn w k)]) dm_X12_picks_107 rfl rfl rfl rfl ?_
                      refine y_llt (x := vn w k) (y := Int64.ofInt 0) (t := 124) (pc1 := 109) (pc' := 112) dm_X12_picks_108 rfl dm_X12_picks_109 rfl rfl (fun hb33 => ?_) (fun hb33 => ?_)
                      · rw [h0] at hb33
                        refine me1 (pc' := 125) (L' := [(5, .long (vn w k)), (0, .ref 102), (1, ii (hd : Int)), (2, ii (hd2 : Int)), (3, ii place), (4, ii ((k : Nat) : Int))]) (S' := [.ref 102]) dm_X12_picks_124 rfl rfl rfl rfl ?_
                        refine me0 (pc' := 127) (S' := [ii 7, .ref 102]) dm_X12_picks_125 rfl rfl rfl rfl ?_
                        refine me1 (pc' := 128) (L' := [(5, .long (vn w k)), (0, .ref 102), (1, ii (hd : Int)), (2, ii (hd2 : Int)), (3, ii place), (4, ii ((k : Nat) : Int))]) (S' := [ii place, ii 7, .ref 102]) dm_X12_picks_127 rfl rfl rfl rfl ?_
                        refine x_cv (pc' := 131) (rest := []) dm_X12_picks_128 rfl (q_inv (As := [ii 7, ii place]) (S := []) hm rfl rfl rfl) rfl rfl rfl (r_fail_ (s := (ordS s P)) hm (by omega) he0 hca.1 hca.2) ?_
                        rintro _ _ ⟨rfl, rfl⟩
                        refine y_ret (r := some (ii (-1))) dm_X12_picks_131 rfl rfl rfl ?_
                        rw [show d_at v w = .inl 7 from by unfold d_at; rw [if_neg (by omega), if_neg (by omega), if_pos (show allP v w = false from allN_f (k := k) (by omega) (decide_eq_false (by omega)))]]
                        exact ⟨_, rfl, rres_fail (rpre_ord s P) he0⟩
                      · rw [h0] at hb33
                        refine me1 (pc' := 114) (L' := [(5, .long (vn w k)), (0, .ref 102), (1, ii (hd : Int)), (2, ii (hd2 : Int)), (3, ii place), (4, ii ((k : Nat) : Int))]) (S' := [.long (vn w k)]) dm_X12_picks_112 rfl rfl rfl rfl ?_
                        refine me1 (pc' := 115) (L' := [(5, .long (vn w k)), (0, .ref 102), (1, ii (hd : Int)), (2, ii (hd2 : Int)), (3, ii place), (4, ii ((k : Nat) : Int))]) (S' := [.ref 102, .long (vn w k)]) dm_X12_picks_114 rfl rfl rfl rfl ?_
                        refine me1 (pc' := 116) (L' := [(5, .long (vn w k)), (0, .ref 102), (1, ii (hd : Int)), (2, ii (hd2 : Int)), (3, ii place), (4, ii ((k : Nat) : Int))]) (S' := [ii (hd : Int), .ref 102, .long (vn w k)]) dm_X12_picks_115 rfl rfl rfl rfl ?_
                        refine x_cp (pc' := 119) (v := ii (vm v : Int)) (rest := [.long (vn w k)]) dm_X12_picks_116 rfl (q_inv (As := [ii (hd : Int)]) (S := [.long (vn w k)]) hm rfl rfl rfl) rfl rfl rfl (r_many_ hm (by omega) (rB_ord hB0) (rv_ord hh3 hv)) ?_
                        refine y_i2l (a := (vm v : Int)) dm_X12_picks_119 (pc' := 120) rfl (by omega) (by omega) ?_
                        refine y_llt (x := vn w k) (y := Int64.ofInt (vm v : Int)) (t := 132) (pc1 := 121) (pc' := 124) dm_X12_picks_120 rfl dm_X12_picks_121 rfl rfl (fun hb34 => ?_) (fun hb34 => ?_)
                        · rw [hvmL] at hb34
                          refine me1 (pc' := 133) (L' := [(5, .long (vn w k)), (0, .ref 102), (1, ii (hd : Int)), (2, ii (hd2 : Int)), (3, ii place), (4, ii ((k : Nat) : Int))]) (S' := [.ref 102]) dm_X12_picks_132 rfl rfl rfl rfl ?_
                          refine me3 (pc' := 136) (S' := [.ref (102 + 5)]) dm_X12_picks_133 (q_getr hm rfl (fun m i l => rg_14 m i l)) rfl rfl rfl ?_
                          refine me1 (pc' := 138) (L' := [(5, .long (vn w k)), (0, .ref 102), (1, ii (hd : Int)), (2, ii (hd2 : Int)), (3, ii place), (4, ii ((k : Nat) : Int))]) (S' := [ii ((k : Nat) : Int), .ref (102 + 5)]) dm_X12_picks_136 rfl rfl rfl rfl ?_
                          refine me1 (pc' := 140) (L' := [(5, .long (vn w k)), (0, .ref 102), (1, ii (hd : Int)), (2, ii (hd2 : Int)), (3, ii place), (4, ii ((k : Nat) : Int))]) (S' := [.long (vn w k), ii ((k : Nat) : Int), .ref (102 + 5)]) dm_X12_picks_138 rfl rfl rfl rfl ?_
                          refine y_l2i (a := (vn w k).toInt) dm_X12_picks_140 (pc' := 141) rfl (n_l2i _ rfl) ?_
                          refine me3 (pc' := 142) (S' := []) (h1 := rI pre post ((ordS s P).1) ((ordS s P).2.1) (va_up ((ordS s P).2.2.1) 14 (va_up (((ordS s P).2.2.1) 14) k ((vn w k).toInt))) ((ordS s P).2.2.2)) dm_X12_picks_141 (q_iast (j := ((k : Nat) : Int)) (k := 14) (n := 260) hm (fun m i l I J => rc_14 m i l I J) (fun m i l I J f => rs_14 m i l I J f) (by omega) (by omega) (by decide)) rfl rfl rfl ?_
                          refine y_iinc (pc' := 145) (L' := [(4, ii (((k : Nat) : Int) + 1)), (5, .long (vn w k)), (0, .ref 102), (1, ii (hd : Int)), (2, ii (hd2 : Int)), (3, ii place)]) dm_X12_picks_142 (y_incp (a := ((k : Nat) : Int)) (c := 1) rfl rfl (by decide)) rfl ?_
                          refine me2 (pc' := 86) (S' := []) dm_X12_picks_145 rfl rfl rfl ?_
                          refine pg_cast (h2 := rI pre post ((ordS s (va_up P k (vn w k).toInt)).1) ((ordS s (va_up P k (vn w k).toInt)).2.1) ((ordS s (va_up P k (vn w k).toInt)).2.2.1) ((ordS s (va_up P k (vn w k).toInt)).2.2.2)) (ord_up s P k _) ?_
                          exact pg_sub (L := [(0, .ref 102), (1, ii (hd : Int)), (2, ii (hd2 : Int)), (3, ii place), (4, ii (((k + 1) : Nat) : Int))]) rfl rfl rfl (ih86 (vm w - (k + 1)) (by omega) (k + 1) (va_up P k (vn w k).toInt) rfl (by omega) (fun j hj => by rw [up_at]; by_cases z : j = k; (rw [if_pos z, z]; exact ⟨rfl, by omega, by omega⟩); (rw [if_neg z]; exact hP j (by omega))))
                        · rw [hvmL] at hb34
                          refine me1 (pc' := 125) (L' := [(5, .long (vn w k)), (0, .ref 102), (1, ii (hd : Int)), (2, ii (hd2 : Int)), (3, ii place), (4, ii ((k : Nat) : Int))]) (S' := [.ref 102]) dm_X12_picks_124 rfl rfl rfl rfl ?_
                          refine me0 (pc' := 127) (S' := [ii 7, .ref 102]) dm_X12_picks_125 rfl rfl rfl rfl ?_
                          refine me1 (pc' := 128) (L' := [(5, .long (vn w k)), (0, .ref 102), (1, ii (hd : Int)), (2, ii (hd2 : Int)), (3, ii place), (4, ii ((k : Nat) : Int))]) (S' := [ii place, ii 7, .ref 102]) dm_X12_picks_127 rfl rfl rfl rfl ?_
                          refine x_cv (pc' := 131) (rest := []) dm_X12_picks_128 rfl (q_inv (As := [ii 7, ii place]) (S := []) hm rfl rfl rfl) rfl rfl rfl (r_fail_ (s := (ordS s P)) hm (by omega) he0 hca.1 hca.2) ?_
                          rintro _ _ ⟨rfl, rfl⟩
                          refine y_ret (r := some (ii (-1))) dm_X12_picks_131 rfl rfl rfl ?_
                          rw [show d_at v w = .inl 7 from by unfold d_at; rw [if_neg (by omega), if_neg (by omega), if_pos (show allP v w = false from allN_f (k := k) (by omega) (decide_eq_false (by omega)))]]
                          exact ⟨_, rfl, rres_fail (rpre_ord s P) he0⟩
                refine pg_cast (h2 := rI pre post ((ordS s (s.2.2.1 14)).1) ((ordS s (s.2.2.1 14)).2.1) ((ordS s (s.2.2.1 14)).2.2.1) ((ordS s (s.2.2.1 14)).2.2.2)) (ord_0 s) ?_
                exact pg_sub (L := [(0, .ref 102), (1, ii (hd : Int)), (2, ii (hd2 : Int)), (3, ii place), (4, ii ((0 : Nat) : Int))]) rfl rfl rfl (lp86 _ 0 (s.2.2.1 14) rfl (Nat.zero_le _) (fun j hj => absurd hj (Nat.not_lt_zero j)))
              · refine me1 (pc' := 77) (L' := [(0, .ref 102), (1, ii (hd : Int)), (2, ii (hd2 : Int)), (3, ii place)]) (S' := [.ref 102]) dm_X12_picks_76 rfl rfl rfl rfl ?_
                refine me0 (pc' := 78) (S' := [ii 4, .ref 102]) dm_X12_picks_77 rfl rfl rfl rfl ?_
                refine me1 (pc' := 79) (L' := [(0, .ref 102), (1, ii (hd : Int)), (2, ii (hd2 : Int)), (3, ii place)]) (S' := [ii place, ii 4, .ref 102]) dm_X12_picks_78 rfl rfl rfl rfl ?_
                refine x_cv (pc' := 82) (rest := []) dm_X12_picks_79 rfl (q_inv (As := [ii 4, ii place]) (S := []) hm rfl rfl rfl) rfl rfl rfl (r_fail_ (s := s) hm (by omega) he0 hca.1 hca.2) ?_
                rintro _ _ ⟨rfl, rfl⟩
                refine y_ret (r := some (ii (-1))) dm_X12_picks_82 rfl rfl rfl ?_
                rw [show d_at v w = .inl 4 from by unfold d_at; rw [if_neg (by omega), if_pos (by omega)]]
                exact ⟨_, rfl, rres_fail (rpre_rf s) he0⟩
        · refine me1 (pc' := 44) (L' := [(0, .ref 102), (1, ii (hd : Int)), (2, ii (hd2 : Int)), (3, ii place)]) (S' := [.ref 102]) dm_X12_picks_43 rfl rfl rfl rfl ?_
          refine me0 (pc' := 45) (S' := [ii 5, .ref 102]) dm_X12_picks_44 rfl rfl rfl rfl ?_
          refine me1 (pc' := 46) (L' := [(0, .ref 102), (1, ii (hd : Int)), (2, ii (hd2 : Int)), (3, ii place)]) (S' := [ii place, ii 5, .ref 102]) dm_X12_picks_45 rfl rfl rfl rfl ?_
          refine x_cv (pc' := 49) (rest := []) dm_X12_picks_46 rfl (q_inv (As := [ii 5, ii place]) (S := []) hm rfl rfl rfl) rfl rfl rfl (r_fail_ (s := s) hm (by omega) he0 hca.1 hca.2) ?_
          rintro _ _ ⟨rfl, rfl⟩
          refine y_ret (r := some (ii (-1))) dm_X12_picks_49 rfl rfl rfl ?_
          rw [show d_at v w = .inl 5 from by unfold d_at; rw [show askP v w = 5 by unfold askP; rw [if_neg (by omega), if_pos (by omega)], if_pos (by decide)]]
          exact ⟨_, rfl, rres_fail (rpre_rf s) he0⟩
    · refine me1 (pc' := 19) (L' := [(0, .ref 102), (1, ii (hd : Int)), (2, ii (hd2 : Int)), (3, ii place)]) (S' := [.ref 102]) dm_X12_picks_18 rfl rfl rfl rfl ?_
      refine me0 (pc' := 20) (S' := [ii 3, .ref 102]) dm_X12_picks_19 rfl rfl rfl rfl ?_
      refine me1 (pc' := 21) (L' := [(0, .ref 102), (1, ii (hd : Int)), (2, ii (hd2 : Int)), (3, ii place)]) (S' := [ii place, ii 3, .ref 102]) dm_X12_picks_20 rfl rfl rfl rfl ?_
      refine x_cv (pc' := 24) (rest := []) dm_X12_picks_21 rfl (q_inv (As := [ii 3, ii place]) (S := []) hm rfl rfl rfl) rfl rfl rfl (r_fail_ (s := s) hm (by omega) he0 hca.1 hca.2) ?_
      rintro _ _ ⟨rfl, rfl⟩
      refine y_ret (r := some (ii (-1))) dm_X12_picks_24 rfl rfl rfl ?_
      rw [show d_at v w = .inl 3 from by unfold d_at; rw [show askP v w = 3 by unfold askP; rw [if_pos (by omega)], if_pos (by decide)]]
      exact ⟨_, rfl, rres_fail (rpre_rf s) he0⟩
