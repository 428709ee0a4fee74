/-- an error behind something that has been made -/
theorem rres_failT {pre post : mj_H} {s t : RS} {e cb vb n : Nat} {place : Int} (hx : rext s t) (hf : rfr s t) (h3 : t.1 3 ≤ s.1 3 + (cb : Int)) (h4 : t.1 4 ≤ s.1 4 + (vb : Int)) : rres pre post s e (.inl n) place cb vb (ii (-1)) (rS pre post (failS t (n : Int) place)) := by
  refine ⟨_, rfl, ⟨hx.1, hx.2.1, hx.2.2.1, hx.2.2.2⟩, rfr_tr hf ⟨fun k _ _ c5 c6 _ => ?_, rfl, fun _ _ _ _ _ _ => rfl, fun _ _ => rfl, fun _ _ => rfl⟩, h3, h4, rfl, rfl, ?_⟩
  · show va_up (va_up t.1 5 _) 6 _ k = _
    rw [up_ne _ _ c6, up_ne _ _ c5]
  · show (if 0 < t.1 10 then t.1 11 else place) = _
    rw [hf.1 10 (by decide) (by decide) (by decide) (by decide) (by decide), hf.1 11 (by decide) (by decide) (by decide) (by decide) (by decide)]
set_option maxRecDepth 20000 in
theorem pm_X12_laid : mj_mmof pg_ms 267 = some ((⟨"ArrayCalculatorModel", "laid", "(III)I"⟩, prog_14_method_57_code, 11, (Option.some Jvm.ClassFile.FieldType.int)), 12, false, mj_dec prog_14_method_57_code) := rfl
theorem dm_X12_laid_0 : mj_dec prog_14_method_57_code 0 = some (.aload_n 0, 1) := by decide +kernel
theorem dm_X12_laid_1 : mj_dec prog_14_method_57_code 1 = some (.iload_n 1, 1) := by decide +kernel
theorem dm_X12_laid_2 : mj_dec prog_14_method_57_code 2 = some (.invokevirtual 174, 3) := by decide +kernel
theorem dm_X12_laid_5 : mj_dec prog_14_method_57_code 5 = some (.ifCond .eq 22, 3) := by decide +kernel
theorem dm_X12_laid_8 : mj_dec prog_14_method_57_code 8 = some (.aload_n 0, 1) := by decide +kernel
theorem dm_X12_laid_9 : mj_dec prog_14_method_57_code 9 = some (.iload_n 1, 1) := by decide +kernel
theorem dm_X12_laid_10 : mj_dec prog_14_method_57_code 10 = some (.invokevirtual 134, 3) := by decide +kernel
theorem dm_X12_laid_13 : mj_dec prog_14_method_57_code 13 = some (.iconst 2, 1) := by decide +kernel
theorem dm_X12_laid_14 : mj_dec prog_14_method_57_code 14 = some (.if_icmp .ne 13, 3) := by decide +kernel
theorem dm_X12_laid_17 : mj_dec prog_14_method_57_code 17 = some (.aload_n 0, 1) := by decide +kernel
theorem dm_X12_laid_18 : mj_dec prog_14_method_57_code 18 = some (.iload_n 2, 1) := by decide +kernel
theorem dm_X12_laid_19 : mj_dec prog_14_method_57_code 19 = some (.invokevirtual 146, 3) := by decide +kernel
theorem dm_X12_laid_22 : mj_dec prog_14_method_57_code 22 = some (.bipush 7, 2) := by decide +kernel
theorem dm_X12_laid_24 : mj_dec prog_14_method_57_code 24 = some (.if_icmp .ne 10, 3) := by decide +kernel
theorem dm_X12_laid_27 : mj_dec prog_14_method_57_code 27 = some (.aload_n 0, 1) := by decide +kernel
theorem dm_X12_laid_28 : mj_dec prog_14_method_57_code 28 = some (.iconst 3, 1) := by decide +kernel
theorem dm_X12_laid_29 : mj_dec prog_14_method_57_code 29 = some (.iload_n 3, 1) := by decide +kernel
theorem dm_X12_laid_30 : mj_dec prog_14_method_57_code 30 = some (.invokevirtual 190, 3) := by decide +kernel
theorem dm_X12_laid_33 : mj_dec prog_14_method_57_code 33 = some (.ireturn, 1) := by decide +kernel
theorem dm_X12_laid_34 : mj_dec prog_14_method_57_code 34 = some (.aload_n 0, 1) := by decide +kernel
theorem dm_X12_laid_35 : mj_dec prog_14_method_57_code 35 = some (.iload_n 1, 1) := by decide +kernel
theorem dm_X12_laid_36 : mj_dec prog_14_method_57_code 36 = some (.iconst 0, 1) := by decide +kernel
theorem dm_X12_laid_37 : mj_dec prog_14_method_57_code 37 = some (.invokevirtual 138, 3) := by decide +kernel
theorem dm_X12_laid_40 : mj_dec prog_14_method_57_code 40 = some (.lstore 4, 2) := by decide +kernel
theorem dm_X12_laid_42 : mj_dec prog_14_method_57_code 42 = some (.aload_n 0, 1) := by decide +kernel
theorem dm_X12_laid_43 : mj_dec prog_14_method_57_code 43 = some (.iload_n 1, 1) := by decide +kernel
theorem dm_X12_laid_44 : mj_dec prog_14_method_57_code 44 = some (.iconst 1, 1) := by decide +kernel
theorem dm_X12_laid_45 : mj_dec prog_14_method_57_code 45 = some (.invokevirtual 138, 3) := by decide +kernel
theorem dm_X12_laid_48 : mj_dec prog_14_method_57_code 48 = some (.lstore 6, 2) := by decide +kernel
theorem dm_X12_laid_50 : mj_dec prog_14_method_57_code 50 = some (.lload 4, 2) := by decide +kernel
theorem dm_X12_laid_52 : mj_dec prog_14_method_57_code 52 = some (.lconst 1, 1) := by decide +kernel
theorem dm_X12_laid_53 : mj_dec prog_14_method_57_code 53 = some (.lcmp, 1) := by decide +kernel
theorem dm_X12_laid_54 : mj_dec prog_14_method_57_code 54 = some (.ifCond .lt 46, 3) := by decide +kernel
theorem dm_X12_laid_57 : mj_dec prog_14_method_57_code 57 = some (.lload 4, 2) := by decide +kernel
theorem dm_X12_laid_59 : mj_dec prog_14_method_57_code 59 = some (.ldc2_w 352, 3) := by decide +kernel
theorem dm_X12_laid_62 : mj_dec prog_14_method_57_code 62 = some (.lcmp, 1) := by decide +kernel
theorem dm_X12_laid_63 : mj_dec prog_14_method_57_code 63 = some (.ifCond .gt 37, 3) := by decide +kernel
theorem dm_X12_laid_66 : mj_dec prog_14_method_57_code 66 = some (.lload 6, 2) := by decide +kernel
theorem dm_X12_laid_68 : mj_dec prog_14_method_57_code 68 = some (.lconst 1, 1) := by decide +kernel
theorem dm_X12_laid_69 : mj_dec prog_14_method_57_code 69 = some (.lcmp, 1) := by decide +kernel
theorem dm_X12_laid_70 : mj_dec prog_14_method_57_code 70 = some (.ifCond .lt 30, 3) := by decide +kernel
theorem dm_X12_laid_73 : mj_dec prog_14_method_57_code 73 = some (.lload 6, 2) := by decide +kernel
theorem dm_X12_laid_75 : mj_dec prog_14_method_57_code 75 = some (.ldc2_w 352, 3) := by decide +kernel
theorem dm_X12_laid_78 : mj_dec prog_14_method_57_code 78 = some (.lcmp, 1) := by decide +kernel
theorem dm_X12_laid_79 : mj_dec prog_14_method_57_code 79 = some (.ifCond .gt 21, 3) := by decide +kernel
theorem dm_X12_laid_82 : mj_dec prog_14_method_57_code 82 = some (.aload_n 0, 1) := by decide +kernel
theorem dm_X12_laid_83 : mj_dec prog_14_method_57_code 83 = some (.iload_n 2, 1) := by decide +kernel
theorem dm_X12_laid_84 : mj_dec prog_14_method_57_code 84 = some (.invokevirtual 146, 3) := by decide +kernel
theorem dm_X12_laid_87 : mj_dec prog_14_method_57_code 87 = some (.iconst 1, 1) := by decide +kernel
theorem dm_X12_laid_88 : mj_dec prog_14_method_57_code 88 = some (.if_icmp .eq 12, 3) := by decide +kernel
theorem dm_X12_laid_91 : mj_dec prog_14_method_57_code 91 = some (.aload_n 0, 1) := by decide +kernel
theorem dm_X12_laid_92 : mj_dec prog_14_method_57_code 92 = some (.iload_n 2, 1) := by decide +kernel
theorem dm_X12_laid_93 : mj_dec prog_14_method_57_code 93 = some (.invokevirtual 146, 3) := by decide +kernel
theorem dm_X12_laid_96 : mj_dec prog_14_method_57_code 96 = some (.iconst 3, 1) := by decide +kernel
theorem dm_X12_laid_97 : mj_dec prog_14_method_57_code 97 = some (.if_icmp .ne 10, 3) := by decide +kernel
theorem dm_X12_laid_100 : mj_dec prog_14_method_57_code 100 = some (.aload_n 0, 1) := by decide +kernel
theorem dm_X12_laid_101 : mj_dec prog_14_method_57_code 101 = some (.iconst 5, 1) := by decide +kernel
theorem dm_X12_laid_102 : mj_dec prog_14_method_57_code 102 = some (.iload_n 3, 1) := by decide +kernel
theorem dm_X12_laid_103 : mj_dec prog_14_method_57_code 103 = some (.invokevirtual 190, 3) := by decide +kernel
theorem dm_X12_laid_106 : mj_dec prog_14_method_57_code 106 = some (.ireturn, 1) := by decide +kernel
theorem dm_X12_laid_107 : mj_dec prog_14_method_57_code 107 = some (.aload_n 0, 1) := by decide +kernel
theorem dm_X12_laid_108 : mj_dec prog_14_method_57_code 108 = some (.iload_n 2, 1) := by decide +kernel
theorem dm_X12_laid_109 : mj_dec prog_14_method_57_code 109 = some (.invokevirtual 146, 3) := by decide +kernel
theorem dm_X12_laid_112 : mj_dec prog_14_method_57_code 112 = some (.bipush 6, 2) := by decide +kernel
theorem dm_X12_laid_114 : mj_dec prog_14_method_57_code 114 = some (.if_icmp .ne 17, 3) := by decide +kernel
theorem dm_X12_laid_117 : mj_dec prog_14_method_57_code 117 = some (.aload_n 0, 1) := by decide +kernel
theorem dm_X12_laid_118 : mj_dec prog_14_method_57_code 118 = some (.iload_n 2, 1) := by decide +kernel
theorem dm_X12_laid_119 : mj_dec prog_14_method_57_code 119 = some (.invokevirtual 134, 3) := by decide +kernel
theorem dm_X12_laid_122 : mj_dec prog_14_method_57_code 122 = some (.aload_n 0, 1) := by decide +kernel
theorem dm_X12_laid_123 : mj_dec prog_14_method_57_code 123 = some (.iload_n 2, 1) := by decide +kernel
theorem dm_X12_laid_124 : mj_dec prog_14_method_57_code 124 = some (.invokevirtual 156, 3) := by decide +kernel
theorem dm_X12_laid_127 : mj_dec prog_14_method_57_code 127 = some (.imul, 1) := by decide +kernel
theorem dm_X12_laid_128 : mj_dec prog_14_method_57_code 128 = some (.goto 8, 3) := by decide +kernel
theorem dm_X12_laid_131 : mj_dec prog_14_method_57_code 131 = some (.aload_n 0, 1) := by decide +kernel
theorem dm_X12_laid_132 : mj_dec prog_14_method_57_code 132 = some (.iload_n 2, 1) := by decide +kernel
theorem dm_X12_laid_133 : mj_dec prog_14_method_57_code 133 = some (.invokevirtual 134, 3) := by decide +kernel
theorem dm_X12_laid_136 : mj_dec prog_14_method_57_code 136 = some (.istore 8, 2) := by decide +kernel
theorem dm_X12_laid_138 : mj_dec prog_14_method_57_code 138 = some (.iload 8, 2) := by decide +kernel
theorem dm_X12_laid_140 : mj_dec prog_14_method_57_code 140 = some (.ifCond .ne 10, 3) := by decide +kernel
theorem dm_X12_laid_143 : mj_dec prog_14_method_57_code 143 = some (.aload_n 0, 1) := by decide +kernel
theorem dm_X12_laid_144 : mj_dec prog_14_method_57_code 144 = some (.iconst 4, 1) := by decide +kernel
theorem dm_X12_laid_145 : mj_dec prog_14_method_57_code 145 = some (.iload_n 3, 1) := by decide +kernel
theorem dm_X12_laid_146 : mj_dec prog_14_method_57_code 146 = some (.invokevirtual 190, 3) := by decide +kernel
theorem dm_X12_laid_149 : mj_dec prog_14_method_57_code 149 = some (.ireturn, 1) := by decide +kernel
theorem dm_X12_laid_150 : mj_dec prog_14_method_57_code 150 = some (.aload_n 0, 1) := by decide +kernel
theorem dm_X12_laid_151 : mj_dec prog_14_method_57_code 151 = some (.lload 4, 2) := by decide +kernel
theorem dm_X12_laid_153 : mj_dec prog_14_method_57_code 153 = some (.l2i, 1) := by decide +kernel
theorem dm_X12_laid_154 : mj_dec prog_14_method_57_code 154 = some (.lload 6, 2) := by decide +kernel
theorem dm_X12_laid_156 : mj_dec prog_14_method_57_code 156 = some (.l2i, 1) := by decide +kernel
theorem dm_X12_laid_157 : mj_dec prog_14_method_57_code 157 = some (.invokevirtual 255, 3) := by decide +kernel
theorem dm_X12_laid_160 : mj_dec prog_14_method_57_code 160 = some (.istore 9, 2) := by decide +kernel
theorem dm_X12_laid_162 : mj_dec prog_14_method_57_code 162 = some (.iconst 0, 1) := by decide +kernel
theorem dm_X12_laid_163 : mj_dec prog_14_method_57_code 163 = some (.istore 10, 2) := by decide +kernel
theorem dm_X12_laid_165 : mj_dec prog_14_method_57_code 165 = some (.iload 10, 2) := by decide +kernel
theorem dm_X12_laid_167 : mj_dec prog_14_method_57_code 167 = some (.lload 4, 2) := by decide +kernel
theorem dm_X12_laid_169 : mj_dec prog_14_method_57_code 169 = some (.lload 6, 2) := by decide +kernel
theorem dm_X12_laid_171 : mj_dec prog_14_method_57_code 171 = some (.lmul, 1) := by decide +kernel
theorem dm_X12_laid_172 : mj_dec prog_14_method_57_code 172 = some (.l2i, 1) := by decide +kernel
theorem dm_X12_laid_173 : mj_dec prog_14_method_57_code 173 = some (.if_icmp .ge 58, 3) := by decide +kernel
theorem dm_X12_laid_176 : mj_dec prog_14_method_57_code 176 = some (.aload_n 0, 1) := by decide +kernel
theorem dm_X12_laid_177 : mj_dec prog_14_method_57_code 177 = some (.getfield 8, 3) := by decide +kernel
theorem dm_X12_laid_180 : mj_dec prog_14_method_57_code 180 = some (.aload_n 0, 1) := by decide +kernel
theorem dm_X12_laid_181 : mj_dec prog_14_method_57_code 181 = some (.getfield 15, 3) := by decide +kernel
theorem dm_X12_laid_184 : mj_dec prog_14_method_57_code 184 = some (.iload 9, 2) := by decide +kernel
theorem dm_X12_laid_186 : mj_dec prog_14_method_57_code 186 = some (.iaload, 1) := by decide +kernel
theorem dm_X12_laid_187 : mj_dec prog_14_method_57_code 187 = some (.iload 10, 2) := by decide +kernel
theorem dm_X12_laid_189 : mj_dec prog_14_method_57_code 189 = some (.iadd, 1) := by decide +kernel
theorem dm_X12_laid_190 : mj_dec prog_14_method_57_code 190 = some (.aload_n 0, 1) := by decide +kernel
theorem dm_X12_laid_191 : mj_dec prog_14_method_57_code 191 = some (.iload_n 2, 1) := by decide +kernel
theorem dm_X12_laid_192 : mj_dec prog_14_method_57_code 192 = some (.iload 10, 2) := by decide +kernel
theorem dm_X12_laid_194 : mj_dec prog_14_method_57_code 194 = some (.iload 8, 2) := by decide +kernel
theorem dm_X12_laid_196 : mj_dec prog_14_method_57_code 196 = some (.irem, 1) := by decide +kernel
theorem dm_X12_laid_197 : mj_dec prog_14_method_57_code 197 = some (.invokevirtual 138, 3) := by decide +kernel
theorem dm_X12_laid_200 : mj_dec prog_14_method_57_code 200 = some (.lastore, 1) := by decide +kernel
theorem dm_X12_laid_201 : mj_dec prog_14_method_57_code 201 = some (.aload_n 0, 1) := by decide +kernel
theorem dm_X12_laid_202 : mj_dec prog_14_method_57_code 202 = some (.iload_n 2, 1) := by decide +kernel
theorem dm_X12_laid_203 : mj_dec prog_14_method_57_code 203 = some (.iload 10, 2) := by decide +kernel
theorem dm_X12_laid_205 : mj_dec prog_14_method_57_code 205 = some (.iload 8, 2) := by decide +kernel
theorem dm_X12_laid_207 : mj_dec prog_14_method_57_code 207 = some (.irem, 1) := by decide +kernel
theorem dm_X12_laid_208 : mj_dec prog_14_method_57_code 208 = some (.invokevirtual 138, 3) := by decide +kernel
theorem dm_X12_laid_211 : mj_dec prog_14_method_57_code 211 = some (.invokestatic 142, 3) := by decide +kernel
theorem dm_X12_laid_214 : mj_dec prog_14_method_57_code 214 = some (.ifCond .ne 11, 3) := by decide +kernel
theorem dm_X12_laid_217 : mj_dec prog_14_method_57_code 217 = some (.aload_n 0, 1) := by decide +kernel
theorem dm_X12_laid_218 : mj_dec prog_14_method_57_code 218 = some (.bipush 6, 2) := by decide +kernel
theorem dm_X12_laid_220 : mj_dec prog_14_method_57_code 220 = some (.iload_n 3, 1) := by decide +kernel
theorem dm_X12_laid_221 : mj_dec prog_14_method_57_code 221 = some (.invokevirtual 190, 3) := by decide +kernel
theorem dm_X12_laid_224 : mj_dec prog_14_method_57_code 224 = some (.ireturn, 1) := by decide +kernel
theorem dm_X12_laid_225 : mj_dec prog_14_method_57_code 225 = some (.iinc 10 1, 3) := by decide +kernel
theorem dm_X12_laid_228 : mj_dec prog_14_method_57_code 228 = some (.goto (-63), 3) := by decide +kernel
theorem dm_X12_laid_231 : mj_dec prog_14_method_57_code 231 = some (.iload 9, 2) := by decide +kernel
theorem dm_X12_laid_233 : mj_dec prog_14_method_57_code 233 = some (.ireturn, 1) := by decide +kernel
theorem r_laid_ {xt : mj_X} {d e hd hd2 q b : Nat} {pre post : mj_H} {s : RS} {v w : VV} {place : Int} (hm : pre.length = 102) (hd1 : 5 ≤ d) (hB : rB s) (hv : rv s (e + 1) hd v) (hh3 : 3 ≤ hd) (hw : rv s (e + 1) hd2 w) (hh4 : 3 ≤ hd2) (hq : s.1 4 = (q : Int)) (hb : s.1 3 = (b : Int)) (hq3 : 3 ≤ q) (hV2 : q < 310000) (he0 : s.1 5 = 0) (hca : 0 ≤ s.1 10 ∧ s.1 10 ≤ 100) (hC : b + 300 ≤ 820000) (h2v : 2 ≤ vk v) : pgV xt d 267 [.ref 102, ii (hd : Int), ii (hd2 : Int), ii place] (rS pre post s) (rres pre post s (e + 1) (d_take v w) place 144 1) := by
  have hB0 := hB
  obtain ⟨hB1, hB2, hB3, hB4⟩ := hB
  obtain ⟨fr, hfr, hsh, hlt, hcl, hvk, hvm, hvc, hvq, hvcl⟩ := rv_val hv
  obtain ⟨fw, hfw, hshw, hltw, hclw, hwk, hwm, hwc, hwq, hwcl⟩ := rv_val hw
  have h1 : (Int64.ofInt 1).toInt = 1 := by decide
  have h12 : (Int64.ofInt 12).toInt = 12 := by decide
  have hqv : vk v ≤ 5 → vq v = vm v := vq_m
  have hqw : vk w ≠ 6 → vk w ≠ 7 → vq w = vm w := fun a1 a2 => by unfold vq; rw [if_neg a1, if_neg a2]
  have hq6 : vk w = 6 → vq w = vm w * vc w := fun z => by unfold vq; rw [if_pos z]
  have hmb := mulb 120 12 (a := vm w) (b := vc w) hwm hwc
  refine x_enter pm_X12_laid (L0 := [(0, .ref 102), (1, ii (hd : Int)), (2, ii (hd2 : Int)), (3, ii place)]) rfl (Nat.le_of_ble_eq_true rfl) (by omega) ?_
  refine me1 (pc' := 1) (L' := [(0, .ref 102), (1, ii (hd : Int)), (2, ii (hd2 : Int)), (3, ii place)]) (S' := [.ref 102]) dm_X12_laid_0 rfl rfl rfl rfl ?_
  refine me1 (pc' := 2) (L' := [(0, .ref 102), (1, ii (hd : Int)), (2, ii (hd2 : Int)), (3, ii place)]) (S' := [ii (hd : Int), .ref 102]) dm_X12_laid_1 rfl rfl rfl rfl ?_
  refine x_cp (pc' := 5) (v := zz (decide (vk v = 2 ∨ vk v = 4 ∨ vk v = 5))) (rest := []) dm_X12_laid_2 rfl (q_inv (As := [ii (hd : Int)]) (S := []) hm rfl rfl rfl) rfl rfl rfl (r_isNumbers_ hm (by omega) hB0 hv) ?_
  refine y_zeq (c := decide (vk v = 2 ∨ vk v = 4 ∨ vk v = 5)) (t := 27) (pc' := 8) dm_X12_laid_5 rfl rfl (fun hb1 => ?_) (fun hb1 => ?_)
  · replace hb1 := dF hb1
    refine me1 (pc' := 28) (L' := [(0, .ref 102), (1, ii (hd : Int)), (2, ii (hd2 : Int)), (3, ii place)]) (S' := [.ref 102]) dm_X12_laid_27 rfl rfl rfl rfl ?_
    refine me0 (pc' := 29) (S' := [ii 3, .ref 102]) dm_X12_laid_28 rfl rfl rfl rfl ?_
    refine me1 (pc' := 30) (L' := [(0, .ref 102), (1, ii (hd : Int)), (2, ii (hd2 : Int)), (3, ii place)]) (S' := [ii place, ii 3, .ref 102]) dm_X12_laid_29 rfl rfl rfl rfl ?_
    refine x_cv (pc' := 33) (rest := []) dm_X12_laid_30 rfl (q_inv (As := [ii 3, ii place]) (S := []) hm rfl rfl rfl) rfl rfl rfl (r_fail_ (s := s) hm (by omega) he0 hca.1 hca.2) ?_
    rintro _ _ ⟨rfl, rfl⟩
    refine y_ret (r := some (ii (-1))) dm_X12_laid_33 rfl rfl rfl ?_
    rw [show d_take v w = .inl 3 from by first | (unfold d_take; rw [if_neg (by omega), if_pos (by omega)]; done) | (unfold d_take; rw [if_pos (by omega)]; unfold d_lay; rw [if_pos (by omega)])]
    exact ⟨_, rfl, rres_fail (rpre_rf s) he0⟩
  · replace hb1 := dT hb1
    refine me1 (pc' := 9) (L' := [(0, .ref 102), (1, ii (hd : Int)), (2, ii (hd2 : Int)), (3, ii place)]) (S' := [.ref 102]) dm_X12_laid_8 rfl rfl rfl rfl ?_
    refine me1 (pc' := 10) (L' := [(0, .ref 102), (1, ii (hd : Int)), (2, ii (hd2 : Int)), (3, ii place)]) (S' := [ii (hd : Int), .ref 102]) dm_X12_laid_9 rfl rfl rfl rfl ?_
    refine x_cp (pc' := 13) (v := ii (vm v : Int)) (rest := []) dm_X12_laid_10 rfl (q_inv (As := [ii (hd : Int)]) (S := []) hm rfl rfl rfl) rfl rfl rfl (r_many_ hm (by omega) hB0 hv) ?_
    refine me0 (pc' := 14) (S' := [ii 2, ii (vm v : Int)]) dm_X12_laid_13 rfl rfl rfl rfl ?_
    refine y_2ne (a := (vm v : Int)) (b := 2) (t := 27) (pc' := 17) dm_X12_laid_14 rfl rfl (by omega) (fun hb2 => ?_) (fun hb2 => ?_)
    · refine me1 (pc' := 28) (L' := [(0, .ref 102), (1, ii (hd : Int)), (2, ii (hd2 : Int)), (3, ii place)]) (S' := [.ref 102]) dm_X12_laid_27 rfl rfl rfl rfl ?_
      refine me0 (pc' := 29) (S' := [ii 3, .ref 102]) dm_X12_laid_28 rfl rfl rfl rfl ?_
      refine me1 (pc' := 30) (L' := [(0, .ref 102), (1, ii (hd : Int)), (2, ii (hd2 : Int)), (3, ii place)]) (S' := [ii place, ii 3, .ref 102]) dm_X12_laid_29 rfl rfl rfl rfl ?_
      refine x_cv (pc' := 33) (rest := []) dm_X12_laid_30 rfl (q_inv (As := [ii 3, ii place]) (S := []) hm rfl rfl rfl) rfl rfl rfl (r_fail_ (s := s) hm (by omega) he0 hca.1 hca.2) ?_
      rintro _ _ ⟨rfl, rfl⟩
      refine y_ret (r := some (ii (-1))) dm_X12_laid_33 rfl rfl rfl ?_
      rw [show d_take v w = .inl 3 from by first | (unfold d_take; rw [if_neg (by omega), if_pos (by omega)]; done) | (unfold d_take; rw [if_pos (by omega)]; unfold d_lay; rw [if_pos (by omega)])]
      exact ⟨_, rfl, rres_fail (rpre_rf s) he0⟩
    · refine me1 (pc' := 18) (L' := [(0, .ref 102), (1, ii (hd : Int)), (2, ii (hd2 : Int)), (3, ii place)]) (S' := [.ref 102]) dm_X12_laid_17 rfl rfl rfl rfl ?_
      refine me1 (pc' := 19) (L' := [(0, .ref 102), (1, ii (hd : Int)), (2, ii (hd2 : Int)), (3, ii place)]) (S' := [ii (hd2 : Int), .ref 102]) dm_X12_laid_18 rfl rfl rfl rfl ?_
      refine x_cp (pc' := 22) (v := ii (vk w : Int)) (rest := []) dm_X12_laid_19 rfl (q_inv (As := [ii (hd2 : Int)]) (S := []) hm rfl rfl rfl) rfl rfl rfl (r_kindOf_ hm (by omega) hB0 hw) ?_
      refine me0 (pc' := 24) (S' := [ii 7, ii (vk w : Int)]) dm_X12_laid_22 rfl rfl rfl rfl ?_
      refine y_2ne (a := (vk w : Int)) (b := 7) (t := 34) (pc' := 27) dm_X12_laid_24 rfl rfl (by omega) (fun hb3 => ?_) (fun hb3 => ?_)
      · refine me1 (pc' := 35) (L' := [(0, .ref 102), (1, ii (hd : Int)), (2, ii (hd2 : Int)), (3, ii place)]) (S' := [.ref 102]) dm_X12_laid_34 rfl rfl rfl rfl ?_
        refine me1 (pc' := 36) (L' := [(0, .ref 102), (1, ii (hd : Int)), (2, ii (hd2 : Int)), (3, ii place)]) (S' := [ii (hd : Int), .ref 102]) dm_X12_laid_35 rfl rfl rfl rfl ?_
        refine me0 (pc' := 37) (S' := [ii 0, ii (hd : Int), .ref 102]) dm_X12_laid_36 rfl rfl rfl rfl ?_
        refine x_cp (pc' := 40) (v := .long (vn v 0)) (rest := []) dm_X12_laid_37 rfl (q_inv (As := [ii (hd : Int), ii 0]) (S := []) hm rfl rfl rfl) rfl rfl rfl (r_number_ (k := 0) hm (by omega) hB0 hv (by omega) (by omega)) ?_
        refine me1 (pc' := 42) (L' := [(4, .long (vn v 0)), (0, .ref 102), (1, ii (hd : Int)), (2, ii (hd2 : Int)), (3, ii place)]) (S' := []) dm_X12_laid_40 rfl rfl rfl rfl ?_
        refine me1 (pc' := 43) (L' := [(4, .long (vn v 0)), (0, .ref 102), (1, ii (hd : Int)), (2, ii (hd2 : Int)), (3, ii place)]) (S' := [.ref 102]) dm_X12_laid_42 rfl rfl rfl rfl ?_
        refine me1 (pc' := 44) (L' := [(4, .long (vn v 0)), (0, .ref 102), (1, ii (hd : Int)), (2, ii (hd2 : Int)), (3, ii place)]) (S' := [ii (hd : Int), .ref 102]) dm_X12_laid_43 rfl rfl rfl rfl ?_
        refine me0 (pc' := 45) (S' := [ii 1, ii (hd : Int), .ref 102]) dm_X12_laid_44 rfl rfl rfl rfl ?_
        refine x_cp (pc' := 48) (v := .long (vn v 1)) (rest := []) dm_X12_laid_45 rfl (q_inv (As := [ii (hd : Int), ii 1]) (S := []) hm rfl rfl rfl) rfl rfl rfl (r_number_ (k := 1) hm (by omega) hB0 hv (by omega) (by omega)) ?_
        refine me1 (pc' := 50) (L' := [(6, .long (vn v 1)), (4, .long (vn v 0)), (0, .ref 102), (1, ii (hd : Int)), (2, ii (hd2 : Int)), (3, ii place)]) (S' := []) dm_X12_laid_48 rfl rfl rfl rfl ?_
        refine me1 (pc' := 52) (L' := [(6, .long (vn v 1)), (4, .long (vn v 0)), (0, .ref 102), (1, ii (hd : Int)), (2, ii (hd2 : Int)), (3, ii place)]) (S' := [.long (vn v 0)]) dm_X12_laid_50 rfl rfl rfl rfl ?_
        refine me0 (pc' := 53) (S' := [.long (Int64.ofInt 1), .long (vn v 0)]) dm_X12_laid_52 rfl rfl rfl rfl ?_
        refine y_llt (x := vn v 0) (y := Int64.ofInt 1) (t := 100) (pc1 := 54) (pc' := 57) dm_X12_laid_53 rfl dm_X12_laid_54 rfl rfl (fun hb4 => ?_) (fun hb4 => ?_)
        · rw [h1] at hb4
          refine me1 (pc' := 101) (L' := [(6, .long (vn v 1)), (4, .long (vn v 0)), (0, .ref 102), (1, ii (hd : Int)), (2, ii (hd2 : Int)), (3, ii place)]) (S' := [.ref 102]) dm_X12_laid_100 rfl rfl rfl rfl ?_
          refine me0 (pc' := 102) (S' := [ii 5, .ref 102]) dm_X12_laid_101 rfl rfl rfl rfl ?_
          refine me1 (pc' := 103) (L' := [(6, .long (vn v 1)), (4, .long (vn v 0)), (0, .ref 102), (1, ii (hd : Int)), (2, ii (hd2 : Int)), (3, ii place)]) (S' := [ii place, ii 5, .ref 102]) dm_X12_laid_102 rfl rfl rfl rfl ?_
          refine x_cv (pc' := 106) (rest := []) dm_X12_laid_103 rfl (q_inv (As := [ii 5, ii place]) (S := []) hm rfl rfl rfl) rfl rfl rfl (r_fail_ (s := s) hm (by omega) he0 hca.1 hca.2) ?_
          rintro _ _ ⟨rfl, rfl⟩
          refine y_ret (r := some (ii (-1))) dm_X12_laid_106 rfl rfl rfl ?_
          rw [show d_take v w = .inl 5 from by unfold d_take; rw [if_pos (by omega)]; unfold d_lay; rw [if_neg (by omega), if_pos (by omega)]]
          exact ⟨_, rfl, rres_fail (rpre_rf s) he0⟩
        · rw [h1] at hb4
          refine me1 (pc' := 59) (L' := [(6, .long (vn v 1)), (4, .long (vn v 0)), (0, .ref 102), (1, ii (hd : Int)), (2, ii (hd2 : Int)), (3, ii place)]) (S' := [.long (vn v 0)]) dm_X12_laid_57 rfl rfl rfl rfl ?_
          refine me3 (pc' := 62) (S' := [.long (Int64.ofInt 12), .long (vn v 0)]) dm_X12_laid_59 rfl rfl rfl rfl ?_
          refine y_lgt (x := vn v 0) (y := Int64.ofInt 12) (t := 100) (pc1 := 63) (pc' := 66) dm_X12_laid_62 rfl dm_X12_laid_63 rfl rfl (fun hb5 => ?_) (fun hb5 => ?_)
          · rw [h12] at hb5
            refine me1 (pc' := 101) (L' := [(6, .long (vn v 1)), (4, .long (vn v 0)), (0, .ref 102), (1, ii (hd : Int)), (2, ii (hd2 : Int)), (3, ii place)]) (S' := [.ref 102]) dm_X12_laid_100 rfl rfl rfl rfl ?_
            refine me0 (pc' := 102) (S' := [ii 5, .ref 102]) dm_X12_laid_101 rfl rfl rfl rfl ?_
            refine me1 (pc' := 103) (L' := [(6, .long (vn v 1)), (4, .long (vn v 0)), (0, .ref 102), (1, ii (hd : Int)), (2, ii (hd2 : Int)), (3, ii place)]) (S' := [ii place, ii 5, .ref 102]) dm_X12_laid_102 rfl rfl rfl rfl ?_
            refine x_cv (pc' := 106) (rest := []) dm_X12_laid_103 rfl (q_inv (As := [ii 5, ii place]) (S := []) hm rfl rfl rfl) rfl rfl rfl (r_fail_ (s := s) hm (by omega) he0 hca.1 hca.2) ?_
            rintro _ _ ⟨rfl, rfl⟩
            refine y_ret (r := some (ii (-1))) dm_X12_laid_106 rfl rfl rfl ?_
            rw [show d_take v w = .inl 5 from by unfold d_take; rw [if_pos (by omega)]; unfold d_lay; rw [if_neg (by omega), if_pos (by omega)]]
            exact ⟨_, rfl, rres_fail (rpre_rf s) he0⟩
          · rw [h12] at hb5
            refine me1 (pc' := 68) (L' := [(6, .long (vn v 1)), (4, .long (vn v 0)), (0, .ref 102), (1, ii (hd : Int)), (2, ii (hd2 : Int)), (3, ii place)]) (S' := [.long (vn v 1)]) dm_X12_laid_66 rfl rfl rfl rfl ?_
            refine me0 (pc' := 69) (S' := [.long (Int64.ofInt 1), .long (vn v 1)]) dm_X12_laid_68 rfl rfl rfl rfl ?_
            refine y_llt (x := vn v 1) (y := Int64.ofInt 1) (t := 100) (pc1 := 70) (pc' := 73) dm_X12_laid_69 rfl dm_X12_laid_70 rfl rfl (fun hb6 => ?_) (fun hb6 => ?_)
            · rw [h1] at hb6
              refine me1 (pc' := 101) (L' := [(6, .long (vn v 1)), (4, .long (vn v 0)), (0, .ref 102), (1, ii (hd : Int)), (2, ii (hd2 : Int)), (3, ii place)]) (S' := [.ref 102]) dm_X12_laid_100 rfl rfl rfl rfl ?_
              refine me0 (pc' := 102) (S' := [ii 5, .ref 102]) dm_X12_laid_101 rfl rfl rfl rfl ?_
              refine me1 (pc' := 103) (L' := [(6, .long (vn v 1)), (4, .long (vn v 0)), (0, .ref 102), (1, ii (hd : Int)), (2, ii (hd2 : Int)), (3, ii place)]) (S' := [ii place, ii 5, .ref 102]) dm_X12_laid_102 rfl rfl rfl rfl ?_
              refine x_cv (pc' := 106) (rest := []) dm_X12_laid_103 rfl (q_inv (As := [ii 5, ii place]) (S := []) hm rfl rfl rfl) rfl rfl rfl (r_fail_ (s := s) hm (by omega) he0 hca.1 hca.2) ?_
              rintro _ _ ⟨rfl, rfl⟩
              refine y_ret (r := some (ii (-1))) dm_X12_laid_106 rfl rfl rfl ?_
              rw [show d_take v w = .inl 5 from by unfold d_take; rw [if_pos (by omega)]; unfold d_lay; rw [if_neg (by omega), if_pos (by omega)]]
              exact ⟨_, rfl, rres_fail (rpre_rf s) he0⟩
            · rw [h1] at hb6
              refine me1 (pc' := 75) (L' := [(6, .long (vn v 1)), (4, .long (vn v 0)), (0, .ref 102), (1, ii (hd : Int)), (2, ii (hd2 : Int)), (3, ii place)]) (S' := [.long (vn v 1)]) dm_X12_laid_73 rfl rfl rfl rfl ?_
              refine me3 (pc' := 78) (S' := [.long (Int64.ofInt 12), .long (vn v 1)]) dm_X12_laid_75 rfl rfl rfl rfl ?_
              refine y_lgt (x := vn v 1) (y := Int64.ofInt 12) (t := 100) (pc1 := 79) (pc' := 82) dm_X12_laid_78 rfl dm_X12_laid_79 rfl rfl (fun hb7 => ?_) (fun hb7 => ?_)
              · rw [h12] at hb7
                refine me1 (pc' := 101) (L' := [(6, .long (vn v 1)), (4, .long (vn v 0)), (0, .ref 102), (1, ii (hd : Int)), (2, ii (hd2 : Int)), (3, ii place)]) (S' := [.ref 102]) dm_X12_laid_100 rfl rfl rfl rfl ?_
                refine me0 (pc' := 102) (S' := [ii 5, .ref 102]) dm_X12_laid_101 rfl rfl rfl rfl ?_
                refine me1 (pc' := 103) (L' := [(6, .long (vn v 1)), (4, .long (vn v 0)), (0, .ref 102), (1, ii (hd : Int)), (2, ii (hd2 : Int)), (3, ii place)]) (S' := [ii place, ii 5, .ref 102]) dm_X12_laid_102 rfl rfl rfl rfl ?_
                refine x_cv (pc' := 106) (rest := []) dm_X12_laid_103 rfl (q_inv (As := [ii 5, ii place]) (S := []) hm rfl rfl rfl) rfl rfl rfl (r_fail_ (s := s) hm (by omega) he0 hca.1 hca.2) ?_
                rintro _ _ ⟨rfl, rfl⟩
                refine y_ret (r := some (ii (-1))) dm_X12_laid_106 rfl rfl rfl ?_
                rw [show d_take v w = .inl 5 from by unfold d_take; rw [if_pos (by omega)]; unfold d_lay; rw [if_neg (by omega), if_pos (by omega)]]
                exact ⟨_, rfl, rres_fail (rpre_rf s) he0⟩
              · rw [h12] at hb7
                refine me1 (pc' := 83) (L' := [(6, .long (vn v 1)), (4, .long (vn v 0)), (0, .ref 102), (1, ii (hd : Int)), (2, ii (hd2 : Int)), (3, ii place)]) (S' := [.ref 102]) dm_X12_laid_82 rfl rfl rfl rfl ?_
                refine me1 (pc' := 84) (L' := [(6, .long (vn v 1)), (4, .long (vn v 0)), (0, .ref 102), (1, ii (hd : Int)), (2, ii (hd2 : Int)), (3, ii place)]) (S' := [ii (hd2 : Int), .ref 102]) dm_X12_laid_83 rfl rfl rfl rfl ?_
                refine x_cp (pc' := 87) (v := ii (vk w : Int)) (rest := []) dm_X12_laid_84 rfl (q_inv (As := [ii (hd2 : Int)]) (S := []) hm rfl rfl rfl) rfl rfl rfl (r_kindOf_ hm (by omega) hB0 hw) ?_
                refine me0 (pc' := 88) (S' := [ii 1, ii (vk w : Int)]) dm_X12_laid_87 rfl rfl rfl rfl ?_
                refine y_2eq (a := (vk w : Int)) (b := 1) (t := 100) (pc' := 91) dm_X12_laid_88 rfl rfl (by omega) (fun hb8 => ?_) (fun hb8 => ?_)
                · refine me1 (pc' := 101) (L' := [(6, .long (vn v 1)), (4, .long (vn v 0)), (0, .ref 102), (1, ii (hd : Int)), (2, ii (hd2 : Int)), (3, ii place)]) (S' := [.ref 102]) dm_X12_laid_100 rfl rfl rfl rfl ?_
                  refine me0 (pc' := 102) (S' := [ii 5, .ref 102]) dm_X12_laid_101 rfl rfl rfl rfl ?_
                  refine me1 (pc' := 103) (L' := [(6, .long (vn v 1)), (4, .long (vn v 0)), (0, .ref 102), (1, ii (hd : Int)), (2, ii (hd2 : Int)), (3, ii place)]) (S' := [ii place, ii 5, .ref 102]) dm_X12_laid_102 rfl rfl rfl rfl ?_
                  refine x_cv (pc' := 106) (rest := []) dm_X12_laid_103 rfl (q_inv (As := [ii 5, ii place]) (S := []) hm rfl rfl rfl) rfl rfl rfl (r_fail_ (s := s) hm (by omega) he0 hca.1 hca.2) ?_
                  rintro _ _ ⟨rfl, rfl⟩
                  refine y_ret (r := some (ii (-1))) dm_X12_laid_106 rfl rfl rfl ?_
                  rw [show d_take v w = .inl 5 from by unfold d_take; rw [if_pos (by omega)]; unfold d_lay; rw [if_neg (by omega), if_pos (by omega)]]
                  exact ⟨_, rfl, rres_fail (rpre_rf s) he0⟩
                · refine me1 (pc' := 92) (L' := [(6, .long (vn v 1)), (4, .long (vn v 0)), (0, .ref 102), (1, ii (hd : Int)), (2, ii (hd2 : Int)), (3, ii place)]) (S' := [.ref 102]) dm_X12_laid_91 rfl rfl rfl rfl ?_
                  refine me1 (pc' := 93) (L' := [(6, .long (vn v 1)), (4, .long (vn v 0)), (0, .ref 102), (1, ii (hd : Int)), (2, ii (hd2 : Int)), (3, ii place)]) (S' := [ii (hd2 : Int), .ref 102]) dm_X12_laid_92 rfl rfl rfl rfl ?_
                  refine x_cp (pc' := 96) (v := ii (vk w : Int)) (rest := []) dm_X12_laid_93 rfl (q_inv (As := [ii (hd2 : Int)]) (S := []) hm rfl rfl rfl) rfl rfl rfl (r_kindOf_ hm (by omega) hB0 hw) ?_
                  refine me0 (pc' := 97) (S' := [ii 3, ii (vk w : Int)]) dm_X12_laid_96 rfl rfl rfl rfl ?_
                  refine y_2ne (a := (vk w : Int)) (b := 3) (t := 107) (pc' := 100) dm_X12_laid_97 rfl rfl (by omega) (fun hb9 => ?_) (fun hb9 => ?_)
                  · refine me1 (pc' := 108) (L' := [(6, .long (vn v 1)), (4, .long (vn v 0)), (0, .ref 102), (1, ii (hd : Int)), (2, ii (hd2 : Int)), (3, ii place)]) (S' := [.ref 102]) dm_X12_laid_107 rfl rfl rfl rfl ?_
                    refine me1 (pc' := 109) (L' := [(6, .long (vn v 1)), (4, .long (vn v 0)), (0, .ref 102), (1, ii (hd : Int)), (2, ii (hd2 : Int)), (3, ii place)]) (S' := [ii (hd2 : Int), .ref 102]) dm_X12_laid_108 rfl rfl rfl rfl ?_
                    refine x_cp (pc' := 112) (v := ii (vk w : Int)) (rest := []) dm_X12_laid_109 rfl (q_inv (As := [ii (hd2 : Int)]) (S := []) hm rfl rfl rfl) rfl rfl rfl (r_kindOf_ hm (by omega) hB0 hw) ?_
                    refine me0 (pc' := 114) (S' := [ii 6, ii (vk w : Int)]) dm_X12_laid_112 rfl rfl rfl rfl ?_
                    refine y_2ne (a := (vk w : Int)) (b := 6) (t := 131) (pc' := 117) dm_X12_laid_114 rfl rfl (by omega) (fun hb10 => ?_) (fun hb10 => ?_)
                    · refine me1 (pc' := 132) (L' := [(6, .long (vn v 1)), (4, .long (vn v 0)), (0, .ref 102), (1, ii (hd : Int)), (2, ii (hd2 : Int)), (3, ii place)]) (S' := [.ref 102]) dm_X12_laid_131 rfl rfl rfl rfl ?_
                      refine me1 (pc' := 133) (L' := [(6, .long (vn v 1)), (4, .long (vn v 0)), (0, .ref 102), (1, ii (hd : Int)), (2, ii (hd2 : Int)), (3, ii place)]) (S' := [ii (hd2 : Int), .ref 102]) dm_X12_laid_132 rfl rfl rfl rfl ?_
                      refine x_cp (pc' := 136) (v := ii (vm w : Int)) (rest := []) dm_X12_laid_133 rfl (q_inv (As := [ii (hd2 : Int)]) (S := []) hm rfl rfl rfl) rfl rfl rfl (r_many_ hm (by omega) hB0 hw) ?_
                      refine pg_st (S' := [ii ((vq w : Nat) : Int)]) (congrArg (fun z => ii z :: []) (by first | (rw [hqw (by omega) (by omega)]; done) | (rw [hq6 (by omega)]; push_cast; rfl))) ?_
                      refine me1 (pc' := 138) (L' := [(8, ii ((vq w : Nat) : Int)), (6, .long (vn v 1)), (4, .long (vn v 0)), (0, .ref 102), (1, ii (hd : Int)), (2, ii (hd2 : Int)), (3, ii place)]) (S' := []) dm_X12_laid_136 rfl rfl rfl rfl ?_
                      refine me1 (pc' := 140) (L' := [(8, ii ((vq w : Nat) : Int)), (6, .long (vn v 1)), (4, .long (vn v 0)), (0, .ref 102), (1, ii (hd : Int)), (2, ii (hd2 : Int)), (3, ii place)]) (S' := [ii ((vq w : Nat) : Int)]) dm_X12_laid_138 rfl rfl rfl rfl ?_
                      refine y_1ne (a := ((vq w : Nat) : Int)) (t := 150) (pc' := 143) dm_X12_laid_140 rfl rfl (by omega) (fun hb11 => ?_) (fun hb11 => ?_)
                      · have hN : (vn v 0).toInt.toNat * (vn v 1).toInt.toNat ≤ 144 := Nat.mul_le_mul (show (vn v 0).toInt.toNat ≤ 12 by omega) (show (vn v 1).toInt.toNat ≤ 12 by omega)
                        have hpc : (((vn v 0).toInt.toNat : Nat) : Int) * (((vn v 1).toInt.toNat : Nat) : Int) = (((vn v 0).toInt.toNat * (vn v 1).toInt.toNat : Nat) : Int) := by push_cast; rfl
                        have hpe : (vn v 0).toInt * (vn v 1).toInt = (((vn v 0).toInt.toNat * (vn v 1).toInt.toNat : Nat) : Int) := by rw [← hpc, Int.toNat_of_nonneg (by omega), Int.toNat_of_nonneg (by omega)]
                        refine me1 (pc' := 151) (L' := [(8, ii ((vq w : Nat) : Int)), (6, .long (vn v 1)), (4, .long (vn v 0)), (0, .ref 102), (1, ii (hd : Int)), (2, ii (hd2 : Int)), (3, ii place)]) (S' := [.ref 102]) dm_X12_laid_150 rfl rfl rfl rfl ?_
                        refine me1 (pc' := 153) (L' := [(8, ii ((vq w : Nat) : Int)), (6, .long (vn v 1)), (4, .long (vn v 0)), (0, .ref 102), (1, ii (hd : Int)), (2, ii (hd2 : Int)), (3, ii place)]) (S' := [.long (vn v 0), .ref 102]) dm_X12_laid_151 rfl rfl rfl rfl ?_
                        refine y_l2i (a := (((vn v 0).toInt.toNat : Nat) : Int)) dm_X12_laid_153 (pc' := 154) rfl (n_l2i _ (by omega)) ?_
                        refine me1 (pc' := 156) (L' := [(8, ii ((vq w : Nat) : Int)), (6, .long (vn v 1)), (4, .long (vn v 0)), (0, .ref 102), (1, ii (hd : Int)), (2, ii (hd2 : Int)), (3, ii place)]) (S' := [.long (vn v 1), ii (((vn v 0).toInt.toNat : Nat) : Int), .ref 102]) dm_X12_laid_154 rfl rfl rfl rfl ?_
                        refine y_l2i (a := (((vn v 1).toInt.toNat : Nat) : Int)) dm_X12_laid_156 (pc' := 157) rfl (n_l2i _ (by omega)) ?_
                        refine x_cv (pc' := 160) (rest := []) dm_X12_laid_157 rfl (q_inv (As := [ii (((vn v 0).toInt.toNat : Nat) : Int), ii (((vn v 1).toInt.toNat : Nat) : Int)]) (S := []) hm rfl rfl rfl) rfl rfl rfl (r_table_ (q := q) (b := b) (s := s) hm (by omega) hq hb (by omega) (by omega) (by omega)) ?_
                        rintro _ _ ⟨rfl, rfl⟩
                        refine me1 (pc' := 162) (L' := [(9, ii (q : Int)), (8, ii ((vq w : Nat) : Int)), (6, .long (vn v 1)), (4, .long (vn v 0)), (0, .ref 102), (1, ii (hd : Int)), (2, ii (hd2 : Int)), (3, ii place)]) (S' := []) dm_X12_laid_160 rfl rfl rfl rfl ?_
                        have hxT : rext s (tabS s q b (((vn v 0).toInt.toNat : Nat) : Int) (((vn v 1).toInt.toNat : Nat) : Int)) := rext_tab hq hb (by omega)
                        have hBT : rB (tabS s q b (((vn v 0).toInt.toNat : Nat) : Int) (((vn v 1).toInt.toNat : Nat) : Int)) := ⟨by show 3 ≤ (q : Int) + 1; omega, by show (q : Int) + 1 ≤ 310000; omega, by show 0 ≤ (b : Int) + (((vn v 0).toInt.toNat : Nat) : Int) * (((vn v 1).toInt.toNat : Nat) : Int); omega, by show (b : Int) + (((vn v 0).toInt.toNat : Nat) : Int) * (((vn v 1).toInt.toNat : Nat) : Int) ≤ 820000; omega⟩
                        have hvT : ∀ (k : Nat) (F : Nat → Int64), rv (fillS (tabS s q b (((vn v 0).toInt.toNat : Nat) : Int) (((vn v 1).toInt.toNat : Nat) : Int)) b k F) (e + 1) hd v := fun k F => rv_ext (rext_fill hxT (by omega) F) hh3 hv
                        have hwT : ∀ (k : Nat) (F : Nat → Int64), rv (fillS (tabS s q b (((vn v 0).toInt.toNat : Nat) : Int) (((vn v 1).toInt.toNat : Nat) : Int)) b k F) (e + 1) hd2 w := fun k F => rv_ext (rext_fill hxT (by omega) F) hh4 hw
                        refine me0 (pc' := 163) (S' := [ii 0]) dm_X12_laid_162 rfl rfl rfl rfl ?_
                        refine me1 (pc' := 165) (L' := [(10, ii 0), (9, ii (q : Int)), (8, ii ((vq w : Nat) : Int)), (6, .long (vn v 1)), (4, .long (vn v 0)), (0, .ref 102), (1, ii (hd : Int)), (2, ii (hd2 : Int)), (3, ii place)]) (S' := []) dm_X12_laid_163 rfl rfl rfl rfl ?_
                        have lp165 : ∀ (n165 : Nat) (k : Nat), (vn v 0).toInt.toNat * (vn v 1).toInt.toNat - k = n165 → (k ≤ (vn v 0).toInt.toNat * (vn v 1).toInt.toNat) → (∀ j, j < k → fits ((fun k => vn w (k % vq w)) j)) → pgE xt (d - 1) 12 11 false (Option.some Jvm.ClassFile.FieldType.int) (mj_dec prog_14_method_57_code) 165 [(0, .ref 102), (1, ii (hd : Int)), (2, ii (hd2 : Int)), (3, ii place), (4, .long (vn v 0)), (6, .long (vn v 1)), (8, ii ((vq w : Nat) : Int)), (9, ii (q : Int)), (10, ii ((k : Nat) : Int))] [] (rI pre post ((fillS (tabS s q b (((vn v 0).toInt.toNat : Nat) : Int) (((vn v 1).toInt.toNat : Nat) : Int)) b k (fun k => vn w (k % vq w))).1) ((fillS (tabS s q b (((vn v 0).toInt.toNat : Nat) : Int) (((vn v 1).toInt.toNat : Nat) : Int)) b k (fun k => vn w (k % vq w))).2.1) ((fillS (tabS s q b (((vn v 0).toInt.toNat : Nat) : Int) (((vn v 1).toInt.toNat : Nat) : Int)) b k (fun k => vn w (k % vq w))).2.2.1) ((fillS (tabS s q b (((vn v 0).toInt.toNat : Nat) : Int) (((vn v 1).toInt.toNat : Nat) : Int)) b k (fun k => vn w (k % vq w))).2.2.2)) (fun r h' => ∃ x, r = some x ∧ rres pre post s (e + 1) (d_take v w) place 144 1 x h') := by
                          intro n165
                          induction n165 using Nat.strongRecOn with
                          | ind n165 ih165 =>
                            intro k hm165 hk hft
                            refine me1 (pc' := 167) (L' := [(0, .ref 102), (1, ii (hd : Int)), (2, ii (hd2 : Int)), (3, ii place), (4, .long (vn v 0)), (6, .long (vn v 1)), (8, ii ((vq w : Nat) : Int)), (9, ii (q : Int)), (10, ii ((k : Nat) : Int))]) (S' := [ii ((k : Nat) : Int)]) dm_X12_laid_165 rfl rfl rfl rfl ?_
                            refine me1 (pc' := 169) (L' := [(0, .ref 102), (1, ii (hd : Int)), (2, ii (hd2 : Int)), (3, ii place), (4, .long (vn v 0)), (6, .long (vn v 1)), (8, ii ((vq w : Nat) : Int)), (9, ii (q : Int)), (10, ii ((k : Nat) : Int))]) (S' := [.long (vn v 0), ii ((k : Nat) : Int)]) dm_X12_laid_167 rfl rfl rfl rfl ?_
                            refine me1 (pc' := 171) (L' := [(0, .ref 102), (1, ii (hd : Int)), (2, ii (hd2 : Int)), (3, ii place), (4, .long (vn v 0)), (6, .long (vn v 1)), (8, ii ((vq w : Nat) : Int)), (9, ii (q : Int)), (10, ii ((k : Nat) : Int))]) (S' := [.long (vn v 1), .long (vn v 0), ii ((k : Nat) : Int)]) dm_X12_laid_169 rfl rfl rfl rfl ?_
                            refine me0 (pc' := 172) (S' := [.long ((vn v 0) * (vn v 1)), ii ((k : Nat) : Int)]) dm_X12_laid_171 rfl rfl rfl rfl ?_
                            refine y_l2i (a := (((vn v 0).toInt.toNat * (vn v 1).toInt.toNat : Nat) : Int)) dm_X12_laid_172 (pc' := 173) rfl (n_l2i _ (by rw [l_mulI (by rw [hpe]; omega), hpe])) ?_
                            refine y_2ge (a := ((k : Nat) : Int)) (b := (((vn v 0).toInt.toNat * (vn v 1).toInt.toNat : Nat) : Int)) (t := 231) (pc' := 176) dm_X12_laid_173 rfl rfl (by omega) (fun hb12 => ?_) (fun hb12 => ?_)
                            · refine me1 (pc' := 233) (L' := [(0, .ref 102), (1, ii (hd : Int)), (2, ii (hd2 : Int)), (3, ii place), (4, .long (vn v 0)), (6, .long (vn v 1)), (8, ii ((vq w : Nat) : Int)), (9, ii (q : Int)), (10, ii ((k : Nat) : Int))]) (S' := [ii (q : Int)]) dm_X12_laid_231 rfl rfl rfl rfl ?_
                              refine y_ret (r := some (ii (q : Int))) dm_X12_laid_233 rfl rfl rfl ?_
                              have hkn : k = (vn v 0).toInt.toNat * (vn v 1).toInt.toNat := by omega
                              rw [hkn] at hft
                              have hyes : allF ((vn v 0).toInt.toNat * (vn v 1).toInt.toNat) (fun k => vn w (k % vq w)) = true := allF_iff.mpr hft
                              rw [show d_take v w = .inr (vtab (vn v 0).toInt.toNat (vn v 1).toInt.toNat (fun k => vn w (k % vq w))) by unfold d_take; rw [if_pos (by omega)]; unfold d_lay; rw [if_neg (by omega), if_neg (by omega), if_neg (by omega), if_neg (by rw [hyes]; decide)]]
                              rw [hkn]
                              exact ⟨_, rfl, rres_tab (r := (vn v 0).toInt.toNat) (c := (vn v 1).toInt.toNat) (w := vtab (vn v 0).toInt.toNat (vn v 1).toInt.toNat (fun k => vn w (k % vq w))) hq hq3 hb he0 (vw1_tab (by omega) (by omega) (by omega) (by omega) hft) rfl rfl rfl (fun _ _ => rfl) (by omega) (Nat.le_refl _)⟩
                            · have hmd : k % vq w < vq w := Nat.mod_lt _ (by omega)
                              refine me1 (pc' := 177) (L' := [(0, .ref 102), (1, ii (hd : Int)), (2, ii (hd2 : Int)), (3, ii place), (4, .long (vn v 0)), (6, .long (vn v 1)), (8, ii ((vq w : Nat) : Int)), (9, ii (q : Int)), (10, ii ((k : Nat) : Int))]) (S' := [.ref 102]) dm_X12_laid_176 rfl rfl rfl rfl ?_
                              refine me3 (pc' := 180) (S' := [.ref (102 + 1)]) dm_X12_laid_177 (q_getr hm rfl (fun m i l => rg_0 m i l)) rfl rfl rfl ?_
                              refine me1 (pc' := 181) (L' := [(0, .ref 102), (1, ii (hd : Int)), (2, ii (hd2 : Int)), (3, ii place), (4, .long (vn v 0)), (6, .long (vn v 1)), (8, ii ((vq w : Nat) : Int)), (9, ii (q : Int)), (10, ii ((k : Nat) : Int))]) (S' := [.ref 102, .ref (102 + 1)]) dm_X12_laid_180 rfl rfl rfl rfl ?_
                              refine me3 (pc' := 184) (S' := [.ref (102 + 2), .ref (102 + 1)]) dm_X12_laid_181 (q_getr hm rfl (fun m i l => rg_1 m i l)) rfl rfl rfl ?_
                              refine me1 (pc' := 186) (L' := [(0, .ref 102), (1, ii (hd : Int)), (2, ii (hd2 : Int)), (3, ii place), (4, .long (vn v 0)), (6, .long (vn v 1)), (8, ii ((vq w : Nat) : Int)), (9, ii (q : Int)), (10, ii ((k : Nat) : Int))]) (S' := [ii (q : Int), .ref (102 + 2), .ref (102 + 1)]) dm_X12_laid_184 rfl rfl rfl rfl ?_
                              refine me3 (pc' := 187) (S' := [ii ((((fillS (tabS s q b (((vn v 0).toInt.toNat : Nat) : Int) (((vn v 1).toInt.toNat : Nat) : Int)) b k (fun k => vn w (k % vq w))).2.2.1) 1) q), .ref (102 + 1)]) dm_X12_laid_186 (q_iald (v := (((fillS (tabS s q b (((vn v 0).toInt.toNat : Nat) : Int) (((vn v 1).toInt.toNat : Nat) : Int)) b k (fun k => vn w (k % vq w))).2.2.1) 1) q) (k := 1) (n := 310000) hm (fun m i l I J => rc_1 m i l I J) (by omega) (by omega) (by decide) rfl) rfl rfl rfl ?_
                              refine pg_st (S' := [ii (b : Int), .ref (102 + 1)]) (congrArg (fun z => ii z :: [.ref (102 + 1)]) (up_eq _ _ _)) ?_
                              refine me1 (pc' := 189) (L' := [(0, .ref 102), (1, ii (hd : Int)), (2, ii (hd2 : Int)), (3, ii place), (4, .long (vn v 0)), (6, .long (vn v 1)), (8, ii ((vq w : Nat) : Int)), (9, ii (q : Int)), (10, ii ((k : Nat) : Int))]) (S' := [ii ((k : Nat) : Int), ii (b : Int), .ref (102 + 1)]) dm_X12_laid_187 rfl rfl rfl rfl ?_
                              refine y_iadd (a := (b : Int)) (b := ((k : Nat) : Int)) dm_X12_laid_189 (pc' := 190) rfl ?_
                              refine me1 (pc' := 191) (L' := [(0, .ref 102), (1, ii (hd : Int)), (2, ii (hd2 : Int)), (3, ii place), (4, .long (vn v 0)), (6, .long (vn v 1)), (8, ii ((vq w : Nat) : Int)), (9, ii (q : Int)), (10, ii ((k : Nat) : Int))]) (S' := [.ref 102, ii ((b : Int) + ((k : Nat) : Int)), .ref (102 + 1)]) dm_X12_laid_190 rfl rfl rfl rfl ?_
                              refine me1 (pc' := 192) (L' := [(0, .ref 102), (1, ii (hd : Int)), (2, ii (hd2 : Int)), (3, ii place), (4, .long (vn v 0)), (6, .long (vn v 1)), (8, ii ((vq w : Nat) : Int)), (9, ii (q : Int)), (10, ii ((k : Nat) : Int))]) (S' := [ii (hd2 : Int), .ref 102, ii ((b : Int) + ((k : Nat) : Int)), .ref (102 + 1)]) dm_X12_laid_191 rfl rfl rfl rfl ?_
                              refine me1 (pc' := 194) (L' := [(0, .ref 102), (1, ii (hd : Int)), (2, ii (hd2 : Int)), (3, ii place), (4, .long (vn v 0)), (6, .long (vn v 1)), (8, ii ((vq w : Nat) : Int)), (9, ii (q : Int)), (10, ii ((k : Nat) : Int))]) (S' := [ii ((k : Nat) : Int), ii (hd2 : Int), .ref 102, ii ((b : Int) + ((k : Nat) : Int)), .ref (102 + 1)]) dm_X12_laid_192 rfl rfl rfl rfl ?_
                              refine me1 (pc' := 196) (L' := [(0, .ref 102), (1, ii (hd : Int)), (2, ii (hd2 : Int)), (3, ii place), (4, .long (vn v 0)), (6, .long (vn v 1)), (8, ii ((vq w : Nat) : Int)), (9, ii (q : Int)), (10, ii ((k : Nat) : Int))]) (S' := [ii ((vq w : Nat) : Int), ii ((k : Nat) : Int), ii (hd2 : Int), .ref 102, ii ((b : Int) + ((k : Nat) : Int)), .ref (102 + 1)]) dm_X12_laid_194 rfl rfl rfl rfl ?_
                              refine y_irem (a := ((k : Nat) : Int)) (b := ((vq w : Nat) : Int)) dm_X12_laid_196 (pc' := 197) rfl (by omega) (by omega) (by omega) (by omega) ?_
                              refine pg_st (S' := [ii ((k % vq w : Nat) : Int), ii (hd2 : Int), .ref 102, ii ((b : Int) + ((k : Nat) : Int)), .ref (102 + 1)]) (congrArg (fun z => ii z :: [ii (hd2 : Int), .ref 102, ii ((b : Int) + ((k : Nat) : Int)), .ref (102 + 1)]) (by push_cast; rfl)) ?_
                              refine x_cp (pc' := 200) (v := .long (vn w (k % vq w))) (rest := [ii ((b : Int) + ((k : Nat) : Int)), .ref (102 + 1)]) dm_X12_laid_197 rfl (q_inv (As := [ii (hd2 : Int), ii ((k % vq w : Nat) : Int)]) (S := [ii ((b : Int) + ((k : Nat) : Int)), .ref (102 + 1)]) hm rfl rfl rfl) rfl rfl rfl (r_number_ (k := k % vq w) hm (by omega) hBT (hwT _ _) (by omega) (by omega)) ?_
                              refine me3 (pc' := 201) (S' := []) (h1 := rI pre post ((fillS (tabS s q b (((vn v 0).toInt.toNat : Nat) : Int) (((vn v 1).toInt.toNat : Nat) : Int)) b k (fun k => vn w (k % vq w))).1) ((fillS (tabS s q b (((vn v 0).toInt.toNat : Nat) : Int) (((vn v 1).toInt.toNat : Nat) : Int)) b k (fun k => vn w (k % vq w))).2.1) ((fillS (tabS s q b (((vn v 0).toInt.toNat : Nat) : Int) (((vn v 1).toInt.toNat : Nat) : Int)) b k (fun k => vn w (k % vq w))).2.2.1) (va_up ((fillS (tabS s q b (((vn v 0).toInt.toNat : Nat) : Int) (((vn v 1).toInt.toNat : Nat) : Int)) b k (fun k => vn w (k % vq w))).2.2.2) 0 (va_up (((fillS (tabS s q b (((vn v 0).toInt.toNat : Nat) : Int) (((vn v 1).toInt.toNat : Nat) : Int)) b k (fun k => vn w (k % vq w))).2.2.2) 0) (b + k) (vn w (k % vq w))))) dm_X12_laid_200 (q_last (j := (b : Int) + ((k : Nat) : Int)) (k := 0) (n := 820000) hm (fun m i l I J => rc_0 m i l I J) (fun m i l I J f => rs_0 m i l I J f) (by omega) (by omega) (by decide)) rfl rfl rfl ?_
                              refine pg_cast (h2 := rI pre post ((fillS (tabS s q b (((vn v 0).toInt.toNat : Nat) : Int) (((vn v 1).toInt.toNat : Nat) : Int)) b (k + 1) (fun k => vn w (k % vq w))).1) ((fillS (tabS s q b (((vn v 0).toInt.toNat : Nat) : Int) (((vn v 1).toInt.toNat : Nat) : Int)) b (k + 1) (fun k => vn w (k % vq w))).2.1) ((fillS (tabS s q b (((vn v 0).toInt.toNat : Nat) : Int) (((vn v 1).toInt.toNat : Nat) : Int)) b (k + 1) (fun k => vn w (k % vq w))).2.2.1) ((fillS (tabS s q b (((vn v 0).toInt.toNat : Nat) : Int) (((vn v 1).toInt.toNat : Nat) : Int)) b (k + 1) (fun k => vn w (k % vq w))).2.2.2)) (fill_s (tabS s q b (((vn v 0).toInt.toNat : Nat) : Int) (((vn v 1).toInt.toNat : Nat) : Int)) b k (fun k => vn w (k % vq w))) ?_
                              refine me1 (pc' := 202) (L' := [(0, .ref 102), (1, ii (hd : Int)), (2, ii (hd2 : Int)), (3, ii place), (4, .long (vn v 0)), (6, .long (vn v 1)), (8, ii ((vq w : Nat) : Int)), (9, ii (q : Int)), (10, ii ((k : Nat) : Int))]) (S' := [.ref 102]) dm_X12_laid_201 rfl rfl rfl rfl ?_
                              refine me1 (pc' := 203) (L' := [(0, .ref 102), (1, ii (hd : Int)), (2, ii (hd2 : Int)), (3, ii place), (4, .long (vn v 0)), (6, .long (vn v 1)), (8, ii ((vq w : Nat) : Int)), (9, ii (q : Int)), (10, ii ((k : Nat) : Int))]) (S' := [ii (hd2 : Int), .ref 102]) dm_X12_laid_202 rfl rfl rfl rfl ?_
                              refine me1 (pc' := 205) (L' := [(0, .ref 102), (1, ii (hd : Int)), (2, ii (hd2 : Int)), (3, ii place), (4, .long (vn v 0)), (6, .long (vn v 1)), (8, ii ((vq w : Nat) : Int)), (9, ii (q : Int)), (10, ii ((k : Nat) : Int))]) (S' := [ii ((k : Nat) : Int), ii (hd2 : Int), .ref 102]) dm_X12_laid_203 rfl rfl rfl rfl ?_
                              refine me1 (pc' := 207) (L' := [(0, .ref 102), (1, ii (hd : Int)), (2, ii (hd2 : Int)), (3, ii place), (4, .long (vn v 0)), (6, .long (vn v 1)), (8, ii ((vq w : Nat) : Int)), (9, ii (q : Int)), (10, ii ((k : Nat) : Int))]) (S' := [ii ((vq w : Nat) : Int), ii ((k : Nat) : Int), ii (hd2 : Int), .ref 102]) dm_X12_laid_205 rfl rfl rfl rfl ?_
                              refine y_irem (a := ((k : Nat) : Int)) (b := ((vq w : Nat) : Int)) dm_X12_laid_207 (pc' := 208) rfl (by omega) (by omega) (by omega) (by omega) ?_
                              refine pg_st (S' := [ii ((k % vq w : Nat) : Int), ii (hd2 : Int), .ref 102]) (congrArg (fun z => ii z :: [ii (hd2 : Int), .ref 102]) (by push_cast; rfl)) ?_
                              refine x_cp (pc' := 211) (v := .long (vn w (k % vq w))) (rest := []) dm_X12_laid_208 rfl (q_inv (As := [ii (hd2 : Int), ii ((k % vq w : Nat) : Int)]) (S := []) hm rfl rfl rfl) rfl rfl rfl (r_number_ (k := k % vq w) hm (by omega) hBT (hwT _ _) (by omega) (by omega)) ?_
                              refine x_cp (pc' := 214) (v := zz (fitsB (vn w (k % vq w)))) (rest := []) dm_X12_laid_211 rfl (g_invs (As := [.long (vn w (k % vq w))]) (S := []) rfl rfl rfl) rfl rfl rfl (r_fits_ (by omega)) ?_
                              refine y_zne (c := fitsB (vn w (k % vq w))) (t := 225) (pc' := 217) dm_X12_laid_214 rfl rfl (fun hb13 => ?_) (fun hb13 => ?_)
                              · have hfb : fitsB (vn w (k % vq w)) = true := hb13
                                refine y_iinc (pc' := 228) (L' := [(10, ii (((k : Nat) : Int) + 1)), (0, .ref 102), (1, ii (hd : Int)), (2, ii (hd2 : Int)), (3, ii place), (4, .long (vn v 0)), (6, .long (vn v 1)), (8, ii ((vq w : Nat) : Int)), (9, ii (q : Int))]) dm_X12_laid_225 (y_incp (a := ((k : Nat) : Int)) (c := 1) rfl rfl (by decide)) rfl ?_
                                refine me2 (pc' := 165) (S' := []) dm_X12_laid_228 rfl rfl rfl ?_
                                exact pg_sub (L := [(0, .ref 102), (1, ii (hd : Int)), (2, ii (hd2 : Int)), (3, ii place), (4, .long (vn v 0)), (6, .long (vn v 1)), (8, ii ((vq w : Nat) : Int)), (9, ii (q : Int)), (10, ii (((k + 1) : Nat) : Int))]) rfl rfl rfl (ih165 ((vn v 0).toInt.toNat * (vn v 1).toInt.toNat - (k + 1)) (by omega) (k + 1) rfl (by omega) (fun j hj => by by_cases z : j = k; (rw [z]; exact fitsB_iff.mp hfb); exact hft j (by omega)))
                              · have hfb : fitsB (vn w (k % vq w)) = false := hb13
                                refine me1 (pc' := 218) (L' := [(0, .ref 102), (1, ii (hd : Int)), (2, ii (hd2 : Int)), (3, ii place), (4, .long (vn v 0)), (6, .long (vn v 1)), (8, ii ((vq w : Nat) : Int)), (9, ii (q : Int)), (10, ii ((k : Nat) : Int))]) (S' := [.ref 102]) dm_X12_laid_217 rfl rfl rfl rfl ?_
                                refine me0 (pc' := 220) (S' := [ii 6, .ref 102]) dm_X12_laid_218 rfl rfl rfl rfl ?_
                                refine me1 (pc' := 221) (L' := [(0, .ref 102), (1, ii (hd : Int)), (2, ii (hd2 : Int)), (3, ii place), (4, .long (vn v 0)), (6, .long (vn v 1)), (8, ii ((vq w : Nat) : Int)), (9, ii (q : Int)), (10, ii ((k : Nat) : Int))]) (S' := [ii place, ii 6, .ref 102]) dm_X12_laid_220 rfl rfl rfl rfl ?_
                                refine x_cv (pc' := 224) (rest := []) dm_X12_laid_221 rfl (q_inv (As := [ii 6, ii place]) (S := []) hm rfl rfl rfl) rfl rfl rfl (r_fail_ (s := (fillS (tabS s q b (((vn v 0).toInt.toNat : Nat) : Int) (((vn v 1).toInt.toNat : Nat) : Int)) b (k + 1) (fun k => vn w (k % vq w)))) hm (by omega) he0 hca.1 hca.2) ?_
                                rintro _ _ ⟨rfl, rfl⟩
                                refine y_ret (r := some (ii (-1))) dm_X12_laid_224 rfl rfl rfl ?_
                                have hno : allF ((vn v 0).toInt.toNat * (vn v 1).toInt.toNat) (fun k => vn w (k % vq w)) = false := by cases hz : allF ((vn v 0).toInt.toNat * (vn v 1).toInt.toNat) (fun k => vn w (k % vq w)) with | false => rfl | true => exact absurd (fitsB_iff.mpr (allF_iff.mp hz k (by omega))) (by show ¬ fitsB (vn w (k % vq w)) = true; rw [hfb]; decide)
                                rw [show d_take v w = .inl 6 from by unfold d_take; rw [if_pos (by omega)]; unfold d_lay; rw [if_neg (by omega), if_neg (by omega), if_neg (by omega), if_pos hno]]
                                exact ⟨_, rfl, rres_failT (rext_fill (rext_tab hq hb (by omega)) (by omega) _) (rfr_tr (rfr_tab s q b _ _) (rfr_fill _ b _ _)) (by show (b : Int) + (((vn v 0).toInt.toNat : Nat) : Int) * (((vn v 1).toInt.toNat : Nat) : Int) ≤ s.1 3 + 144; omega) (by show (q : Int) + 1 ≤ s.1 4 + 1; omega)⟩
                        refine pg_cast (h2 := rI pre post ((fillS (tabS s q b (((vn v 0).toInt.toNat : Nat) : Int) (((vn v 1).toInt.toNat : Nat) : Int)) b 0 (fun k => vn w (k % vq w))).1) ((fillS (tabS s q b (((vn v 0).toInt.toNat : Nat) : Int) (((vn v 1).toInt.toNat : Nat) : Int)) b 0 (fun k => vn w (k % vq w))).2.1) ((fillS (tabS s q b (((vn v 0).toInt.toNat : Nat) : Int) (((vn v 1).toInt.toNat : Nat) : Int)) b 0 (fun k => vn w (k % vq w))).2.2.1) ((fillS (tabS s q b (((vn v 0).toInt.toNat : Nat) : Int) (((vn v 1).toInt.toNat : Nat) : Int)) b 0 (fun k => vn w (k % vq w))).2.2.2)) (fill_0 (tabS s q b (((vn v 0).toInt.toNat : Nat) : Int) (((vn v 1).toInt.toNat : Nat) : Int)) b (fun k => vn w (k % vq w))) ?_
                        exact pg_sub (L := [(0, .ref 102), (1, ii (hd : Int)), (2, ii (hd2 : Int)), (3, ii place), (4, .long (vn v 0)), (6, .long (vn v 1)), (8, ii ((vq w : Nat) : Int)), (9, ii (q : Int)), (10, ii ((0 : Nat) : Int))]) rfl rfl rfl (lp165 _ 0 rfl (Nat.zero_le _) (fun j hj => absurd hj (Nat.not_lt_zero j)))
                      · refine me1 (pc' := 144) (L' := [(8, ii ((vq w : Nat) : Int)), (6, .long (vn v 1)), (4, .long (vn v 0)), (0, .ref 102), (1, ii (hd : Int)), (2, ii (hd2 : Int)), (3, ii place)]) (S' := [.ref 102]) dm_X12_laid_143 rfl rfl rfl rfl ?_
                        refine me0 (pc' := 145) (S' := [ii 4, .ref 102]) dm_X12_laid_144 rfl rfl rfl rfl ?_
                        refine me1 (pc' := 146) (L' := [(8, ii ((vq w : Nat) : Int)), (6, .long (vn v 1)), (4, .long (vn v 0)), (0, .ref 102), (1, ii (hd : Int)), (2, ii (hd2 : Int)), (3, ii place)]) (S' := [ii place, ii 4, .ref 102]) dm_X12_laid_145 rfl rfl rfl rfl ?_
                        refine x_cv (pc' := 149) (rest := []) dm_X12_laid_146 rfl (q_inv (As := [ii 4, ii place]) (S := []) hm rfl rfl rfl) rfl rfl rfl (r_fail_ (s := s) hm (by omega) he0 hca.1 hca.2) ?_
                        rintro _ _ ⟨rfl, rfl⟩
                        refine y_ret (r := some (ii (-1))) dm_X12_laid_149 rfl rfl rfl ?_
                        rw [show d_take v w = .inl 4 from by unfold d_take; rw [if_pos (by omega)]; unfold d_lay; rw [if_neg (by omega), if_neg (by omega), if_pos (by omega)]]
                        exact ⟨_, rfl, rres_fail (rpre_rf s) he0⟩
                    · refine me1 (pc' := 118) (L' := [(6, .long (vn v 1)), (4, .long (vn v 0)), (0, .ref 102), (1, ii (hd : Int)), (2, ii (hd2 : Int)), (3, ii place)]) (S' := [.ref 102]) dm_X12_laid_117 rfl rfl rfl rfl ?_
                      refine me1 (pc' := 119) (L' := [(6, .long (vn v 1)), (4, .long (vn v 0)), (0, .ref 102), (1, ii (hd : Int)), (2, ii (hd2 : Int)), (3, ii place)]) (S' := [ii (hd2 : Int), .ref 102]) dm_X12_laid_118 rfl rfl rfl rfl ?_
                      refine x_cp (pc' := 122) (v := ii (vm w : Int)) (rest := []) dm_X12_laid_119 rfl (q_inv (As := [ii (hd2 : Int)]) (S := []) hm rfl rfl rfl) rfl rfl rfl (r_many_ hm (by omega) hB0 hw) ?_
                      refine me1 (pc' := 123) (L' := [(6, .long (vn v 1)), (4, .long (vn v 0)), (0, .ref 102), (1, ii (hd : Int)), (2, ii (hd2 : Int)), (3, ii place)]) (S' := [.ref 102, ii (vm w : Int)]) dm_X12_laid_122 rfl rfl rfl rfl ?_
                      refine me1 (pc' := 124) (L' := [(6, .long (vn v 1)), (4, .long (vn v 0)), (0, .ref 102), (1, ii (hd : Int)), (2, ii (hd2 : Int)), (3, ii place)]) (S' := [ii (hd2 : Int), .ref 102, ii (vm w : Int)]) dm_X12_laid_123 rfl rfl rfl rfl ?_
                      refine x_cp (pc' := 127) (v := ii (vc w : Int)) (rest := [ii (vm w : Int)]) dm_X12_laid_124 rfl (q_inv (As := [ii (hd2 : Int)]) (S := [ii (vm w : Int)]) hm rfl rfl rfl) rfl rfl rfl (r_columns_ hm (by omega) hB0 hw) ?_
                      refine y_imul (a := (vm w : Int)) (b := (vc w : Int)) dm_X12_laid_127 (pc' := 128) rfl ?_
                      refine me2 (pc' := 136) (S' := [ii ((vm w : Int) * (vc w : Int))]) dm_X12_laid_128 rfl rfl rfl ?_
                      refine pg_st (S' := [ii ((vq w : Nat) : Int)]) (congrArg (fun z => ii z :: []) (by first | (rw [hqw (by omega) (by omega)]; done) | (rw [hq6 (by omega)]; push_cast; rfl))) ?_
                      refine me1 (pc' := 138) (L' := [(8, ii ((vq w : Nat) : Int)), (6, .long (vn v 1)), (4, .long (vn v 0)), (0, .ref 102), (1, ii (hd : Int)), (2, ii (hd2 : Int)), (3, ii place)]) (S' := []) dm_X12_laid_136 rfl rfl rfl rfl ?_
                      refine me1 (pc' := 140) (L' := [(8, ii ((vq w : Nat) : Int)), (6, .long (vn v 1)), (4, .long (vn v 0)), (0, .ref 102), (1, ii (hd : Int)), (2, ii (hd2 : Int)), (3, ii place)]) (S' := [ii ((vq w : Nat) : Int)]) dm_X12_laid_138 rfl rfl rfl rfl ?_
                      refine y_1ne (a := ((vq w : Nat) : Int)) (t := 150) (pc' := 143) dm_X12_laid_140 rfl rfl (by omega) (fun hb14 => ?_) (fun hb14 => ?_)
                      · have hN : (vn v 0).toInt.toNat * (vn v 1).toInt.toNat ≤ 144 := Nat.mul_le_mul (show (vn v 0).toInt.toNat ≤ 12 by omega) (show (vn v 1).toInt.toNat ≤ 12 by omega)
                        have hpc : (((vn v 0).toInt.toNat : Nat) : Int) * (((vn v 1).toInt.toNat : Nat) : Int) = (((vn v 0).toInt.toNat * (vn v 1).toInt.toNat : Nat) : Int) := by push_cast; rfl
                        have hpe : (vn v 0).toInt * (vn v 1).toInt = (((vn v 0).toInt.toNat * (vn v 1).toInt.toNat : Nat) : Int) := by rw [← hpc, Int.toNat_of_nonneg (by omega), Int.toNat_of_nonneg (by omega)]
                        refine me1 (pc' := 151) (L' := [(8, ii ((vq w : Nat) : Int)), (6, .long (vn v 1)), (4, .long (vn v 0)), (0, .ref 102), (1, ii (hd : Int)), (2, ii (hd2 : Int)), (3, ii place)]) (S' := [.ref 102]) dm_X12_laid_150 rfl rfl rfl rfl ?_
                        refine me1 (pc' := 153) (L' := [(8, ii ((vq w : Nat) : Int)), (6, .long (vn v 1)), (4, .long (vn v 0)), (0, .ref 102), (1, ii (hd : Int)), (2, ii (hd2 : Int)), (3, ii place)]) (S' := [.long (vn v 0), .ref 102]) dm_X12_laid_151 rfl rfl rfl rfl ?_
                        refine y_l2i (a := (((vn v 0).toInt.toNat : Nat) : Int)) dm_X12_laid_153 (pc' := 154) rfl (n_l2i _ (by omega)) ?_
                        refine me1 (pc' := 156) (L' := [(8, ii ((vq w : Nat) : Int)), (6, .long (vn v 1)), (4, .long (vn v 0)), (0, .ref 102), (1, ii (hd : Int)), (2, ii (hd2 : Int)), (3, ii place)]) (S' := [.long (vn v 1), ii (((vn v 0).toInt.toNat : Nat) : Int), .ref 102]) dm_X12_laid_154 rfl rfl rfl rfl ?_
                        refine y_l2i (a := (((vn v 1).toInt.toNat : Nat) : Int)) dm_X12_laid_156 (pc' := 157) rfl (n_l2i _ (by omega)) ?_
                        refine x_cv (pc' := 160) (rest := []) dm_X12_laid_157 rfl (q_inv (As := [ii (((vn v 0).toInt.toNat : Nat) : Int), ii (((vn v 1).toInt.toNat : Nat) : Int)]) (S := []) hm rfl rfl rfl) rfl rfl rfl (r_table_ (q := q) (b := b) (s := s) hm (by omega) hq hb (by omega) (by omega) (by omega)) ?_
                        rintro _ _ ⟨rfl, rfl⟩
                        refine me1 (pc' := 162) (L' := [(9, ii (q : Int)), (8, ii ((vq w : Nat) : Int)), (6, .long (vn v 1)), (4, .long (vn v 0)), (0, .ref 102), (1, ii (hd : Int)), (2, ii (hd2 : Int)), (3, ii place)]) (S' := []) dm_X12_laid_160 rfl rfl rfl rfl ?_
                        have hxT : rext s (tabS s q b (((vn v 0).toInt.toNat : Nat) : Int) (((vn v 1).toInt.toNat : Nat) : Int)) := rext_tab hq hb (by omega)
                        have hBT : rB (tabS s q b (((vn v 0).toInt.toNat : Nat) : Int) (((vn v 1).toInt.toNat : Nat) : Int)) := ⟨by show 3 ≤ (q : Int) + 1; omega, by show (q : Int) + 1 ≤ 310000; omega, by show 0 ≤ (b : Int) + (((vn v 0).toInt.toNat : Nat) : Int) * (((vn v 1).toInt.toNat : Nat) : Int); omega, by show (b : Int) + (((vn v 0).toInt.toNat : Nat) : Int) * (((vn v 1).toInt.toNat : Nat) : Int) ≤ 820000; omega⟩
                        have hvT : ∀ (k : Nat) (F : Nat → Int64), rv (fillS (tabS s q b (((vn v 0).toInt.toNat : Nat) : Int) (((vn v 1).toInt.toNat : Nat) : Int)) b k F) (e + 1) hd v := fun k F => rv_ext (rext_fill hxT (by omega) F) hh3 hv
                        have hwT : ∀ (k : Nat) (F : Nat → Int64), rv (fillS (tabS s q b (((vn v 0).toInt.toNat : Nat) : Int) (((vn v 1).toInt.toNat : Nat) : Int)) b k F) (e + 1) hd2 w := fun k F => rv_ext (rext_fill hxT (by omega) F) hh4 hw
                        refine me0 (pc' := 163) (S' := [ii 0]) dm_X12_laid_162 rfl rfl rfl rfl ?_
                        refine me1 (pc' := 165) (L' := [(10, ii 0), (9, ii (q : Int)), (8, ii ((vq w : Nat) : Int)), (6, .long (vn v 1)), (4, .long (vn v 0)), (0, .ref 102), (1, ii (hd : Int)), (2, ii (hd2 : Int)), (3, ii place)]) (S' := []) dm_X12_laid_163 rfl rfl rfl rfl ?_
                        have lp165 : ∀ (n165 : Nat) (k : Nat), (vn v 0).toInt.toNat * (vn v 1).toInt.toNat - k = n165 → (k ≤ (vn v 0).toInt.toNat * (vn v 1).toInt.toNat) → (∀ j, j < k → fits ((fun k => vn w (k % vq w)) j)) → pgE xt (d - 1) 12 11 false (Option.some Jvm.ClassFile.FieldType.int) (mj_dec prog_14_method_57_code) 165 [(0, .ref 102), (1, ii (hd : Int)), (2, ii (hd2 : Int)), (3, ii place), (4, .long (vn v 0)), (6, .long (vn v 1)), (8, ii ((vq w : Nat) : Int)), (9, ii (q : Int)), (10, ii ((k : Nat) : Int))] [] (rI pre post ((fillS (tabS s q b (((vn v 0).toInt.toNat : Nat) : Int) (((vn v 1).toInt.toNat : Nat) : Int)) b k (fun k => vn w (k % vq w))).1) ((fillS (tabS s q b (((vn v 0).toInt.toNat : Nat) : Int) (((vn v 1).toInt.toNat : Nat) : Int)) b k (fun k => vn w (k % vq w))).2.1) ((fillS (tabS s q b (((vn v 0).toInt.toNat : Nat) : Int) (((vn v 1).toInt.toNat : Nat) : Int)) b k (fun k => vn w (k % vq w))).2.2.1) ((fillS (tabS s q b (((vn v 0).toInt.toNat : Nat) : Int) (((vn v 1).toInt.toNat : Nat) : Int)) b k (fun k => vn w (k % vq w))).2.2.2)) (fun r h' => ∃ x, r = some x ∧ rres pre post s (e + 1) (d_take v w) place 144 1 x h') := by
                          intro n165
                          induction n165 using Nat.strongRecOn with
                          | ind n165 ih165 =>
                            intro k hm165 hk hft
                            refine me1 (pc' := 167) (L' := [(0, .ref 102), (1, ii (hd : Int)), (2, ii (hd2 : Int)), (3, ii place), (4, .long (vn v 0)), (6, .long (vn v 1)), (8, ii ((vq w : Nat) : Int)), (9, ii (q : Int)), (10, ii ((k : Nat) : Int))]) (S' := [ii ((k : Nat) : Int)]) dm_X12_laid_165 rfl rfl rfl rfl ?_
                            refine me1 (pc' := 169) (L' := [(0, .ref 102), (1, ii (hd : Int)), (2, ii (hd2 : Int)), (3, ii place), (4, .long (vn v 0)), (6, .long (vn v 1)), (8, ii ((vq w : Nat) : Int)), (9, ii (q : Int)), (10, ii ((k : Nat) : Int))]) (S' := [.long (vn v 0), ii ((k : Nat) : Int)]) dm_X12_laid_167 rfl rfl rfl rfl ?_
                            refine me1 (pc' := 171) (L' := [(0, .ref 102), (1, ii (hd : Int)), (2, ii (hd2 : Int)), (3, ii place), (4, .long (vn v 0)), (6, .long (vn v 1)), (8, ii ((vq w : Nat) : Int)), (9, ii (q : Int)), (10, ii ((k : Nat) : Int))]) (S' := [.long (vn v 1), .long (vn v 0), ii ((k : Nat) : Int)]) dm_X12_laid_169 rfl rfl rfl rfl ?_
                            refine me0 (pc' := 172) (S' := [.long ((vn v 0) * (vn v 1)), ii ((k : Nat) : Int)]) dm_X12_laid_171 rfl rfl rfl rfl ?_
                            refine y_l2i (a := (((vn v 0).toInt.toNat * (vn v 1).toInt.toNat : Nat) : Int)) dm_X12_laid_172 (pc' := 173) rfl (n_l2i _ (by rw [l_mulI (by rw [hpe]; omega), hpe])) ?_
                            refine y_2ge (a := ((k : Nat) : Int)) (b := (((vn v 0).toInt.toNat * (vn v 1).toInt.toNat : Nat) : Int)) (t := 231) (pc' := 176) dm_X12_laid_173 rfl rfl (by omega) (fun hb15 => ?_) (fun hb15 => ?_)
                            · refine me1 (pc' := 233) (L' := [(0, .ref 102), (1, ii (hd : Int)), (2, ii (hd2 : Int)), (3, ii place), (4, .long (vn v 0)), (6, .long (vn v 1)), (8, ii ((vq w : Nat) : Int)), (9, ii (q : Int)), (10, ii ((k : Nat) : Int))]) (S' := [ii (q : Int)]) dm_X12_laid_231 rfl rfl rfl rfl ?_
                              refine y_ret (r := some (ii (q : Int))) dm_X12_laid_233 rfl rfl rfl ?_
                              have hkn : k = (vn v 0).toInt.toNat * (vn v 1).toInt.toNat := by omega
                              rw [hkn] at hft
                              have hyes : allF ((vn v 0).toInt.toNat * (vn v 1).toInt.toNat) (fun k => vn w (k % vq w)) = true := allF_iff.mpr hft
                              rw [show d_take v w = .inr (vtab (vn v 0).toInt.toNat (vn v 1).toInt.toNat (fun k => vn w (k % vq w))) by unfold d_take; rw [if_pos (by omega)]; unfold d_lay; rw [if_neg (by omega), if_neg (by omega), if_neg (by omega), if_neg (by rw [hyes]; decide)]]
                              rw [hkn]
                              exact ⟨_, rfl, rres_tab (r := (vn v 0).toInt.toNat) (c := (vn v 1).toInt.toNat) (w := vtab (vn v 0).toInt.toNat (vn v 1).toInt.toNat (fun k => vn w (k % vq w))) hq hq3 hb he0 (vw1_tab (by omega) (by omega) (by omega) (by omega) hft) rfl rfl rfl (fun _ _ => rfl) (by omega) (Nat.le_refl _)⟩
                            · have hmd : k % vq w < vq w := Nat.mod_lt _ (by omega)
                              refine me1 (pc' := 177) (L' := [(0, .ref 102), (1, ii (hd : Int)), (2, ii (hd2 : Int)), (3, ii place), (4, .long (vn v 0)), (6, .long (vn v 1)), (8, ii ((vq w : Nat) : Int)), (9, ii (q : Int)), (10, ii ((k : Nat) : Int))]) (S' := [.ref 102]) dm_X12_laid_176 rfl rfl rfl rfl ?_
                              refine me3 (pc' := 180) (S' := [.ref (102 + 1)]) dm_X12_laid_177 (q_getr hm rfl (fun m i l => rg_0 m i l)) rfl rfl rfl ?_
                              refine me1 (pc' := 181) (L' := [(0, .ref 102), (1, ii (hd : Int)), (2, ii (hd2 : Int)), (3, ii place), (4, .long (vn v 0)), (6, .long (vn v 1)), (8, ii ((vq w : Nat) : Int)), (9, ii (q : Int)), (10, ii ((k : Nat) : Int))]) (S' := [.ref 102, .ref (102 + 1)]) dm_X12_laid_180 rfl rfl rfl rfl ?_
                              refine me3 (pc' := 184) (S' := [.ref (102 + 2), .ref (102 + 1)]) dm_X12_laid_181 (q_getr hm rfl (fun m i l => rg_1 m i l)) rfl rfl rfl ?_
                              refine me1 (pc' := 186) (L' := [(0, .ref 102), (1, ii (hd : Int)), (2, ii (hd2 : Int)), (3, ii place), (4, .long (vn v 0)), (6, .long (vn v 1)), (8, ii ((vq w : Nat) : Int)), (9, ii (q : Int)), (10, ii ((k : Nat) : Int))]) (S' := [ii (q : Int), .ref (102 + 2), .ref (102 + 1)]) dm_X12_laid_184 rfl rfl rfl rfl ?_
                              refine me3 (pc' := 187) (S' := [ii ((((fillS (tabS s q b (((vn v 0).toInt.toNat : Nat) : Int) (((vn v 1).toInt.toNat : Nat) : Int)) b k (fun k => vn w (k % vq w))).2.2.1) 1) q), .ref (102 + 1)]) dm_X12_laid_186 (q_iald (v := (((fillS (tabS s q b (((vn v 0).toInt.toNat : Nat) : Int) (((vn v 1).toInt.toNat : Nat) : Int)) b k (fun k => vn w (k % vq w))).2.2.1) 1) q) (k := 1) (n := 310000) hm (fun m i l I J => rc_1 m i l I J) (by omega) (by omega) (by decide) rfl) rfl rfl rfl ?_
                              refine pg_st (S' := [ii (b : Int), .ref (102 + 1)]) (congrArg (fun z => ii z :: [.ref (102 + 1)]) (up_eq _ _ _)) ?_
                              refine me1 (pc' := 189) (L' := [(0, .ref 102), (1, ii (hd : Int)), (2, ii (hd2 : Int)), (3, ii place), (4, .long (vn v 0)), (6, .long (vn v 1)), (8, ii ((vq w : Nat) : Int)), (9, ii (q : Int)), (10, ii ((k : Nat) : Int))]) (S' := [ii ((k : Nat) : Int), ii (b : Int), .ref (102 + 1)]) dm_X12_laid_187 rfl rfl rfl rfl ?_
                              refine y_iadd (a := (b : Int)) (b := ((k : Nat) : Int)) dm_X12_laid_189 (pc' := 190) rfl ?_
                              refine me1 (pc' := 191) (L' := [(0, .ref 102), (1, ii (hd : Int)), (2, ii (hd2 : Int)), (3, ii place), (4, .long (vn v 0)), (6, .long (vn v 1)), (8, ii ((vq w : Nat) : Int)), (9, ii (q : Int)), (10, ii ((k : Nat) : Int))]) (S' := [.ref 102, ii ((b : Int) + ((k : Nat) : Int)), .ref (102 + 1)]) dm_X12_laid_190 rfl rfl rfl rfl ?_
                              refine me1 (pc' := 192) (L' := [(0, .ref 102), (1, ii (hd : Int)), (2, ii (hd2 : Int)), (3, ii place), (4, .long (vn v 0)), (6, .long (vn v 1)), (8, ii ((vq w : Nat) : Int)), (9, ii (q : Int)), (10, ii ((k : Nat) : Int))]) (S' := [ii (hd2 : Int), .ref 102, ii ((b : Int) + ((k : Nat) : Int)), .ref (102 + 1)]) dm_X12_laid_191 rfl rfl rfl rfl ?_
                              refine me1 (pc' := 194) (L' := [(0, .ref 102), (1, ii (hd : Int)), (2, ii (hd2 : Int)), (3, ii place), (4, .long (vn v 0)), (6, .long (vn v 1)), (8, ii ((vq w : Nat) : Int)), (9, ii (q : Int)), (10, ii ((k : Nat) : Int))]) (S' := [ii ((k : Nat) : Int), ii (hd2 : Int), .ref 102, ii ((b : Int) + ((k : Nat) : Int)), .ref (102 + 1)]) dm_X12_laid_192 rfl rfl rfl rfl ?_
                              refine me1 (pc' := 196) (L' := [(0, .ref 102), (1, ii (hd : Int)), (2, ii (hd2 : Int)), (3, ii place), (4, .long (vn v 0)), (6, .long (vn v 1)), (8, ii ((vq w : Nat) : Int)), (9, ii (q : Int)), (10, ii ((k : Nat) : Int))]) (S' := [ii ((vq w : Nat) : Int), ii ((k : Nat) : Int), ii (hd2 : Int), .ref 102, ii ((b : Int) + ((k : Nat) : Int)), .ref (102 + 1)]) dm_X12_laid_194 rfl rfl rfl rfl ?_
                              refine y_irem (a := ((k : Nat) : Int)) (b := ((vq w : Nat) : Int)) dm_X12_laid_196 (pc' := 197) rfl (by omega) (by omega) (by omega) (by omega) ?_
                              refine pg_st (S' := [ii ((k % vq w : Nat) : Int), ii (hd2 : Int), .ref 102, ii ((b : Int) + ((k : Nat) : Int)), .ref (102 + 1)]) (congrArg (fun z => ii z :: [ii (hd2 : Int), .ref 102, ii ((b : Int) + ((k : Nat) : Int)), .ref (102 + 1)]) (by push_cast; rfl)) ?_
                              refine x_cp (pc' := 200) (v := .long (vn w (k % vq w))) (rest := [ii ((b : Int) + ((k : Nat) : Int)), .ref (102 + 1)]) dm_X12_laid_197 rfl (q_inv (As := [ii (hd2 : Int), ii ((k % vq w : Nat) : Int)]) (S := [ii ((b : Int) + ((k : Nat) : Int)), .ref (102 + 1)]) hm rfl rfl rfl) rfl rfl rfl (r_number_ (k := k % vq w) hm (by omega) hBT (hwT _ _) (by omega) (by omega)) ?_
                              refine me3 (pc' := 201) (S' := []) (h1 := rI pre post ((fillS (tabS s q b (((vn v 0).toInt.toNat : Nat) : Int) (((vn v 1).toInt.toNat : Nat) : Int)) b k (fun k => vn w (k % vq w))).1) ((fillS (tabS s q b (((vn v 0).toInt.toNat : Nat) : Int) (((vn v 1).toInt.toNat : Nat) : Int)) b k (fun k => vn w (k % vq w))).2.1) ((fillS (tabS s q b (((vn v 0).toInt.toNat : Nat) : Int) (((vn v 1).toInt.toNat : Nat) : Int)) b k (fun k => vn w (k % vq w))).2.2.1) (va_up ((fillS (tabS s q b (((vn v 0).toInt.toNat : Nat) : Int) (((vn v 1).toInt.toNat : Nat) : Int)) b k (fun k => vn w (k % vq w))).2.2.2) 0 (va_up (((fillS (tabS s q b (((vn v 0).toInt.toNat : Nat) : Int) (((vn v 1).toInt.toNat : Nat) : Int)) b k (fun k => vn w (k % vq w))).2.2.2) 0) (b + k) (vn w (k % vq w))))) dm_X12_laid_200 (q_last (j := (b : Int) + ((k : Nat) : Int)) (k := 0) (n := 820000) hm (fun m i l I J => rc_0 m i l I J) (fun m i l I J f => rs_0 m i l I J f) (by omega) (by omega) (by decide)) rfl rfl rfl ?_
                              refine pg_cast (h2 := rI pre post ((fillS (tabS s q b (((vn v 0).toInt.toNat : Nat) : Int) (((vn v 1).toInt.toNat : Nat) : Int)) b (k + 1) (fun k => vn w (k % vq w))).1) ((fillS (tabS s q b (((vn v 0).toInt.toNat : Nat) : Int) (((vn v 1).toInt.toNat : Nat) : Int)) b (k + 1) (fun k => vn w (k % vq w))).2.1) ((fillS (tabS s q b (((vn v 0).toInt.toNat : Nat) : Int) (((vn v 1).toInt.toNat : Nat) : Int)) b (k + 1) (fun k => vn w (k % vq w))).2.2.1) ((fillS (tabS s q b (((vn v 0).toInt.toNat : Nat) : Int) (((vn v 1).toInt.toNat : Nat) : Int)) b (k + 1) (fun k => vn w (k % vq w))).2.2.2)) (fill_s (tabS s q b (((vn v 0).toInt.toNat : Nat) : Int) (((vn v 1).toInt.toNat : Nat) : Int)) b k (fun k => vn w (k % vq w))) ?_
                              refine me1 (pc' := 202) (L' := [(0, .ref 102), (1, ii (hd : Int)), (2, ii (hd2 : Int)), (3, ii place), (4, .long (vn v 0)), (6, .long (vn v 1)), (8, ii ((vq w : Nat) : Int)), (9, ii (q : Int)), (10, ii ((k : Nat) : Int))]) (S' := [.ref 102]) dm_X12_laid_201 rfl rfl rfl rfl ?_
                              refine me1 (pc' := 203) (L' := [(0, .ref 102), (1, ii (hd : Int)), (2, ii (hd2 : Int)), (3, ii place), (4, .long (vn v 0)), (6, .long (vn v 1)), (8, ii ((vq w : Nat) : Int)), (9, ii (q : Int)), (10, ii ((k : Nat) : Int))]) (S' := [ii (hd2 : Int), .ref 102]) dm_X12_laid_202 rfl rfl rfl rfl ?_
                              refine me1 (pc' := 205) (L' := [(0, .ref 102), (1, ii (hd : Int)), (2, ii (hd2 : Int)), (3, ii place), (4, .long (vn v 0)), (6, .long (vn v 1)), (8, ii ((vq w : Nat) : Int)), (9, ii (q : Int)), (10, ii ((k : Nat) : Int))]) (S' := [ii ((k : Nat) : Int), ii (hd2 : Int), .ref 102]) dm_X12_laid_203 rfl rfl rfl rfl ?_
                              refine me1 (pc' := 207) (L' := [(0, .ref 102), (1, ii (hd : Int)), (2, ii (hd2 : Int)), (3, ii place), (4, .long (vn v 0)), (6, .long (vn v 1)), (8, ii ((vq w : Nat) : Int)), (9, ii (q : Int)), (10, ii ((k : Nat) : Int))]) (S' := [ii ((vq w : Nat) : Int), ii ((k : Nat) : Int), ii (hd2 : Int), .ref 102]) dm_X12_laid_205 rfl rfl rfl rfl ?_
                              refine y_irem (a := ((k : Nat) : Int)) (b := ((vq w : Nat) : Int)) dm_X12_laid_207 (pc' := 208) rfl (by omega) (by omega) (by omega) (by omega) ?_
                              refine pg_st (S' := [ii ((k % vq w : Nat) : Int), ii (hd2 : Int), .ref 102]) (congrArg (fun z => ii z :: [ii (hd2 : Int), .ref 102]) (by push_cast; rfl)) ?_
                              refine x_cp (pc' := 211) (v := .long (vn w (k % vq w))) (rest := []) dm_X12_laid_208 rfl (q_inv (As := [ii (hd2 : Int), ii ((k % vq w : Nat) : Int)]) (S := []) hm rfl rfl rfl) rfl rfl rfl (r_number_ (k := k % vq w) hm (by omega) hBT (hwT _ _) (by omega) (by omega)) ?_
                              refine x_cp (pc' := 214) (v := zz (fitsB (vn w (k % vq w)))) (rest := []) dm_X12_laid_211 rfl (g_invs (As := [.long (vn w (k % vq w))]) (S := []) rfl rfl rfl) rfl rfl rfl (r_fits_ (by omega)) ?_
                              refine y_zne (c := fitsB (vn w (k % vq w))) (t := 225) (pc' := 217) dm_X12_laid_214 rfl rfl (fun hb16 => ?_) (fun hb16 => ?_)
                              · have hfb : fitsB (vn w (k % vq w)) = true := hb16
                                refine y_iinc (pc' := 228) (L' := [(10, ii (((k : Nat) : Int) + 1)), (0, .ref 102), (1, ii (hd : Int)), (2, ii (hd2 : Int)), (3, ii place), (4, .long (vn v 0)), (6, .long (vn v 1)), (8, ii ((vq w : Nat) : Int)), (9, ii (q : Int))]) dm_X12_laid_225 (y_incp (a := ((k : Nat) : Int)) (c := 1) rfl rfl (by decide)) rfl ?_
                                refine me2 (pc' := 165) (S' := []) dm_X12_laid_228 rfl rfl rfl ?_
                                exact pg_sub (L := [(0, .ref 102), (1, ii (hd : Int)), (2, ii (hd2 : Int)), (3, ii place), (4, .long (vn v 0)), (6, .long (vn v 1)), (8, ii ((vq w : Nat) : Int)), (9, ii (q : Int)), (10, ii (((k + 1) : Nat) : Int))]) rfl rfl rfl (ih165 ((vn v 0).toInt.toNat * (vn v 1).toInt.toNat - (k + 1)) (by omega) (k + 1) rfl (by omega) (fun j hj => by by_cases z : j = k; (rw [z]; exact fitsB_iff.mp hfb); exact hft j (by omega)))
                              · have hfb : fitsB (vn w (k % vq w)) = false := hb16
                                refine me1 (pc' := 218) (L' := [(0, .ref 102), (1, ii (hd : Int)), (2, ii (hd2 : Int)), (3, ii place), (4, .long (vn v 0)), (6, .long (vn v 1)), (8, ii ((vq w : Nat) : Int)), (9, ii (q : Int)), (10, ii ((k : Nat) : Int))]) (S' := [.ref 102]) dm_X12_laid_217 rfl rfl rfl rfl ?_
                                refine me0 (pc' := 220) (S' := [ii 6, .ref 102]) dm_X12_laid_218 rfl rfl rfl rfl ?_
                                refine me1 (pc' := 221) (L' := [(0, .ref 102), (1, ii (hd : Int)), (2, ii (hd2 : Int)), (3, ii place), (4, .long (vn v 0)), (6, .long (vn v 1)), (8, ii ((vq w : Nat) : Int)), (9, ii (q : Int)), (10, ii ((k : Nat) : Int))]) (S' := [ii place, ii 6, .ref 102]) dm_X12_laid_220 rfl rfl rfl rfl ?_
                                refine x_cv (pc' := 224) (rest := []) dm_X12_laid_221 rfl (q_inv (As := [ii 6, ii place]) (S := []) hm rfl rfl rfl) rfl rfl rfl (r_fail_ (s := (fillS (tabS s q b (((vn v 0).toInt.toNat : Nat) : Int) (((vn v 1).toInt.toNat : Nat) : Int)) b (k + 1) (fun k => vn w (k % vq w)))) hm (by omega) he0 hca.1 hca.2) ?_
                                rintro _ _ ⟨rfl, rfl⟩
                                refine y_ret (r := some (ii (-1))) dm_X12_laid_224 rfl rfl rfl ?_
                                have hno : allF ((vn v 0).toInt.toNat * (vn v 1).toInt.toNat) (fun k => vn w (k % vq w)) = false := by cases hz : allF ((vn v 0).toInt.toNat * (vn v 1).toInt.toNat) (fun k => vn w (k % vq w)) with | false => rfl | true => exact absurd (fitsB_iff.mpr (allF_iff.mp hz k (by omega))) (by show ¬ fitsB (vn w (k % vq w)) = true; rw [hfb]; decide)
                                rw [show d_take v w = .inl 6 from by unfold d_take; rw [if_pos (by omega)]; unfold d_lay; rw [if_neg (by omega), if_neg (by omega), if_neg (by omega), if_pos hno]]
                                exact ⟨_, rfl, rres_failT (rext_fill (rext_tab hq hb (by omega)) (by omega) _) (rfr_tr (rfr_tab s q b _ _) (rfr_fill _ b _ _)) (by show (b : Int) + (((vn v 0).toInt.toNat : Nat) : Int) * (((vn v 1).toInt.toNat : Nat) : Int) ≤ s.1 3 + 144; omega) (by show (q : Int) + 1 ≤ s.1 4 + 1; omega)⟩
                        refine pg_cast (h2 := rI pre post ((fillS (tabS s q b (((vn v 0).toInt.toNat : Nat) : Int) (((vn v 1).toInt.toNat : Nat) : Int)) b 0 (fun k => vn w (k % vq w))).1) ((fillS (tabS s q b (((vn v 0).toInt.toNat : Nat) : Int) (((vn v 1).toInt.toNat : Nat) : Int)) b 0 (fun k => vn w (k % vq w))).2.1) ((fillS (tabS s q b (((vn v 0).toInt.toNat : Nat) : Int) (((vn v 1).toInt.toNat : Nat) : Int)) b 0 (fun k => vn w (k % vq w))).2.2.1) ((fillS (tabS s q b (((vn v 0).toInt.toNat : Nat) : Int) (((vn v 1).toInt.toNat : Nat) : Int)) b 0 (fun k => vn w (k % vq w))).2.2.2)) (fill_0 (tabS s q b (((vn v 0).toInt.toNat : Nat) : Int) (((vn v 1).toInt.toNat : Nat) : Int)) b (fun k => vn w (k % vq w))) ?_
                        exact pg_sub (L := [(0, .ref 102), (1, ii (hd : Int)), (2, ii (hd2 : Int)), (3, ii place), (4, .long (vn v 0)), (6, .long (vn v 1)), (8, ii ((vq w : Nat) : Int)), (9, ii (q : Int)), (10, ii ((0 : Nat) : Int))]) rfl rfl rfl (lp165 _ 0 rfl (Nat.zero_le _) (fun j hj => absurd hj (Nat.not_lt_zero j)))
                      · refine me1 (pc' := 144) (L' := [(8, ii ((vq w : Nat) : Int)), (6, .long (vn v 1)), (4, .long (vn v 0)), (0, .ref 102), (1, ii (hd : Int)), (2, ii (hd2 : Int)), (3, ii place)]) (S' := [.ref 102]) dm_X12_laid_143 rfl rfl rfl rfl ?_
                        refine me0 (pc' := 145) (S' := [ii 4, .ref 102]) dm_X12_laid_144 rfl rfl rfl rfl ?_
                        refine me1 (pc' := 146) (L' := [(8, ii ((vq w : Nat) : Int)), (6, .long (vn v 1)), (4, .long (vn v 0)), (0, .ref 102), (1, ii (hd : Int)), (2, ii (hd2 : Int)), (3, ii place)]) (S' := [ii place, ii 4, .ref 102]) dm_X12_laid_145 rfl rfl rfl rfl ?_
                        refine x_cv (pc' := 149) (rest := []) dm_X12_laid_146 rfl (q_inv (As := [ii 4, ii place]) (S := []) hm rfl rfl rfl) rfl rfl rfl (r_fail_ (s := s) hm (by omega) he0 hca.1 hca.2) ?_
                        rintro _ _ ⟨rfl, rfl⟩
                        refine y_ret (r := some (ii (-1))) dm_X12_laid_149 rfl rfl rfl ?_
                        rw [show d_take v w = .inl 4 from by unfold d_take; rw [if_pos (by omega)]; unfold d_lay; rw [if_neg (by omega), if_neg (by omega), if_pos (by omega)]]
                        exact ⟨_, rfl, rres_fail (rpre_rf s) he0⟩
                  · refine me1 (pc' := 101) (L' := [(6, .long (vn v 1)), (4, .long (vn v 0)), (0, .ref 102), (1, ii (hd : Int)), (2, ii (hd2 : Int)), (3, ii place)]) (S' := [.ref 102]) dm_X12_laid_100 rfl rfl rfl rfl ?_
                    refine me0 (pc' := 102) (S' := [ii 5, .ref 102]) dm_X12_laid_101 rfl rfl rfl rfl ?_
                    refine me1 (pc' := 103) (L' := [(6, .long (vn v 1)), (4, .long (vn v 0)), (0, .ref 102), (1, ii (hd : Int)), (2, ii (hd2 : Int)), (3, ii place)]) (S' := [ii place, ii 5, .ref 102]) dm_X12_laid_102 rfl rfl rfl rfl ?_
                    refine x_cv (pc' := 106) (rest := []) dm_X12_laid_103 rfl (q_inv (As := [ii 5, ii place]) (S := []) hm rfl rfl rfl) rfl rfl rfl (r_fail_ (s := s) hm (by omega) he0 hca.1 hca.2) ?_
                    rintro _ _ ⟨rfl, rfl⟩
                    refine y_ret (r := some (ii (-1))) dm_X12_laid_106 rfl rfl rfl ?_
                    rw [show d_take v w = .inl 5 from by unfold d_take; rw [if_pos (by omega)]; unfold d_lay; rw [if_neg (by omega), if_pos (by omega)]]
                    exact ⟨_, rfl, rres_fail (rpre_rf s) he0⟩
      · refine me1 (pc' := 28) (L' := [(0, .ref 102), (1, ii (hd : Int)), (2, ii (hd2 : Int)), (3, ii place)]) (S' := [.ref 102]) dm_X12_laid_27 rfl rfl rfl rfl ?_
        refine me0 (pc' := 29) (S' := [ii 3, .ref 102]) dm_X12_laid_28 rfl rfl rfl rfl ?_
        refine me1 (pc' := 30) (L' := [(0, .ref 102), (1, ii (hd : Int)), (2, ii (hd2 : Int)), (3, ii place)]) (S' := [ii place, ii 3, .ref 102]) dm_X12_laid_29 rfl rfl rfl rfl ?_
        refine x_cv (pc' := 33) (rest := []) dm_X12_laid_30 rfl (q_inv (As := [ii 3, ii place]) (S := []) hm rfl rfl rfl) rfl rfl rfl (r_fail_ (s := s) hm (by omega) he0 hca.1 hca.2) ?_
        rintro _ _ ⟨rfl, rfl⟩
        refine y_ret (r := some (ii (-1))) dm_X12_laid_33 rfl rfl rfl ?_
        rw [show d_take v w = .inl 3 from by first | (unfold d_take; rw [if_neg (by omega), if_pos (by omega)]; done) | (unfold d_take; rw [if_pos (by omega)]; unfold d_lay; rw [if_pos (by omega)])]
        exact ⟨_, rfl, rres_fail (rpre_rf s) he0⟩
