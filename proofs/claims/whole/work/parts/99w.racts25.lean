set_option maxRecDepth 20000 in
theorem pm_X12_through : mj_mmof pg_ms 283 = some ((⟨"ArrayCalculatorModel", "through", "(III)I"⟩, prog_14_method_31_code, 10, (Option.some Jvm.ClassFile.FieldType.int)), 12, false, mj_dec prog_14_method_31_code) := rfl
theorem dm_X12_through_0 : mj_dec prog_14_method_31_code 0 = some (.aload_n 0, 1) := by decide +kernel
theorem dm_X12_through_1 : mj_dec prog_14_method_31_code 1 = some (.iload_n 2, 1) := by decide +kernel
theorem dm_X12_through_2 : mj_dec prog_14_method_31_code 2 = some (.invokevirtual 146, 3) := by decide +kernel
theorem dm_X12_through_5 : mj_dec prog_14_method_31_code 5 = some (.istore 4, 2) := by decide +kernel
theorem dm_X12_through_7 : mj_dec prog_14_method_31_code 7 = some (.iload 4, 2) := by decide +kernel
theorem dm_X12_through_9 : mj_dec prog_14_method_31_code 9 = some (.iconst 1, 1) := by decide +kernel
theorem dm_X12_through_10 : mj_dec prog_14_method_31_code 10 = some (.if_icmp .eq 17, 3) := by decide +kernel
theorem dm_X12_through_13 : mj_dec prog_14_method_31_code 13 = some (.iload 4, 2) := by decide +kernel
theorem dm_X12_through_15 : mj_dec prog_14_method_31_code 15 = some (.iconst 3, 1) := by decide +kernel
theorem dm_X12_through_16 : mj_dec prog_14_method_31_code 16 = some (.if_icmp .ne 18, 3) := by decide +kernel
theorem dm_X12_through_19 : mj_dec prog_14_method_31_code 19 = some (.aload_n 0, 1) := by decide +kernel
theorem dm_X12_through_20 : mj_dec prog_14_method_31_code 20 = some (.iload_n 2, 1) := by decide +kernel
theorem dm_X12_through_21 : mj_dec prog_14_method_31_code 21 = some (.invokevirtual 134, 3) := by decide +kernel
theorem dm_X12_through_24 : mj_dec prog_14_method_31_code 24 = some (.ifCond .le 10, 3) := by decide +kernel
theorem dm_X12_through_34 : mj_dec prog_14_method_31_code 34 = some (.iload 4, 2) := by decide +kernel
theorem dm_X12_through_36 : mj_dec prog_14_method_31_code 36 = some (.bipush 6, 2) := by decide +kernel
theorem dm_X12_through_38 : mj_dec prog_14_method_31_code 38 = some (.if_icmp .ne 17, 3) := by decide +kernel
theorem dm_X12_through_41 : mj_dec prog_14_method_31_code 41 = some (.aload_n 0, 1) := by decide +kernel
theorem dm_X12_through_42 : mj_dec prog_14_method_31_code 42 = some (.iload_n 2, 1) := by decide +kernel
theorem dm_X12_through_43 : mj_dec prog_14_method_31_code 43 = some (.invokevirtual 134, 3) := by decide +kernel
theorem dm_X12_through_46 : mj_dec prog_14_method_31_code 46 = some (.aload_n 0, 1) := by decide +kernel
theorem dm_X12_through_47 : mj_dec prog_14_method_31_code 47 = some (.iload_n 2, 1) := by decide +kernel
theorem dm_X12_through_48 : mj_dec prog_14_method_31_code 48 = some (.invokevirtual 156, 3) := by decide +kernel
theorem dm_X12_through_51 : mj_dec prog_14_method_31_code 51 = some (.imul, 1) := by decide +kernel
theorem dm_X12_through_52 : mj_dec prog_14_method_31_code 52 = some (.goto 8, 3) := by decide +kernel
theorem dm_X12_through_60 : mj_dec prog_14_method_31_code 60 = some (.istore 5, 2) := by decide +kernel
theorem dm_X12_through_62 : mj_dec prog_14_method_31_code 62 = some (.iload 4, 2) := by decide +kernel
theorem dm_X12_through_64 : mj_dec prog_14_method_31_code 64 = some (.bipush 6, 2) := by decide +kernel
theorem dm_X12_through_66 : mj_dec prog_14_method_31_code 66 = some (.if_icmp .ne 20, 3) := by decide +kernel
theorem dm_X12_through_69 : mj_dec prog_14_method_31_code 69 = some (.aload_n 0, 1) := by decide +kernel
theorem dm_X12_through_70 : mj_dec prog_14_method_31_code 70 = some (.aload_n 0, 1) := by decide +kernel
theorem dm_X12_through_71 : mj_dec prog_14_method_31_code 71 = some (.iload_n 2, 1) := by decide +kernel
theorem dm_X12_through_72 : mj_dec prog_14_method_31_code 72 = some (.invokevirtual 134, 3) := by decide +kernel
theorem dm_X12_through_75 : mj_dec prog_14_method_31_code 75 = some (.aload_n 0, 1) := by decide +kernel
theorem dm_X12_through_76 : mj_dec prog_14_method_31_code 76 = some (.iload_n 2, 1) := by decide +kernel
theorem dm_X12_through_77 : mj_dec prog_14_method_31_code 77 = some (.invokevirtual 156, 3) := by decide +kernel
theorem dm_X12_through_80 : mj_dec prog_14_method_31_code 80 = some (.invokevirtual 255, 3) := by decide +kernel
theorem dm_X12_through_83 : mj_dec prog_14_method_31_code 83 = some (.goto 41, 3) := by decide +kernel
theorem dm_X12_through_124 : mj_dec prog_14_method_31_code 124 = some (.istore 6, 2) := by decide +kernel
theorem dm_X12_through_126 : mj_dec prog_14_method_31_code 126 = some (.iconst 0, 1) := by decide +kernel
theorem dm_X12_through_127 : mj_dec prog_14_method_31_code 127 = some (.istore 7, 2) := by decide +kernel
theorem dm_X12_through_129 : mj_dec prog_14_method_31_code 129 = some (.iload 7, 2) := by decide +kernel
theorem dm_X12_through_131 : mj_dec prog_14_method_31_code 131 = some (.iload 5, 2) := by decide +kernel
theorem dm_X12_through_133 : mj_dec prog_14_method_31_code 133 = some (.if_icmp .ge 123, 3) := by decide +kernel
theorem dm_X12_through_136 : mj_dec prog_14_method_31_code 136 = some (.aload_n 0, 1) := by decide +kernel
theorem dm_X12_through_137 : mj_dec prog_14_method_31_code 137 = some (.getfield 181, 3) := by decide +kernel
theorem dm_X12_through_140 : mj_dec prog_14_method_31_code 140 = some (.ifCond .ne 116, 3) := by decide +kernel
theorem dm_X12_through_143 : mj_dec prog_14_method_31_code 143 = some (.iload 4, 2) := by decide +kernel
theorem dm_X12_through_145 : mj_dec prog_14_method_31_code 145 = some (.bipush 7, 2) := by decide +kernel
theorem dm_X12_through_147 : mj_dec prog_14_method_31_code 147 = some (.if_icmp .ne 35, 3) := by decide +kernel
theorem dm_X12_through_182 : mj_dec prog_14_method_31_code 182 = some (.iload_n 1, 1) := by decide +kernel
theorem dm_X12_through_183 : mj_dec prog_14_method_31_code 183 = some (.aload_n 0, 1) := by decide +kernel
theorem dm_X12_through_184 : mj_dec prog_14_method_31_code 184 = some (.iload_n 2, 1) := by decide +kernel
theorem dm_X12_through_185 : mj_dec prog_14_method_31_code 185 = some (.iload 7, 2) := by decide +kernel
theorem dm_X12_through_187 : mj_dec prog_14_method_31_code 187 = some (.invokevirtual 138, 3) := by decide +kernel
theorem dm_X12_through_190 : mj_dec prog_14_method_31_code 190 = some (.invokestatic 258, 3) := by decide +kernel
theorem dm_X12_through_193 : mj_dec prog_14_method_31_code 193 = some (.lstore 8, 2) := by decide +kernel
theorem dm_X12_through_195 : mj_dec prog_14_method_31_code 195 = some (.iload_n 1, 1) := by decide +kernel
theorem dm_X12_through_196 : mj_dec prog_14_method_31_code 196 = some (.bipush 45, 2) := by decide +kernel
theorem dm_X12_through_198 : mj_dec prog_14_method_31_code 198 = some (.if_icmp .ne 12, 3) := by decide +kernel
theorem dm_X12_through_201 : mj_dec prog_14_method_31_code 201 = some (.lload 8, 2) := by decide +kernel
theorem dm_X12_through_203 : mj_dec prog_14_method_31_code 203 = some (.ldc2_w 262, 3) := by decide +kernel
theorem dm_X12_through_206 : mj_dec prog_14_method_31_code 206 = some (.lcmp, 1) := by decide +kernel
theorem dm_X12_through_207 : mj_dec prog_14_method_31_code 207 = some (.ifCond .eq 18, 3) := by decide +kernel
theorem dm_X12_through_210 : mj_dec prog_14_method_31_code 210 = some (.iload 4, 2) := by decide +kernel
theorem dm_X12_through_212 : mj_dec prog_14_method_31_code 212 = some (.bipush 6, 2) := by decide +kernel
theorem dm_X12_through_214 : mj_dec prog_14_method_31_code 214 = some (.if_icmp .ne 19, 3) := by decide +kernel
theorem dm_X12_through_217 : mj_dec prog_14_method_31_code 217 = some (.lload 8, 2) := by decide +kernel
theorem dm_X12_through_219 : mj_dec prog_14_method_31_code 219 = some (.invokestatic 142, 3) := by decide +kernel
theorem dm_X12_through_222 : mj_dec prog_14_method_31_code 222 = some (.ifCond .ne 11, 3) := by decide +kernel
theorem dm_X12_through_225 : mj_dec prog_14_method_31_code 225 = some (.aload_n 0, 1) := by decide +kernel
theorem dm_X12_through_226 : mj_dec prog_14_method_31_code 226 = some (.bipush 6, 2) := by decide +kernel
theorem dm_X12_through_228 : mj_dec prog_14_method_31_code 228 = some (.iload_n 3, 1) := by decide +kernel
theorem dm_X12_through_229 : mj_dec prog_14_method_31_code 229 = some (.invokevirtual 190, 3) := by decide +kernel
theorem dm_X12_through_232 : mj_dec prog_14_method_31_code 232 = some (.ireturn, 1) := by decide +kernel
theorem dm_X12_through_233 : mj_dec prog_14_method_31_code 233 = some (.aload_n 0, 1) := by decide +kernel
theorem dm_X12_through_234 : mj_dec prog_14_method_31_code 234 = some (.getfield 8, 3) := by decide +kernel
theorem dm_X12_through_237 : mj_dec prog_14_method_31_code 237 = some (.aload_n 0, 1) := by decide +kernel
theorem dm_X12_through_238 : mj_dec prog_14_method_31_code 238 = some (.getfield 15, 3) := by decide +kernel
theorem dm_X12_through_241 : mj_dec prog_14_method_31_code 241 = some (.iload 6, 2) := by decide +kernel
theorem dm_X12_through_243 : mj_dec prog_14_method_31_code 243 = some (.iaload, 1) := by decide +kernel
theorem dm_X12_through_244 : mj_dec prog_14_method_31_code 244 = some (.iload 7, 2) := by decide +kernel
theorem dm_X12_through_246 : mj_dec prog_14_method_31_code 246 = some (.iadd, 1) := by decide +kernel
theorem dm_X12_through_247 : mj_dec prog_14_method_31_code 247 = some (.lload 8, 2) := by decide +kernel
theorem dm_X12_through_249 : mj_dec prog_14_method_31_code 249 = some (.lastore, 1) := by decide +kernel
theorem dm_X12_through_250 : mj_dec prog_14_method_31_code 250 = some (.iinc 7 1, 3) := by decide +kernel
theorem dm_X12_through_253 : mj_dec prog_14_method_31_code 253 = some (.goto (-124), 3) := by decide +kernel
theorem dm_X12_through_256 : mj_dec prog_14_method_31_code 256 = some (.aload_n 0, 1) := by decide +kernel
theorem dm_X12_through_257 : mj_dec prog_14_method_31_code 257 = some (.iload 6, 2) := by decide +kernel
theorem dm_X12_through_259 : mj_dec prog_14_method_31_code 259 = some (.invokevirtual 146, 3) := by decide +kernel
theorem dm_X12_through_262 : mj_dec prog_14_method_31_code 262 = some (.iconst 5, 1) := by decide +kernel
theorem dm_X12_through_263 : mj_dec prog_14_method_31_code 263 = some (.if_icmp .ne 12, 3) := by decide +kernel
theorem dm_X12_through_275 : mj_dec prog_14_method_31_code 275 = some (.iload 6, 2) := by decide +kernel
theorem dm_X12_through_277 : mj_dec prog_14_method_31_code 277 = some (.ireturn, 1) := by decide +kernel
theorem r_thrT {vb : Int} {xt : mj_X} {d e hd q b : Nat} {pre post : mj_H} {s : RS} {v : VV} {place : Int} (hm : pre.length = 102) (hd1 : 6 ≤ d) (hB : rB s) (hv : rv s (e + 1) hd v) (hh3 : 3 ≤ hd) (hq : s.1 4 = (q : Int)) (hb : s.1 3 = (b : Int)) (hq3 : 3 ≤ q) (hV2 : q < 310000) (he0 : s.1 5 = 0) (hca : 0 ≤ s.1 10 ∧ s.1 10 ≤ 100) (hC : b + 300 ≤ 820000) (hvb : vb = 45 ∨ vb = 37 ∨ vb = 126) (hf6 : vk v = 6) : pgV xt d 283 [.ref 102, ii vb, ii (hd : Int), ii place] (rS pre post s) (rresN pre post s (e + 1) (pfl (vbo vb) z0 v) place (vq v) 1) := by
  have hB0 := hB
  obtain ⟨hB1, hB2, hB3, hB4⟩ := hB
  obtain ⟨fr, hfr, hsh, hlt, hcl, hvk, hvm, hvc, hvq, hvcl⟩ := rv_val hv
  have hcv := vw1_c hv.1
  have hlk : lkV z0 v = v := by unfold lkV; exact if_pos (by show 0 ≤ 1; omega)
  have hlq : vq (lkV z0 v) = (vm v * vc v) := by rw [hlk]; exact vq_tb (by omega)
  have hqL : vq v = (vm v * vc v) := by rw [← hlq, hlk]
  have haz : askF z0 v = 0 := by unfold askF; exact if_pos (Or.inl (by show 0 ≤ 1; omega))
  have hN144 : (vm v * vc v) ≤ 144 := by rw [← hqL]; exact vq_le hv.1
  have hNI : (vm v : Int) * (vc v : Int) = ((vm v * vc v : Nat) : Int) := by push_cast; rfl
  refine x_enter pm_X12_through (L0 := [(0, .ref 102), (1, ii vb), (2, ii (hd : Int)), (3, ii place)]) rfl (Nat.le_of_ble_eq_true rfl) (by omega) ?_
  refine me1 (pc' := 1) (L' := [(0, .ref 102), (1, ii vb), (2, ii (hd : Int)), (3, ii place)]) (S' := [.ref 102]) dm_X12_through_0 rfl rfl rfl rfl ?_
  refine me1 (pc' := 2) (L' := [(0, .ref 102), (1, ii vb), (2, ii (hd : Int)), (3, ii place)]) (S' := [ii (hd : Int), .ref 102]) dm_X12_through_1 rfl rfl rfl rfl ?_
  refine x_cp (pc' := 5) (v := ii (vk v : Int)) (rest := []) dm_X12_through_2 rfl (q_inv (As := [ii (hd : Int)]) (S := []) hm rfl rfl rfl) rfl rfl rfl (r_kindOf_ hm (by omega) hB0 hv) ?_
  refine me1 (pc' := 7) (L' := [(4, ii (vk v : Int)), (0, .ref 102), (1, ii vb), (2, ii (hd : Int)), (3, ii place)]) (S' := []) dm_X12_through_5 rfl rfl rfl rfl ?_
  refine me1 (pc' := 9) (L' := [(4, ii (vk v : Int)), (0, .ref 102), (1, ii vb), (2, ii (hd : Int)), (3, ii place)]) (S' := [ii (vk v : Int)]) dm_X12_through_7 rfl rfl rfl rfl ?_
  refine me0 (pc' := 10) (S' := [ii 1, ii (vk v : Int)]) dm_X12_through_9 rfl rfl rfl rfl ?_
  refine y_2eq (a := (vk v : Int)) (b := 1) (t := 27) (pc' := 13) dm_X12_through_10 rfl rfl (by omega) (fun hb1 => ?_) (fun hb1 => ?_)
  · exfalso; omega
  · refine me1 (pc' := 15) (L' := [(4, ii (vk v : Int)), (0, .ref 102), (1, ii vb), (2, ii (hd : Int)), (3, ii place)]) (S' := [ii (vk v : Int)]) dm_X12_through_13 rfl rfl rfl rfl ?_
    refine me0 (pc' := 16) (S' := [ii 3, ii (vk v : Int)]) dm_X12_through_15 rfl rfl rfl rfl ?_
    refine y_2ne (a := (vk v : Int)) (b := 3) (t := 34) (pc' := 19) dm_X12_through_16 rfl rfl (by omega) (fun hb2 => ?_) (fun hb2 => ?_)
    · refine me1 (pc' := 36) (L' := [(4, ii (vk v : Int)), (0, .ref 102), (1, ii vb), (2, ii (hd : Int)), (3, ii place)]) (S' := [ii (vk v : Int)]) dm_X12_through_34 rfl rfl rfl rfl ?_
      refine me0 (pc' := 38) (S' := [ii 6, ii (vk v : Int)]) dm_X12_through_36 rfl rfl rfl rfl ?_
      refine y_2ne (a := (vk v : Int)) (b := 6) (t := 55) (pc' := 41) dm_X12_through_38 rfl rfl (by omega) (fun hb3 => ?_) (fun hb3 => ?_)
      · exfalso; omega
      · refine me1 (pc' := 42) (L' := [(4, ii (vk v : Int)), (0, .ref 102), (1, ii vb), (2, ii (hd : Int)), (3, ii place)]) (S' := [.ref 102]) dm_X12_through_41 rfl rfl rfl rfl ?_
        refine me1 (pc' := 43) (L' := [(4, ii (vk v : Int)), (0, .ref 102), (1, ii vb), (2, ii (hd : Int)), (3, ii place)]) (S' := [ii (hd : Int), .ref 102]) dm_X12_through_42 rfl rfl rfl rfl ?_
        refine x_cp (pc' := 46) (v := ii (vm v : Int)) (rest := []) dm_X12_through_43 rfl (q_inv (As := [ii (hd : Int)]) (S := []) hm rfl rfl rfl) rfl rfl rfl (r_many_ hm (by omega) hB0 hv) ?_
        refine me1 (pc' := 47) (L' := [(4, ii (vk v : Int)), (0, .ref 102), (1, ii vb), (2, ii (hd : Int)), (3, ii place)]) (S' := [.ref 102, ii (vm v : Int)]) dm_X12_through_46 rfl rfl rfl rfl ?_
        refine me1 (pc' := 48) (L' := [(4, ii (vk v : Int)), (0, .ref 102), (1, ii vb), (2, ii (hd : Int)), (3, ii place)]) (S' := [ii (hd : Int), .ref 102, ii (vm v : Int)]) dm_X12_through_47 rfl rfl rfl rfl ?_
        refine x_cp (pc' := 51) (v := ii (vc v : Int)) (rest := [ii (vm v : Int)]) dm_X12_through_48 rfl (q_inv (As := [ii (hd : Int)]) (S := [ii (vm v : Int)]) hm rfl rfl rfl) rfl rfl rfl (r_columns_ hm (by omega) hB0 hv) ?_
        refine y_imul (a := (vm v : Int)) (b := (vc v : Int)) dm_X12_through_51 (pc' := 52) rfl ?_
        refine me2 (pc' := 60) (S' := [ii ((vm v : Int) * (vc v : Int))]) dm_X12_through_52 rfl rfl rfl ?_
        refine pg_st (S' := [ii ((vm v * vc v : Nat) : Int)]) (congrArg (fun z => ii z :: []) (by push_cast; rfl)) ?_
        refine me1 (pc' := 62) (L' := [(5, ii ((vm v * vc v : Nat) : Int)), (4, ii (vk v : Int)), (0, .ref 102), (1, ii vb), (2, ii (hd : Int)), (3, ii place)]) (S' := []) dm_X12_through_60 rfl rfl rfl rfl ?_
        refine me1 (pc' := 64) (L' := [(5, ii ((vm v * vc v : Nat) : Int)), (4, ii (vk v : Int)), (0, .ref 102), (1, ii vb), (2, ii (hd : Int)), (3, ii place)]) (S' := [ii (vk v : Int)]) dm_X12_through_62 rfl rfl rfl rfl ?_
        refine me0 (pc' := 66) (S' := [ii 6, ii (vk v : Int)]) dm_X12_through_64 rfl rfl rfl rfl ?_
        refine y_2ne (a := (vk v : Int)) (b := 6) (t := 86) (pc' := 69) dm_X12_through_66 rfl rfl (by omega) (fun hb4 => ?_) (fun hb4 => ?_)
        · exfalso; omega
        · refine me1 (pc' := 70) (L' := [(5, ii ((vm v * vc v : Nat) : Int)), (4, ii (vk v : Int)), (0, .ref 102), (1, ii vb), (2, ii (hd : Int)), (3, ii place)]) (S' := [.ref 102]) dm_X12_through_69 rfl rfl rfl rfl ?_
          refine me1 (pc' := 71) (L' := [(5, ii ((vm v * vc v : Nat) : Int)), (4, ii (vk v : Int)), (0, .ref 102), (1, ii vb), (2, ii (hd : Int)), (3, ii place)]) (S' := [.ref 102, .ref 102]) dm_X12_through_70 rfl rfl rfl rfl ?_
          refine me1 (pc' := 72) (L' := [(5, ii ((vm v * vc v : Nat) : Int)), (4, ii (vk v : Int)), (0, .ref 102), (1, ii vb), (2, ii (hd : Int)), (3, ii place)]) (S' := [ii (hd : Int), .ref 102, .ref 102]) dm_X12_through_71 rfl rfl rfl rfl ?_
          refine x_cp (pc' := 75) (v := ii (vm v : Int)) (rest := [.ref 102]) dm_X12_through_72 rfl (q_inv (As := [ii (hd : Int)]) (S := [.ref 102]) hm rfl rfl rfl) rfl rfl rfl (r_many_ hm (by omega) hB0 hv) ?_
          refine me1 (pc' := 76) (L' := [(5, ii ((vm v * vc v : Nat) : Int)), (4, ii (vk v : Int)), (0, .ref 102), (1, ii vb), (2, ii (hd : Int)), (3, ii place)]) (S' := [.ref 102, ii (vm v : Int), .ref 102]) dm_X12_through_75 rfl rfl rfl rfl ?_
          refine me1 (pc' := 77) (L' := [(5, ii ((vm v * vc v : Nat) : Int)), (4, ii (vk v : Int)), (0, .ref 102), (1, ii vb), (2, ii (hd : Int)), (3, ii place)]) (S' := [ii (hd : Int), .ref 102, ii (vm v : Int), .ref 102]) dm_X12_through_76 rfl rfl rfl rfl ?_
          refine x_cp (pc' := 80) (v := ii (vc v : Int)) (rest := [ii (vm v : Int), .ref 102]) dm_X12_through_77 rfl (q_inv (As := [ii (hd : Int)]) (S := [ii (vm v : Int), .ref 102]) hm rfl rfl rfl) rfl rfl rfl (r_columns_ hm (by omega) hB0 hv) ?_
          refine x_cv (pc' := 83) (rest := []) dm_X12_through_80 rfl (q_inv (As := [ii (vm v : Int), ii (vc v : Int)]) (S := []) hm rfl rfl rfl) rfl rfl rfl (r_table_ (q := q) (b := b) (s := s) hm (by omega) hq hb (by omega) (by omega) (by omega)) ?_
          rintro _ _ ⟨rfl, rfl⟩
          refine me2 (pc' := 124) (S' := [ii (q : Int)]) dm_X12_through_83 rfl rfl rfl ?_
          refine me1 (pc' := 126) (L' := [(6, ii (q : Int)), (5, ii ((vm v * vc v : Nat) : Int)), (4, ii (vk v : Int)), (0, .ref 102), (1, ii vb), (2, ii (hd : Int)), (3, ii place)]) (S' := []) dm_X12_through_124 rfl rfl rfl rfl ?_
          have hxT : rext s (tabS s q b (vm v : Int) (vc v : Int)) := rext_tab hq hb (by omega)
          have hBT : rB (tabS s q b (vm v : Int) (vc v : Int)) := ⟨by show 3 ≤ (q : Int) + 1; omega, by show (q : Int) + 1 ≤ 310000; omega, by show 0 ≤ (b : Int) + (vm v : Int) * (vc v : Int); omega, by show (b : Int) + (vm v : Int) * (vc v : Int) ≤ 820000; omega⟩
          have hvT : ∀ (k : Nat) (F : Nat → Int64), rv (fillS (tabS s q b (vm v : Int) (vc v : Int)) b k F) (e + 1) hd v := fun k F => rv_ext (rext_fill hxT (by omega) F) hh3 hv
          refine me0 (pc' := 127) (S' := [ii 0]) dm_X12_through_126 rfl rfl rfl rfl ?_
          refine me1 (pc' := 129) (L' := [(7, ii 0), (6, ii (q : Int)), (5, ii ((vm v * vc v : Nat) : Int)), (4, ii (vk v : Int)), (0, .ref 102), (1, ii vb), (2, ii (hd : Int)), (3, ii place)]) (S' := []) dm_X12_through_127 rfl rfl rfl rfl ?_
          have lp129 : ∀ (n129 : Nat) (k : Nat), (vm v * vc v) - k = n129 → (k ≤ (vm v * vc v)) → (errs (fun j => (outT (vbo vb) z0 v (lkV z0 v) j).1) k = 0) → pgE xt (d - 1) 12 10 false (Option.some Jvm.ClassFile.FieldType.int) (mj_dec prog_14_method_31_code) 129 [(0, .ref 102), (1, ii vb), (2, ii (hd : Int)), (3, ii place), (4, ii (vk v : Int)), (5, ii ((vm v * vc v : Nat) : Int)), (6, ii (q : Int)), (7, ii ((k : Nat) : Int))] [] (rI pre post ((fillS (tabS s q b (vm v : Int) (vc v : Int)) b k (flG (vbo vb) z0 v)).1) ((fillS (tabS s q b (vm v : Int) (vc v : Int)) b k (flG (vbo vb) z0 v)).2.1) ((fillS (tabS s q b (vm v : Int) (vc v : Int)) b k (flG (vbo vb) z0 v)).2.2.1) ((fillS (tabS s q b (vm v : Int) (vc v : Int)) b k (flG (vbo vb) z0 v)).2.2.2)) (fun r h' => ∃ x, r = some x ∧ rresN pre post s (e + 1) (pfl (vbo vb) z0 v) place (vq v) 1 x h') := by
            intro n129
            induction n129 using Nat.strongRecOn with
            | ind n129 ih129 =>
              intro k hm129 hk hes
              refine me1 (pc' := 131) (L' := [(0, .ref 102), (1, ii vb), (2, ii (hd : Int)), (3, ii place), (4, ii (vk v : Int)), (5, ii ((vm v * vc v : Nat) : Int)), (6, ii (q : Int)), (7, ii ((k : Nat) : Int))]) (S' := [ii ((k : Nat) : Int)]) dm_X12_through_129 rfl rfl rfl rfl ?_
              refine me1 (pc' := 133) (L' := [(0, .ref 102), (1, ii vb), (2, ii (hd : Int)), (3, ii place), (4, ii (vk v : Int)), (5, ii ((vm v * vc v : Nat) : Int)), (6, ii (q : Int)), (7, ii ((k : Nat) : Int))]) (S' := [ii ((vm v * vc v : Nat) : Int), ii ((k : Nat) : Int)]) dm_X12_through_131 rfl rfl rfl rfl ?_
              refine y_2ge (a := ((k : Nat) : Int)) (b := ((vm v * vc v : Nat) : Int)) (t := 256) (pc' := 136) dm_X12_through_133 rfl rfl (by omega) (fun hb5 => ?_) (fun hb5 => ?_)
              · refine me1 (pc' := 257) (L' := [(0, .ref 102), (1, ii vb), (2, ii (hd : Int)), (3, ii place), (4, ii (vk v : Int)), (5, ii ((vm v * vc v : Nat) : Int)), (6, ii (q : Int)), (7, ii ((k : Nat) : Int))]) (S' := [.ref 102]) dm_X12_through_256 rfl rfl rfl rfl ?_
                refine me1 (pc' := 259) (L' := [(0, .ref 102), (1, ii vb), (2, ii (hd : Int)), (3, ii place), (4, ii (vk v : Int)), (5, ii ((vm v * vc v : Nat) : Int)), (6, ii (q : Int)), (7, ii ((k : Nat) : Int))]) (S' := [ii (q : Int), .ref 102]) dm_X12_through_257 rfl rfl rfl rfl ?_
                refine x_cp (pc' := 262) (v := ii 6) (rest := []) dm_X12_through_259 rfl (q_inv (As := [ii (q : Int)]) (S := []) hm rfl rfl rfl) rfl rfl rfl (r_kindRaw_ (s := (fillS (tabS s q b (vm v : Int) (vc v : Int)) b k (flG (vbo vb) z0 v))) (kd := 6) (z := (vm v : Int) + 256 * (vc v : Int)) hm (by omega) (by omega) (by show va_up (s.2.2.1 2) q (6 + (vm v : Int) * 8 + (vc v : Int) * 2048) q = _; rw [up_eq]; omega) (by decide) (by omega)) ?_
                refine me0 (pc' := 263) (S' := [ii 5, ii 6]) dm_X12_through_262 rfl rfl rfl rfl ?_
                refine me_2t (pc' := 275) dm_X12_through_263 rfl (by decide) ?_
                refine me1 (pc' := 277) (L' := [(0, .ref 102), (1, ii vb), (2, ii (hd : Int)), (3, ii place), (4, ii (vk v : Int)), (5, ii ((vm v * vc v : Nat) : Int)), (6, ii (q : Int)), (7, ii ((k : Nat) : Int))]) (S' := [ii (q : Int)]) dm_X12_through_275 rfl rfl rfl rfl ?_
                refine y_ret (r := some (ii (q : Int))) dm_X12_through_277 rfl rfl rfl ?_
                have hkN : k = (vm v * vc v) := by omega
                rw [hkN] at hes
                rw [hkN]
                have hall := errs_all hes
                rw [pfl_v haz (by rw [hlq]; exact hes)]
                rw [show flV (vbo vb) z0 v = vtab (vm v) (vc v) (flG (vbo vb) z0 v) by unfold flV; rw [hlk, if_neg (by omega), if_pos (by omega)]]
                exact ⟨_, rfl, rresN_mk (rext_fill hxT (by omega) _) (rfr_tr (rfr_tab s q b _ _) (rfr_fill _ _ _ _)) (by show (b : Int) + (vm v : Int) * (vc v : Int) ≤ _; omega) (by show (q : Int) + 1 ≤ _; omega) he0 rfl hq3 (by rw [hb]; exact rvN_tabS hq3 (vw1_tab (by omega) (by omega) (by omega) (by omega) (fun j hj => outT_fit (hall j hj) (by rw [hlk]; omega))) rfl rfl rfl (fun _ _ => rfl))⟩
              · refine me1 (pc' := 137) (L' := [(0, .ref 102), (1, ii vb), (2, ii (hd : Int)), (3, ii place), (4, ii (vk v : Int)), (5, ii ((vm v * vc v : Nat) : Int)), (6, ii (q : Int)), (7, ii ((k : Nat) : Int))]) (S' := [.ref 102]) dm_X12_through_136 rfl rfl rfl rfl ?_
                refine me3 (pc' := 140) (S' := [ii (((fillS (tabS s q b (vm v : Int) (vc v : Int)) b k (flG (vbo vb) z0 v)).1) 5)]) dm_X12_through_137 (q_geti (v := ((fillS (tabS s q b (vm v : Int) (vc v : Int)) b k (flG (vbo vb) z0 v)).1) 5) hm rfl (fun m i l => rg_5 m i l) rfl) rfl rfl rfl ?_
                refine pg_st (S' := [ii 0]) (congrArg (fun z => ii z :: []) (he0)) ?_
                refine me_1f (pc' := 143) dm_X12_through_140 rfl (by decide) rfl ?_
                refine me1 (pc' := 145) (L' := [(0, .ref 102), (1, ii vb), (2, ii (hd : Int)), (3, ii place), (4, ii (vk v : Int)), (5, ii ((vm v * vc v : Nat) : Int)), (6, ii (q : Int)), (7, ii ((k : Nat) : Int))]) (S' := [ii (vk v : Int)]) dm_X12_through_143 rfl rfl rfl rfl ?_
                refine me0 (pc' := 147) (S' := [ii 7, ii (vk v : Int)]) dm_X12_through_145 rfl rfl rfl rfl ?_
                refine y_2ne (a := (vk v : Int)) (b := 7) (t := 182) (pc' := 150) dm_X12_through_147 rfl rfl (by omega) (fun hb6 => ?_) (fun hb6 => ?_)
                · have hns : ¬ (vk v = 1 ∨ vk v = 3) := by omega
                  refine me1 (pc' := 183) (L' := [(0, .ref 102), (1, ii vb), (2, ii (hd : Int)), (3, ii place), (4, ii (vk v : Int)), (5, ii ((vm v * vc v : Nat) : Int)), (6, ii (q : Int)), (7, ii ((k : Nat) : Int))]) (S' := [ii vb]) dm_X12_through_182 rfl rfl rfl rfl ?_
                  refine me1 (pc' := 184) (L' := [(0, .ref 102), (1, ii vb), (2, ii (hd : Int)), (3, ii place), (4, ii (vk v : Int)), (5, ii ((vm v * vc v : Nat) : Int)), (6, ii (q : Int)), (7, ii ((k : Nat) : Int))]) (S' := [.ref 102, ii vb]) dm_X12_through_183 rfl rfl rfl rfl ?_
                  refine me1 (pc' := 185) (L' := [(0, .ref 102), (1, ii vb), (2, ii (hd : Int)), (3, ii place), (4, ii (vk v : Int)), (5, ii ((vm v * vc v : Nat) : Int)), (6, ii (q : Int)), (7, ii ((k : Nat) : Int))]) (S' := [ii (hd : Int), .ref 102, ii vb]) dm_X12_through_184 rfl rfl rfl rfl ?_
                  refine me1 (pc' := 187) (L' := [(0, .ref 102), (1, ii vb), (2, ii (hd : Int)), (3, ii place), (4, ii (vk v : Int)), (5, ii ((vm v * vc v : Nat) : Int)), (6, ii (q : Int)), (7, ii ((k : Nat) : Int))]) (S' := [ii ((k : Nat) : Int), ii (hd : Int), .ref 102, ii vb]) dm_X12_through_185 rfl rfl rfl rfl ?_
                  refine x_cp (pc' := 190) (v := .long (vn v k)) (rest := [ii vb]) dm_X12_through_187 rfl (q_inv (As := [ii (hd : Int), ii ((k : Nat) : Int)]) (S := [ii vb]) hm rfl rfl rfl) rfl rfl rfl (r_number_ (k := k) hm (by omega) hBT (hvT _ _) (by omega) (by omega)) ?_
                  refine x_cp (pc' := 193) (v := .long (trn vb (vn v k))) (rest := []) dm_X12_through_190 rfl (g_invs (As := [ii vb, .long (vn v k)]) (S := []) rfl rfl rfl) rfl rfl rfl (r_turned_ (by omega) hvb) ?_
                  refine me1 (pc' := 195) (L' := [(8, .long (trn vb (vn v k))), (0, .ref 102), (1, ii vb), (2, ii (hd : Int)), (3, ii place), (4, ii (vk v : Int)), (5, ii ((vm v * vc v : Nat) : Int)), (6, ii (q : Int)), (7, ii ((k : Nat) : Int))]) (S' := []) dm_X12_through_193 rfl rfl rfl rfl ?_
                  have hvk9 : vnum v ((k : Nat) : Int) = vn v k := vnum_q hv.1 (by omega) (by omega)
                  have hout : outF (vbo vb) (vk z0) (vk v) (vnum z0 ((k : Nat) : Int)) (vnum v ((k : Nat) : Int)) = (if vb = 45 ∧ trn vb (vn v k) = Int64.ofInt (-9223372036854775808) then 6 else 0, trn vb (vn v k)) := by rw [vnum_z, hvk9]; exact trn_o hvb hns
                  refine me1 (pc' := 196) (L' := [(8, .long (trn vb (vn v k))), (0, .ref 102), (1, ii vb), (2, ii (hd : Int)), (3, ii place), (4, ii (vk v : Int)), (5, ii ((vm v * vc v : Nat) : Int)), (6, ii (q : Int)), (7, ii ((k : Nat) : Int))]) (S' := [ii vb]) dm_X12_through_195 rfl rfl rfl rfl ?_
                  refine me0 (pc' := 198) (S' := [ii 45, ii vb]) dm_X12_through_196 rfl rfl rfl rfl ?_
                  refine y_2ne (a := vb) (b := 45) (t := 210) (pc' := 201) dm_X12_through_198 rfl rfl (by omega) (fun hb7 => ?_) (fun hb7 => ?_)
                  · have hof : (outF (vbo vb) (vk z0) (vk v) (vnum z0 ((k : Nat) : Int)) (vnum v ((k : Nat) : Int))).1 = 0 := by rw [hout]; exact if_neg (fun z => by have z1 := z.1; omega)
                    refine me1 (pc' := 212) (L' := [(8, .long (trn vb (vn v k))), (0, .ref 102), (1, ii vb), (2, ii (hd : Int)), (3, ii place), (4, ii (vk v : Int)), (5, ii ((vm v * vc v : Nat) : Int)), (6, ii (q : Int)), (7, ii ((k : Nat) : Int))]) (S' := [ii (vk v : Int)]) dm_X12_through_210 rfl rfl rfl rfl ?_
                    refine me0 (pc' := 214) (S' := [ii 6, ii (vk v : Int)]) dm_X12_through_212 rfl rfl rfl rfl ?_
                    refine y_2ne (a := (vk v : Int)) (b := 6) (t := 233) (pc' := 217) dm_X12_through_214 rfl rfl (by omega) (fun hb8 => ?_) (fun hb8 => ?_)
                    · exfalso; omega
                    · refine me1 (pc' := 219) (L' := [(8, .long (trn vb (vn v k))), (0, .ref 102), (1, ii vb), (2, ii (hd : Int)), (3, ii place), (4, ii (vk v : Int)), (5, ii ((vm v * vc v : Nat) : Int)), (6, ii (q : Int)), (7, ii ((k : Nat) : Int))]) (S' := [.long (trn vb (vn v k))]) dm_X12_through_217 rfl rfl rfl rfl ?_
                      refine x_cp (pc' := 222) (v := zz (fitsB (trn vb (vn v k)))) (rest := []) dm_X12_through_219 rfl (g_invs (As := [.long (trn vb (vn v k))]) (S := []) rfl rfl rfl) rfl rfl rfl (r_fits_ (by omega)) ?_
                      refine y_zne (c := fitsB (trn vb (vn v k))) (t := 233) (pc' := 225) dm_X12_through_222 rfl rfl (fun hb9 => ?_) (fun hb9 => ?_)
                      · have hoT : (outT (vbo vb) z0 v (lkV z0 v) k).1 = 0 := (outT_1 (fun z => by have z2 := z.2.2; rw [hout] at z2; rw [show fitsB (trn vb (vn v k)) = true from hb9] at z2; cases z2)).trans hof
                        refine me1 (pc' := 234) (L' := [(8, .long (trn vb (vn v k))), (0, .ref 102), (1, ii vb), (2, ii (hd : Int)), (3, ii place), (4, ii (vk v : Int)), (5, ii ((vm v * vc v : Nat) : Int)), (6, ii (q : Int)), (7, ii ((k : Nat) : Int))]) (S' := [.ref 102]) dm_X12_through_233 rfl rfl rfl rfl ?_
                        refine me3 (pc' := 237) (S' := [.ref (102 + 1)]) dm_X12_through_234 (q_getr hm rfl (fun m i l => rg_0 m i l)) rfl rfl rfl ?_
                        refine me1 (pc' := 238) (L' := [(8, .long (trn vb (vn v k))), (0, .ref 102), (1, ii vb), (2, ii (hd : Int)), (3, ii place), (4, ii (vk v : Int)), (5, ii ((vm v * vc v : Nat) : Int)), (6, ii (q : Int)), (7, ii ((k : Nat) : Int))]) (S' := [.ref 102, .ref (102 + 1)]) dm_X12_through_237 rfl rfl rfl rfl ?_
                        refine me3 (pc' := 241) (S' := [.ref (102 + 2), .ref (102 + 1)]) dm_X12_through_238 (q_getr hm rfl (fun m i l => rg_1 m i l)) rfl rfl rfl ?_
                        refine me1 (pc' := 243) (L' := [(8, .long (trn vb (vn v k))), (0, .ref 102), (1, ii vb), (2, ii (hd : Int)), (3, ii place), (4, ii (vk v : Int)), (5, ii ((vm v * vc v : Nat) : Int)), (6, ii (q : Int)), (7, ii ((k : Nat) : Int))]) (S' := [ii (q : Int), .ref (102 + 2), .ref (102 + 1)]) dm_X12_through_241 rfl rfl rfl rfl ?_
                        refine me3 (pc' := 244) (S' := [ii ((((fillS (tabS s q b (vm v : Int) (vc v : Int)) b k (flG (vbo vb) z0 v)).2.2.1) 1) q), .ref (102 + 1)]) dm_X12_through_243 (q_iald (v := (((fillS (tabS s q b (vm v : Int) (vc v : Int)) b k (flG (vbo vb) z0 v)).2.2.1) 1) q) (k := 1) (n := 310000) hm (fun m i l I J => rc_1 m i l I J) (by omega) (by omega) (by decide) rfl) rfl rfl rfl ?_
                        refine pg_st (S' := [ii (b : Int), .ref (102 + 1)]) (congrArg (fun z => ii z :: [.ref (102 + 1)]) (up_eq _ _ _)) ?_
                        refine me1 (pc' := 246) (L' := [(8, .long (trn vb (vn v k))), (0, .ref 102), (1, ii vb), (2, ii (hd : Int)), (3, ii place), (4, ii (vk v : Int)), (5, ii ((vm v * vc v : Nat) : Int)), (6, ii (q : Int)), (7, ii ((k : Nat) : Int))]) (S' := [ii ((k : Nat) : Int), ii (b : Int), .ref (102 + 1)]) dm_X12_through_244 rfl rfl rfl rfl ?_
                        refine y_iadd (a := (b : Int)) (b := ((k : Nat) : Int)) dm_X12_through_246 (pc' := 247) rfl ?_
                        refine me1 (pc' := 249) (L' := [(8, .long (trn vb (vn v k))), (0, .ref 102), (1, ii vb), (2, ii (hd : Int)), (3, ii place), (4, ii (vk v : Int)), (5, ii ((vm v * vc v : Nat) : Int)), (6, ii (q : Int)), (7, ii ((k : Nat) : Int))]) (S' := [.long (trn vb (vn v k)), ii ((b : Int) + ((k : Nat) : Int)), .ref (102 + 1)]) dm_X12_through_247 rfl rfl rfl rfl ?_
                        refine pg_st (S' := [.long ((flG (vbo vb) z0 v) k), ii ((b : Int) + ((k : Nat) : Int)), .ref (102 + 1)]) (congrArg (fun z => Value.long z :: [ii ((b : Int) + ((k : Nat) : Int)), .ref (102 + 1)]) (by show _ = (outT (vbo vb) z0 v (lkV z0 v) k).2; rw [outT_2, hout])) ?_
                        refine me3 (pc' := 250) (S' := []) (h1 := rI pre post ((fillS (tabS s q b (vm v : Int) (vc v : Int)) b k (flG (vbo vb) z0 v)).1) ((fillS (tabS s q b (vm v : Int) (vc v : Int)) b k (flG (vbo vb) z0 v)).2.1) ((fillS (tabS s q b (vm v : Int) (vc v : Int)) b k (flG (vbo vb) z0 v)).2.2.1) (va_up ((fillS (tabS s q b (vm v : Int) (vc v : Int)) b k (flG (vbo vb) z0 v)).2.2.2) 0 (va_up (((fillS (tabS s q b (vm v : Int) (vc v : Int)) b k (flG (vbo vb) z0 v)).2.2.2) 0) (b + k) ((flG (vbo vb) z0 v) k)))) dm_X12_through_249 (q_last (j := (b : Int) + ((k : Nat) : Int)) (k := 0) (n := 820000) hm (fun m i l I J => rc_0 m i l I J) (fun m i l I J f => rs_0 m i l I J f) (by omega) (by omega) (by decide)) rfl rfl rfl ?_
                        refine y_iinc (pc' := 253) (L' := [(7, ii (((k : Nat) : Int) + 1)), (8, .long (trn vb (vn v k))), (0, .ref 102), (1, ii vb), (2, ii (hd : Int)), (3, ii place), (4, ii (vk v : Int)), (5, ii ((vm v * vc v : Nat) : Int)), (6, ii (q : Int))]) dm_X12_through_250 (y_incp (a := ((k : Nat) : Int)) (c := 1) rfl rfl (by decide)) rfl ?_
                        refine me2 (pc' := 129) (S' := []) dm_X12_through_253 rfl rfl rfl ?_
                        refine pg_cast (h2 := rI pre post ((fillS (tabS s q b (vm v : Int) (vc v : Int)) b (k + 1) (flG (vbo vb) z0 v)).1) ((fillS (tabS s q b (vm v : Int) (vc v : Int)) b (k + 1) (flG (vbo vb) z0 v)).2.1) ((fillS (tabS s q b (vm v : Int) (vc v : Int)) b (k + 1) (flG (vbo vb) z0 v)).2.2.1) ((fillS (tabS s q b (vm v : Int) (vc v : Int)) b (k + 1) (flG (vbo vb) z0 v)).2.2.2)) (fill_s (tabS s q b (vm v : Int) (vc v : Int)) b k (flG (vbo vb) z0 v)) ?_
                        exact pg_sub (L := [(0, .ref 102), (1, ii vb), (2, ii (hd : Int)), (3, ii place), (4, ii (vk v : Int)), (5, ii ((vm v * vc v : Nat) : Int)), (6, ii (q : Int)), (7, ii (((k + 1) : Nat) : Int))]) rfl rfl rfl (ih129 ((vm v * vc v) - (k + 1)) (by omega) (k + 1) rfl (by omega) ((errs_s0 hes).trans hoT))
                      · have hoT6 : (outT (vbo vb) z0 v (lkV z0 v) k).1 = 6 := outT_6 ⟨hof, by rw [hlk]; omega, by rw [hout]; exact hb9⟩
                        refine me1 (pc' := 226) (L' := [(8, .long (trn vb (vn v k))), (0, .ref 102), (1, ii vb), (2, ii (hd : Int)), (3, ii place), (4, ii (vk v : Int)), (5, ii ((vm v * vc v : Nat) : Int)), (6, ii (q : Int)), (7, ii ((k : Nat) : Int))]) (S' := [.ref 102]) dm_X12_through_225 rfl rfl rfl rfl ?_
                        refine me0 (pc' := 228) (S' := [ii 6, .ref 102]) dm_X12_through_226 rfl rfl rfl rfl ?_
                        refine me1 (pc' := 229) (L' := [(8, .long (trn vb (vn v k))), (0, .ref 102), (1, ii vb), (2, ii (hd : Int)), (3, ii place), (4, ii (vk v : Int)), (5, ii ((vm v * vc v : Nat) : Int)), (6, ii (q : Int)), (7, ii ((k : Nat) : Int))]) (S' := [ii place, ii 6, .ref 102]) dm_X12_through_228 rfl rfl rfl rfl ?_
                        refine x_cv (pc' := 232) (rest := []) dm_X12_through_229 rfl (q_inv (As := [ii 6, ii place]) (S := []) hm rfl rfl rfl) rfl rfl rfl (r_fail_ (s := (fillS (tabS s q b (vm v : Int) (vc v : Int)) b k (flG (vbo vb) z0 v))) hm (by omega) he0 hca.1 hca.2) ?_
                        rintro _ _ ⟨rfl, rfl⟩
                        refine y_ret (r := some (ii (-1))) dm_X12_through_232 rfl rfl rfl ?_
                        rw [pfl_e (n := 6) haz hes (by omega) hoT6 rfl (by decide)]
                        exact ⟨_, rfl, rresN_f (rext_fail (rext_fill hxT (by omega) _) _ _) (rfr_fail (rfr_tr (rfr_tab s q b _ _) (rfr_fill _ _ _ _)) _ _) (by show (b : Int) + (vm v : Int) * (vc v : Int) ≤ _; omega) (by show (q : Int) + 1 ≤ _; omega) rfl rfl (by decide)⟩
                  · refine me1 (pc' := 203) (L' := [(8, .long (trn vb (vn v k))), (0, .ref 102), (1, ii vb), (2, ii (hd : Int)), (3, ii place), (4, ii (vk v : Int)), (5, ii ((vm v * vc v : Nat) : Int)), (6, ii (q : Int)), (7, ii ((k : Nat) : Int))]) (S' := [.long (trn vb (vn v k))]) dm_X12_through_201 rfl rfl rfl rfl ?_
                    refine me3 (pc' := 206) (S' := [.long (Int64.ofInt (-9223372036854775808)), .long (trn vb (vn v k))]) dm_X12_through_203 rfl rfl rfl rfl ?_
                    refine y_leq (x := trn vb (vn v k)) (y := Int64.ofInt (-9223372036854775808)) (t := 225) (pc1 := 207) (pc' := 210) dm_X12_through_206 rfl dm_X12_through_207 rfl rfl (fun hb10 => ?_) (fun hb10 => ?_)
                    · have hb10i := congrArg Int64.toInt hb10
                      have hoT6 : (outT (vbo vb) z0 v (lkV z0 v) k).1 = 6 := by have h9 : (outF (vbo vb) (vk z0) (vk v) (vnum z0 ((k : Nat) : Int)) (vnum v ((k : Nat) : Int))).1 = 6 := (by rw [hout]; exact if_pos ⟨by omega, hb10⟩); rw [outT_1 (fun z => by rw [h9] at z; exact absurd z.1 (by decide)), h9]
                      refine me1 (pc' := 226) (L' := [(8, .long (trn vb (vn v k))), (0, .ref 102), (1, ii vb), (2, ii (hd : Int)), (3, ii place), (4, ii (vk v : Int)), (5, ii ((vm v * vc v : Nat) : Int)), (6, ii (q : Int)), (7, ii ((k : Nat) : Int))]) (S' := [.ref 102]) dm_X12_through_225 rfl rfl rfl rfl ?_
                      refine me0 (pc' := 228) (S' := [ii 6, .ref 102]) dm_X12_through_226 rfl rfl rfl rfl ?_
                      refine me1 (pc' := 229) (L' := [(8, .long (trn vb (vn v k))), (0, .ref 102), (1, ii vb), (2, ii (hd : Int)), (3, ii place), (4, ii (vk v : Int)), (5, ii ((vm v * vc v : Nat) : Int)), (6, ii (q : Int)), (7, ii ((k : Nat) : Int))]) (S' := [ii place, ii 6, .ref 102]) dm_X12_through_228 rfl rfl rfl rfl ?_
                      refine x_cv (pc' := 232) (rest := []) dm_X12_through_229 rfl (q_inv (As := [ii 6, ii place]) (S := []) hm rfl rfl rfl) rfl rfl rfl (r_fail_ (s := (fillS (tabS s q b (vm v : Int) (vc v : Int)) b k (flG (vbo vb) z0 v))) hm (by omega) he0 hca.1 hca.2) ?_
                      rintro _ _ ⟨rfl, rfl⟩
                      refine y_ret (r := some (ii (-1))) dm_X12_through_232 rfl rfl rfl ?_
                      rw [pfl_e (n := 6) haz hes (by omega) hoT6 rfl (by decide)]
                      exact ⟨_, rfl, rresN_f (rext_fail (rext_fill hxT (by omega) _) _ _) (rfr_fail (rfr_tr (rfr_tab s q b _ _) (rfr_fill _ _ _ _)) _ _) (by show (b : Int) + (vm v : Int) * (vc v : Int) ≤ _; omega) (by show (q : Int) + 1 ≤ _; omega) rfl rfl (by decide)⟩
                    · have hb10i : ¬ (trn vb (vn v k)).toInt = (Int64.ofInt (-9223372036854775808)).toInt := fun z => hb10 (Int64.toInt_inj.mp z)
                      have hof : (outF (vbo vb) (vk z0) (vk v) (vnum z0 ((k : Nat) : Int)) (vnum v ((k : Nat) : Int))).1 = 0 := by rw [hout]; exact if_neg (fun z => hb10 z.2)
                      refine me1 (pc' := 212) (L' := [(8, .long (trn vb (vn v k))), (0, .ref 102), (1, ii vb), (2, ii (hd : Int)), (3, ii place), (4, ii (vk v : Int)), (5, ii ((vm v * vc v : Nat) : Int)), (6, ii (q : Int)), (7, ii ((k : Nat) : Int))]) (S' := [ii (vk v : Int)]) dm_X12_through_210 rfl rfl rfl rfl ?_
                      refine me0 (pc' := 214) (S' := [ii 6, ii (vk v : Int)]) dm_X12_through_212 rfl rfl rfl rfl ?_
                      refine y_2ne (a := (vk v : Int)) (b := 6) (t := 233) (pc' := 217) dm_X12_through_214 rfl rfl (by omega) (fun hb11 => ?_) (fun hb11 => ?_)
                      · exfalso; omega
                      · refine me1 (pc' := 219) (L' := [(8, .long (trn vb (vn v k))), (0, .ref 102), (1, ii vb), (2, ii (hd : Int)), (3, ii place), (4, ii (vk v : Int)), (5, ii ((vm v * vc v : Nat) : Int)), (6, ii (q : Int)), (7, ii ((k : Nat) : Int))]) (S' := [.long (trn vb (vn v k))]) dm_X12_through_217 rfl rfl rfl rfl ?_
                        refine x_cp (pc' := 222) (v := zz (fitsB (trn vb (vn v k)))) (rest := []) dm_X12_through_219 rfl (g_invs (As := [.long (trn vb (vn v k))]) (S := []) rfl rfl rfl) rfl rfl rfl (r_fits_ (by omega)) ?_
                        refine y_zne (c := fitsB (trn vb (vn v k))) (t := 233) (pc' := 225) dm_X12_through_222 rfl rfl (fun hb12 => ?_) (fun hb12 => ?_)
                        · have hoT : (outT (vbo vb) z0 v (lkV z0 v) k).1 = 0 := (outT_1 (fun z => by have z2 := z.2.2; rw [hout] at z2; rw [show fitsB (trn vb (vn v k)) = true from hb12] at z2; cases z2)).trans hof
                          refine me1 (pc' := 234) (L' := [(8, .long (trn vb (vn v k))), (0, .ref 102), (1, ii vb), (2, ii (hd : Int)), (3, ii place), (4, ii (vk v : Int)), (5, ii ((vm v * vc v : Nat) : Int)), (6, ii (q : Int)), (7, ii ((k : Nat) : Int))]) (S' := [.ref 102]) dm_X12_through_233 rfl rfl rfl rfl ?_
                          refine me3 (pc' := 237) (S' := [.ref (102 + 1)]) dm_X12_through_234 (q_getr hm rfl (fun m i l => rg_0 m i l)) rfl rfl rfl ?_
                          refine me1 (pc' := 238) (L' := [(8, .long (trn vb (vn v k))), (0, .ref 102), (1, ii vb), (2, ii (hd : Int)), (3, ii place), (4, ii (vk v : Int)), (5, ii ((vm v * vc v : Nat) : Int)), (6, ii (q : Int)), (7, ii ((k : Nat) : Int))]) (S' := [.ref 102, .ref (102 + 1)]) dm_X12_through_237 rfl rfl rfl rfl ?_
                          refine me3 (pc' := 241) (S' := [.ref (102 + 2), .ref (102 + 1)]) dm_X12_through_238 (q_getr hm rfl (fun m i l => rg_1 m i l)) rfl rfl rfl ?_
                          refine me1 (pc' := 243) (L' := [(8, .long (trn vb (vn v k))), (0, .ref 102), (1, ii vb), (2, ii (hd : Int)), (3, ii place), (4, ii (vk v : Int)), (5, ii ((vm v * vc v : Nat) : Int)), (6, ii (q : Int)), (7, ii ((k : Nat) : Int))]) (S' := [ii (q : Int), .ref (102 + 2), .ref (102 + 1)]) dm_X12_through_241 rfl rfl rfl rfl ?_
                          refine me3 (pc' := 244) (S' := [ii ((((fillS (tabS s q b (vm v : Int) (vc v : Int)) b k (flG (vbo vb) z0 v)).2.2.1) 1) q), .ref (102 + 1)]) dm_X12_through_243 (q_iald (v := (((fillS (tabS s q b (vm v : Int) (vc v : Int)) b k (flG (vbo vb) z0 v)).2.2.1) 1) q) (k := 1) (n := 310000) hm (fun m i l I J => rc_1 m i l I J) (by omega) (by omega) (by decide) rfl) rfl rfl rfl ?_
                          refine pg_st (S' := [ii (b : Int), .ref (102 + 1)]) (congrArg (fun z => ii z :: [.ref (102 + 1)]) (up_eq _ _ _)) ?_
                          refine me1 (pc' := 246) (L' := [(8, .long (trn vb (vn v k))), (0, .ref 102), (1, ii vb), (2, ii (hd : Int)), (3, ii place), (4, ii (vk v : Int)), (5, ii ((vm v * vc v : Nat) : Int)), (6, ii (q : Int)), (7, ii ((k : Nat) : Int))]) (S' := [ii ((k : Nat) : Int), ii (b : Int), .ref (102 + 1)]) dm_X12_through_244 rfl rfl rfl rfl ?_
                          refine y_iadd (a := (b : Int)) (b := ((k : Nat) : Int)) dm_X12_through_246 (pc' := 247) rfl ?_
                          refine me1 (pc' := 249) (L' := [(8, .long (trn vb (vn v k))), (0, .ref 102), (1, ii vb), (2, ii (hd : Int)), (3, ii place), (4, ii (vk v : Int)), (5, ii ((vm v * vc v : Nat) : Int)), (6, ii (q : Int)), (7, ii ((k : Nat) : Int))]) (S' := [.long (trn vb (vn v k)), ii ((b : Int) + ((k : Nat) : Int)), .ref (102 + 1)]) dm_X12_through_247 rfl rfl rfl rfl ?_
                          refine pg_st (S' := [.long ((flG (vbo vb) z0 v) k), ii ((b : Int) + ((k : Nat) : Int)), .ref (102 + 1)]) (congrArg (fun z => Value.long z :: [ii ((b : Int) + ((k : Nat) : Int)), .ref (102 + 1)]) (by show _ = (outT (vbo vb) z0 v (lkV z0 v) k).2; rw [outT_2, hout])) ?_
                          refine me3 (pc' := 250) (S' := []) (h1 := rI pre post ((fillS (tabS s q b (vm v : Int) (vc v : Int)) b k (flG (vbo vb) z0 v)).1) ((fillS (tabS s q b (vm v : Int) (vc v : Int)) b k (flG (vbo vb) z0 v)).2.1) ((fillS (tabS s q b (vm v : Int) (vc v : Int)) b k (flG (vbo vb) z0 v)).2.2.1) (va_up ((fillS (tabS s q b (vm v : Int) (vc v : Int)) b k (flG (vbo vb) z0 v)).2.2.2) 0 (va_up (((fillS (tabS s q b (vm v : Int) (vc v : Int)) b k (flG (vbo vb) z0 v)).2.2.2) 0) (b + k) ((flG (vbo vb) z0 v) k)))) dm_X12_through_249 (q_last (j := (b : Int) + ((k : Nat) : Int)) (k := 0) (n := 820000) hm (fun m i l I J => rc_0 m i l I J) (fun m i l I J f => rs_0 m i l I J f) (by omega) (by omega) (by decide)) rfl rfl rfl ?_
                          refine y_iinc (pc' := 253) (L' := [(7, ii (((k : Nat) : Int) + 1)), (8, .long (trn vb (vn v k))), (0, .ref 102), (1, ii vb), (2, ii (hd : Int)), (3, ii place), (4, ii (vk v : Int)), (5, ii ((vm v * vc v : Nat) : Int)), (6, ii (q : Int))]) dm_X12_through_250 (y_incp (a := ((k : Nat) : Int)) (c := 1) rfl rfl (by decide)) rfl ?_
                          refine me2 (pc' := 129) (S' := []) dm_X12_through_253 rfl rfl rfl ?_
                          refine pg_cast (h2 := rI pre post ((fillS (tabS s q b (vm v : Int) (vc v : Int)) b (k + 1) (flG (vbo vb) z0 v)).1) ((fillS (tabS s q b (vm v : Int) (vc v : Int)) b (k + 1) (flG (vbo vb) z0 v)).2.1) ((fillS (tabS s q b (vm v : Int) (vc v : Int)) b (k + 1) (flG (vbo vb) z0 v)).2.2.1) ((fillS (tabS s q b (vm v : Int) (vc v : Int)) b (k + 1) (flG (vbo vb) z0 v)).2.2.2)) (fill_s (tabS s q b (vm v : Int) (vc v : Int)) b k (flG (vbo vb) z0 v)) ?_
                          exact pg_sub (L := [(0, .ref 102), (1, ii vb), (2, ii (hd : Int)), (3, ii place), (4, ii (vk v : Int)), (5, ii ((vm v * vc v : Nat) : Int)), (6, ii (q : Int)), (7, ii (((k + 1) : Nat) : Int))]) rfl rfl rfl (ih129 ((vm v * vc v) - (k + 1)) (by omega) (k + 1) rfl (by omega) ((errs_s0 hes).trans hoT))
                        · have hoT6 : (outT (vbo vb) z0 v (lkV z0 v) k).1 = 6 := outT_6 ⟨hof, by rw [hlk]; omega, by rw [hout]; exact hb12⟩
                          refine me1 (pc' := 226) (L' := [(8, .long (trn vb (vn v k))), (0, .ref 102), (1, ii vb), (2, ii (hd : Int)), (3, ii place), (4, ii (vk v : Int)), (5, ii ((vm v * vc v : Nat) : Int)), (6, ii (q : Int)), (7, ii ((k : Nat) : Int))]) (S' := [.ref 102]) dm_X12_through_225 rfl rfl rfl rfl ?_
                          refine me0 (pc' := 228) (S' := [ii 6, .ref 102]) dm_X12_through_226 rfl rfl rfl rfl ?_
                          refine me1 (pc' := 229) (L' := [(8, .long (trn vb (vn v k))), (0, .ref 102), (1, ii vb), (2, ii (hd : Int)), (3, ii place), (4, ii (vk v : Int)), (5, ii ((vm v * vc v : Nat) : Int)), (6, ii (q : Int)), (7, ii ((k : Nat) : Int))]) (S' := [ii place, ii 6, .ref 102]) dm_X12_through_228 rfl rfl rfl rfl ?_
                          refine x_cv (pc' := 232) (rest := []) dm_X12_through_229 rfl (q_inv (As := [ii 6, ii place]) (S := []) hm rfl rfl rfl) rfl rfl rfl (r_fail_ (s := (fillS (tabS s q b (vm v : Int) (vc v : Int)) b k (flG (vbo vb) z0 v))) hm (by omega) he0 hca.1 hca.2) ?_
                          rintro _ _ ⟨rfl, rfl⟩
                          refine y_ret (r := some (ii (-1))) dm_X12_through_232 rfl rfl rfl ?_
                          rw [pfl_e (n := 6) haz hes (by omega) hoT6 rfl (by decide)]
                          exact ⟨_, rfl, rresN_f (rext_fail (rext_fill hxT (by omega) _) _ _) (rfr_fail (rfr_tr (rfr_tab s q b _ _) (rfr_fill _ _ _ _)) _ _) (by show (b : Int) + (vm v : Int) * (vc v : Int) ≤ _; omega) (by show (q : Int) + 1 ≤ _; omega) rfl rfl (by decide)⟩
                · exfalso; omega
          refine pg_cast (h2 := rI pre post ((fillS (tabS s q b (vm v : Int) (vc v : Int)) b 0 (flG (vbo vb) z0 v)).1) ((fillS (tabS s q b (vm v : Int) (vc v : Int)) b 0 (flG (vbo vb) z0 v)).2.1) ((fillS (tabS s q b (vm v : Int) (vc v : Int)) b 0 (flG (vbo vb) z0 v)).2.2.1) ((fillS (tabS s q b (vm v : Int) (vc v : Int)) b 0 (flG (vbo vb) z0 v)).2.2.2)) (fill_0 (tabS s q b (vm v : Int) (vc v : Int)) b (flG (vbo vb) z0 v)) ?_
          exact pg_sub (L := [(0, .ref 102), (1, ii vb), (2, ii (hd : Int)), (3, ii place), (4, ii (vk v : Int)), (5, ii ((vm v * vc v : Nat) : Int)), (6, ii (q : Int)), (7, ii ((0 : Nat) : Int))]) rfl rfl rfl (lp129 _ 0 rfl (Nat.zero_le _) rfl)
    · refine me1 (pc' := 20) (L' := [(4, ii (vk v : Int)), (0, .ref 102), (1, ii vb), (2, ii (hd : Int)), (3, ii place)]) (S' := [.ref 102]) dm_X12_through_19 rfl rfl rfl rfl ?_
      refine me1 (pc' := 21) (L' := [(4, ii (vk v : Int)), (0, .ref 102), (1, ii vb), (2, ii (hd : Int)), (3, ii place)]) (S' := [ii (hd : Int), .ref 102]) dm_X12_through_20 rfl rfl rfl rfl ?_
      refine x_cp (pc' := 24) (v := ii (vm v : Int)) (rest := []) dm_X12_through_21 rfl (q_inv (As := [ii (hd : Int)]) (S := []) hm rfl rfl rfl) rfl rfl rfl (r_many_ hm (by omega) hB0 hv) ?_
      refine y_1le (a := (vm v : Int)) (t := 34) (pc' := 27) dm_X12_through_24 rfl rfl (by omega) (fun hb13 => ?_) (fun hb13 => ?_)
      · refine me1 (pc' := 36) (L' := [(4, ii (vk v : Int)), (0, .ref 102), (1, ii vb), (2, ii (hd : Int)), (3, ii place)]) (S' := [ii (vk v : Int)]) dm_X12_through_34 rfl rfl rfl rfl ?_
        refine me0 (pc' := 38) (S' := [ii 6, ii (vk v : Int)]) dm_X12_through_36 rfl rfl rfl rfl ?_
        refine y_2ne (a := (vk v : Int)) (b := 6) (t := 55) (pc' := 41) dm_X12_through_38 rfl rfl (by omega) (fun hb14 => ?_) (fun hb14 => ?_)
        · exfalso; omega
        · refine me1 (pc' := 42) (L' := [(4, ii (vk v : Int)), (0, .ref 102), (1, ii vb), (2, ii (hd : Int)), (3, ii place)]) (S' := [.ref 102]) dm_X12_through_41 rfl rfl rfl rfl ?_
          refine me1 (pc' := 43) (L' := [(4, ii (vk v : Int)), (0, .ref 102), (1, ii vb), (2, ii (hd : Int)), (3, ii place)]) (S' := [ii (hd : Int), .ref 102]) dm_X12_through_42 rfl rfl rfl rfl ?_
          refine x_cp (pc' := 46) (v := ii (vm v : Int)) (rest := []) dm_X12_through_43 rfl (q_inv (As := [ii (hd : Int)]) (S := []) hm rfl rfl rfl) rfl rfl rfl (r_many_ hm (by omega) hB0 hv) ?_
          refine me1 (pc' := 47) (L' := [(4, ii (vk v : Int)), (0, .ref 102), (1, ii vb), (2, ii (hd : Int)), (3, ii place)]) (S' := [.ref 102, ii (vm v : Int)]) dm_X12_through_46 rfl rfl rfl rfl ?_
          refine me1 (pc' := 48) (L' := [(4, ii (vk v : Int)), (0, .ref 102), (1, ii vb), (2, ii (hd : Int)), (3, ii place)]) (S' := [ii (hd : Int), .ref 102, ii (vm v : Int)]) dm_X12_through_47 rfl rfl rfl rfl ?_
          refine x_cp (pc' := 51) (v := ii (vc v : Int)) (rest := [ii (vm v : Int)]) dm_X12_through_48 rfl (q_inv (As := [ii (hd : Int)]) (S := [ii (vm v : Int)]) hm rfl rfl rfl) rfl rfl rfl (r_columns_ hm (by omega) hB0 hv) ?_
          refine y_imul (a := (vm v : Int)) (b := (vc v : Int)) dm_X12_through_51 (pc' := 52) rfl ?_
          refine me2 (pc' := 60) (S' := [ii ((vm v : Int) * (vc v : Int))]) dm_X12_through_52 rfl rfl rfl ?_
          refine pg_st (S' := [ii ((vm v * vc v : Nat) : Int)]) (congrArg (fun z => ii z :: []) (by push_cast; rfl)) ?_
          refine me1 (pc' := 62) (L' := [(5, ii ((vm v * vc v : Nat) : Int)), (4, ii (vk v : Int)), (0, .ref 102), (1, ii vb), (2, ii (hd : Int)), (3, ii place)]) (S' := []) dm_X12_through_60 rfl rfl rfl rfl ?_
          refine me1 (pc' := 64) (L' := [(5, ii ((vm v * vc v : Nat) : Int)), (4, ii (vk v : Int)), (0, .ref 102), (1, ii vb), (2, ii (hd : Int)), (3, ii place)]) (S' := [ii (vk v : Int)]) dm_X12_through_62 rfl rfl rfl rfl ?_
          refine me0 (pc' := 66) (S' := [ii 6, ii (vk v : Int)]) dm_X12_through_64 rfl rfl rfl rfl ?_
          refine y_2ne (a := (vk v : Int)) (b := 6) (t := 86) (pc' := 69) dm_X12_through_66 rfl rfl (by omega) (fun hb15 => ?_) (fun hb15 => ?_)
          · exfalso; omega
          · refine me1 (pc' := 70) (L' := [(5, ii ((vm v * vc v : Nat) : Int)), (4, ii (vk v : Int)), (0, .ref 102), (1, ii vb), (2, ii (hd : Int)), (3, ii place)]) (S' := [.ref 102]) dm_X12_through_69 rfl rfl rfl rfl ?_
            refine me1 (pc' := 71) (L' := [(5, ii ((vm v * vc v : Nat) : Int)), (4, ii (vk v : Int)), (0, .ref 102), (1, ii vb), (2, ii (hd : Int)), (3, ii place)]) (S' := [.ref 102, .ref 102]) dm_X12_through_70 rfl rfl rfl rfl ?_
            refine me1 (pc' := 72) (L' := [(5, ii ((vm v * vc v : Nat) : Int)), (4, ii (vk v : Int)), (0, .ref 102), (1, ii vb), (2, ii (hd : Int)), (3, ii place)]) (S' := [ii (hd : Int), .ref 102, .ref 102]) dm_X12_through_71 rfl rfl rfl rfl ?_
            refine x_cp (pc' := 75) (v := ii (vm v : Int)) (rest := [.ref 102]) dm_X12_through_72 rfl (q_inv (As := [ii (hd : Int)]) (S := [.ref 102]) hm rfl rfl rfl) rfl rfl rfl (r_many_ hm (by omega) hB0 hv) ?_
            refine me1 (pc' := 76) (L' := [(5, ii ((vm v * vc v : Nat) : Int)), (4, ii (vk v : Int)), (0, .ref 102), (1, ii vb), (2, ii (hd : Int)), (3, ii place)]) (S' := [.ref 102, ii (vm v : Int), .ref 102]) dm_X12_through_75 rfl rfl rfl rfl ?_
            refine me1 (pc' := 77) (L' := [(5, ii ((vm v * vc v : Nat) : Int)), (4, ii (vk v : Int)), (0, .ref 102), (1, ii vb), (2, ii (hd : Int)), (3, ii place)]) (S' := [ii (hd : Int), .ref 102, ii (vm v : Int), .ref 102]) dm_X12_through_76 rfl rfl rfl rfl ?_
            refine x_cp (pc' := 80) (v := ii (vc v : Int)) (rest := [ii (vm v : Int), .ref 102]) dm_X12_through_77 rfl (q_inv (As := [ii (hd : Int)]) (S := [ii (vm v : Int), .ref 102]) hm rfl rfl rfl) rfl rfl rfl (r_columns_ hm (by omega) hB0 hv) ?_
            refine x_cv (pc' := 83) (rest := []) dm_X12_through_80 rfl (q_inv (As := [ii (vm v : Int), ii (vc v : Int)]) (S := []) hm rfl rfl rfl) rfl rfl rfl (r_table_ (q := q) (b := b) (s := s) hm (by omega) hq hb (by omega) (by omega) (by omega)) ?_
            rintro _ _ ⟨rfl, rfl⟩
            refine me2 (pc' := 124) (S' := [ii (q : Int)]) dm_X12_through_83 rfl rfl rfl ?_
            refine me1 (pc' := 126) (L' := [(6, ii (q : Int)), (5, ii ((vm v * vc v : Nat) : Int)), (4, ii (vk v : Int)), (0, .ref 102), (1, ii vb), (2, ii (hd : Int)), (3, ii place)]) (S' := []) dm_X12_through_124 rfl rfl rfl rfl ?_
            have hxT : rext s (tabS s q b (vm v : Int) (vc v : Int)) := rext_tab hq hb (by omega)
            have hBT : rB (tabS s q b (vm v : Int) (vc v : Int)) := ⟨by show 3 ≤ (q : Int) + 1; omega, by show (q : Int) + 1 ≤ 310000; omega, by show 0 ≤ (b : Int) + (vm v : Int) * (vc v : Int); omega, by show (b : Int) + (vm v : Int) * (vc v : Int) ≤ 820000; omega⟩
            have hvT : ∀ (k : Nat) (F : Nat → Int64), rv (fillS (tabS s q b (vm v : Int) (vc v : Int)) b k F) (e + 1) hd v := fun k F => rv_ext (rext_fill hxT (by omega) F) hh3 hv
            refine me0 (pc' := 127) (S' := [ii 0]) dm_X12_through_126 rfl rfl rfl rfl ?_
            refine me1 (pc' := 129) (L' := [(7, ii 0), (6, ii (q : Int)), (5, ii ((vm v * vc v : Nat) : Int)), (4, ii (vk v : Int)), (0, .ref 102), (1, ii vb), (2, ii (hd : Int)), (3, ii place)]) (S' := []) dm_X12_through_127 rfl rfl rfl rfl ?_
            have lp129 : ∀ (n129 : Nat) (k : Nat), (vm v * vc v) - k = n129 → (k ≤ (vm v * vc v)) → (errs (fun j => (outT (vbo vb) z0 v (lkV z0 v) j).1) k = 0) → pgE xt (d - 1) 12 10 false (Option.some Jvm.ClassFile.FieldType.int) (mj_dec prog_14_method_31_code) 129 [(0, .ref 102), (1, ii vb), (2, ii (hd : Int)), (3, ii place), (4, ii (vk v : Int)), (5, ii ((vm v * vc v : Nat) : Int)), (6, ii (q : Int)), (7, ii ((k : Nat) : Int))] [] (rI pre post ((fillS (tabS s q b (vm v : Int) (vc v : Int)) b k (flG (vbo vb) z0 v)).1) ((fillS (tabS s q b (vm v : Int) (vc v : Int)) b k (flG (vbo vb) z0 v)).2.1) ((fillS (tabS s q b (vm v : Int) (vc v : Int)) b k (flG (vbo vb) z0 v)).2.2.1) ((fillS (tabS s q b (vm v : Int) (vc v : Int)) b k (flG (vbo vb) z0 v)).2.2.2)) (fun r h' => ∃ x, r = some x ∧ rresN pre post s (e + 1) (pfl (vbo vb) z0 v) place (vq v) 1 x h') := by
              intro n129
              induction n129 using Nat.strongRecOn with
              | ind n129 ih129 =>
                intro k hm129 hk hes
                refine me1 (pc' := 131) (L' := [(0, .ref 102), (1, ii vb), (2, ii (hd : Int)), (3, ii place), (4, ii (vk v : Int)), (5, ii ((vm v * vc v : Nat) : Int)), (6, ii (q : Int)), (7, ii ((k : Nat) : Int))]) (S' := [ii ((k : Nat) : Int)]) dm_X12_through_129 rfl rfl rfl rfl ?_
                refine me1 (pc' := 133) (L' := [(0, .ref 102), (1, ii vb), (2, ii (hd : Int)), (3, ii place), (4, ii (vk v : Int)), (5, ii ((vm v * vc v : Nat) : Int)), (6, ii (q : Int)), (7, ii ((k : Nat) : Int))]) (S' := [ii ((vm v * vc v : Nat) : Int), ii ((k : Nat) : Int)]) dm_X12_through_131 rfl rfl rfl rfl ?_
                refine y_2ge (a := ((k : Nat) : Int)) (b := ((vm v * vc v : Nat) : Int)) (t := 256) (pc' := 136) dm_X12_through_133 rfl rfl (by omega) (fun hb16 => ?_) (fun hb16 => ?_)
                · refine me1 (pc' := 257) (L' := [(0, .ref 102), (1, ii vb), (2, ii (hd : Int)), (3, ii place), (4, ii (vk v : Int)), (5, ii ((vm v * vc v : Nat) : Int)), (6, ii (q : Int)), (7, ii ((k : Nat) : Int))]) (S' := [.ref 102]) dm_X12_through_256 rfl rfl rfl rfl ?_
                  refine me1 (pc' := 259) (L' := [(0, .ref 102), (1, ii vb), (2, ii (hd : Int)), (3, ii place), (4, ii (vk v : Int)), (5, ii ((vm v * vc v : Nat) : Int)), (6, ii (q : Int)), (7, ii ((k : Nat) : Int))]) (S' := [ii (q : Int), .ref 102]) dm_X12_through_257 rfl rfl rfl rfl ?_
                  refine x_cp (pc' := 262) (v := ii 6) (rest := []) dm_X12_through_259 rfl (q_inv (As := [ii (q : Int)]) (S := []) hm rfl rfl rfl) rfl rfl rfl (r_kindRaw_ (s := (fillS (tabS s q b (vm v : Int) (vc v : Int)) b k (flG (vbo vb) z0 v))) (kd := 6) (z := (vm v : Int) + 256 * (vc v : Int)) hm (by omega) (by omega) (by show va_up (s.2.2.1 2) q (6 + (vm v : Int) * 8 + (vc v : Int) * 2048) q = _; rw [up_eq]; omega) (by decide) (by omega)) ?_
                  refine me0 (pc' := 263) (S' := [ii 5, ii 6]) dm_X12_through_262 rfl rfl rfl rfl ?_
                  refine me_2t (pc' := 275) dm_X12_through_263 rfl (by decide) ?_
                  refine me1 (pc' := 277) (L' := [(0, .ref 102), (1, ii vb), (2, ii (hd : Int)), (3, ii place), (4, ii (vk v : Int)), (5, ii ((vm v * vc v : Nat) : Int)), (6, ii (q : Int)), (7, ii ((k : Nat) : Int))]) (S' := [ii (q : Int)]) dm_X12_through_275 rfl rfl rfl rfl ?_
                  refine y_ret (r := some (ii (q : Int))) dm_X12_through_277 rfl rfl rfl ?_
                  have hkN : k = (vm v * vc v) := by omega
                  rw [hkN] at hes
                  rw [hkN]
                  have hall := errs_all hes
                  rw [pfl_v haz (by rw [hlq]; exact hes)]
                  rw [show flV (vbo vb) z0 v = vtab (vm v) (vc v) (flG (vbo vb) z0 v) by unfold flV; rw [hlk, if_neg (by omega), if_pos (by omega)]]
                  exact ⟨_, rfl, rresN_mk (rext_fill hxT (by omega) _) (rfr_tr (rfr_tab s q b _ _) (rfr_fill _ _ _ _)) (by show (b : Int) + (vm v : Int) * (vc v : Int) ≤ _; omega) (by show (q : Int) + 1 ≤ _; omega) he0 rfl hq3 (by rw [hb]; exact rvN_tabS hq3 (vw1_tab (by omega) (by omega) (by omega) (by omega) (fun j hj => outT_fit (hall j hj) (by rw [hlk]; omega))) rfl rfl rfl (fun _ _ => rfl))⟩
                · refine me1 (pc' := 137) (L' := [(0, .ref 102), (1, ii vb), (2, ii (hd : Int)), (3, ii place), (4, ii (vk v : Int)), (5, ii ((vm v * vc v : Nat) : Int)), (6, ii (q : Int)), (7, ii ((k : Nat) : Int))]) (S' := [.ref 102]) dm_X12_through_136 rfl rfl rfl rfl ?_
                  refine me3 (pc' := 140) (S' := [ii (((fillS (tabS s q b (vm v : Int) (vc v : Int)) b k (flG (vbo vb) z0 v)).1) 5)]) dm_X12_through_137 (q_geti (v := ((fillS (tabS s q b (vm v : Int) (vc v : Int)) b k (flG (vbo vb) z0 v)).1) 5) hm rfl (fun m i l => rg_5 m i l) rfl) rfl rfl rfl ?_
                  refine pg_st (S' := [ii 0]) (congrArg (fun z => ii z :: []) (he0)) ?_
                  refine me_1f (pc' := 143) dm_X12_through_140 rfl (by decide) rfl ?_
                  refine me1 (pc' := 145) (L' := [(0, .ref 102), (1, ii vb), (2, ii (hd : Int)), (3, ii place), (4, ii (vk v : Int)), (5, ii ((vm v * vc v : Nat) : Int)), (6, ii (q : Int)), (7, ii ((k : Nat) : Int))]) (S' := [ii (vk v : Int)]) dm_X12_through_143 rfl rfl rfl rfl ?_
                  refine me0 (pc' := 147) (S' := [ii 7, ii (vk v : Int)]) dm_X12_through_145 rfl rfl rfl rfl ?_
                  refine y_2ne (a := (vk v : Int)) (b := 7) (t := 182) (pc' := 150) dm_X12_through_147 rfl rfl (by omega) (fun hb17 => ?_) (fun hb17 => ?_)
                  · have hns : ¬ (vk v = 1 ∨ vk v = 3) := by omega
                    refine me1 (pc' := 183) (L' := [(0, .ref 102), (1, ii vb), (2, ii (hd : Int)), (3, ii place), (4, ii (vk v : Int)), (5, ii ((vm v * vc v : Nat) : Int)), (6, ii (q : Int)), (7, ii ((k : Nat) : Int))]) (S' := [ii vb]) dm_X12_through_182 rfl rfl rfl rfl ?_
                    refine me1 (pc' := 184) (L' := [(0, .ref 102), (1, ii vb), (2, ii (hd : Int)), (3, ii place), (4, ii (vk v : Int)), (5, ii ((vm v * vc v : Nat) : Int)), (6, ii (q : Int)), (7, ii ((k : Nat) : Int))]) (S' := [.ref 102, ii vb]) dm_X12_through_183 rfl rfl rfl rfl ?_
                    refine me1 (pc' := 185) (L' := [(0, .ref 102), (1, ii vb), (2, ii (hd : Int)), (3, ii place), (4, ii (vk v : Int)), (5, ii ((vm v * vc v : Nat) : Int)), (6, ii (q : Int)), (7, ii ((k : Nat) : Int))]) (S' := [ii (hd : Int), .ref 102, ii vb]) dm_X12_through_184 rfl rfl rfl rfl ?_
                    refine me1 (pc' := 187) (L' := [(0, .ref 102), (1, ii vb), (2, ii (hd : Int)), (3, ii place), (4, ii (vk v : Int)), (5, ii ((vm v * vc v : Nat) : Int)), (6, ii (q : Int)), (7, ii ((k : Nat) : Int))]) (S' := [ii ((k : Nat) : Int), ii (hd : Int), .ref 102, ii vb]) dm_X12_through_185 rfl rfl rfl rfl ?_
                    refine x_cp (pc' := 190) (v := .long (vn v k)) (rest := [ii vb]) dm_X12_through_187 rfl (q_inv (As := [ii (hd : Int), ii ((k : Nat) : Int)]) (S := [ii vb]) hm rfl rfl rfl) rfl rfl rfl (r_number_ (k := k) hm (by omega) hBT (hvT _ _) (by omega) (by omega)) ?_
                    refine x_cp (pc' := 193) (v := .long (trn vb (vn v k))) (rest := []) dm_X12_through_190 rfl (g_invs (As := [ii vb, .long (vn v k)]) (S := []) rfl rfl rfl) rfl rfl rfl (r_turned_ (by omega) hvb) ?_
                    refine me1 (pc' := 195) (L' := [(8, .long (trn vb (vn v k))), (0, .ref 102), (1, ii vb), (2, ii (hd : Int)), (3, ii place), (4, ii (vk v : Int)), (5, ii ((vm v * vc v : Nat) : Int)), (6, ii (q : Int)), (7, ii ((k : Nat) : Int))]) (S' := []) dm_X12_through_193 rfl rfl rfl rfl ?_
                    have hvk9 : vnum v ((k : Nat) : Int) = vn v k := vnum_q hv.1 (by omega) (by omega)
                    have hout : outF (vbo vb) (vk z0) (vk v) (vnum z0 ((k : Nat) : Int)) (vnum v ((k : Nat) : Int)) = (if vb = 45 ∧ trn vb (vn v k) = Int64.ofInt (-9223372036854775808) then 6 else 0, trn vb (vn v k)) := by rw [vnum_z, hvk9]; exact trn_o hvb hns
                    refine me1 (pc' := 196) (L' := [(8, .long (trn vb (vn v k))), (0, .ref 102), (1, ii vb), (2, ii (hd : Int)), (3, ii place), (4, ii (vk v : Int)), (5, ii ((vm v * vc v : Nat) : Int)), (6, ii (q : Int)), (7, ii ((k : Nat) : Int))]) (S' := [ii vb]) dm_X12_through_195 rfl rfl rfl rfl ?_
                    refine me0 (pc' := 198) (S' := [ii 45, ii vb]) dm_X12_through_196 rfl rfl rfl rfl ?_
                    refine y_2ne (a := vb) (b := 45) (t := 210) (pc' := 201) dm_X12_through_198 rfl rfl (by omega) (fun hb18 => ?_) (fun hb18 => ?_)
                    · have hof : (outF (vbo vb) (vk z0) (vk v) (vnum z0 ((k : Nat) : Int)) (vnum v ((k : Nat) : Int))).1 = 0 := by rw [hout]; exact if_neg (fun z => by have z1 := z.1; omega)
                      refine me1 (pc' := 212) (L' := [(8, .long (trn vb (vn v k))), (0, .ref 102), (1, ii vb), (2, ii (hd : Int)), (3, ii place), (4, ii (vk v : Int)), (5, ii ((vm v * vc v : Nat) : Int)), (6, ii (q : Int)), (7, ii ((k : Nat) : Int))]) (S' := [ii (vk v : Int)]) dm_X12_through_210 rfl rfl rfl rfl ?_
                      refine me0 (pc' := 214) (S' := [ii 6, ii (vk v : Int)]) dm_X12_through_212 rfl rfl rfl rfl ?_
                      refine y_2ne (a := (vk v : Int)) (b := 6) (t := 233) (pc' := 217) dm_X12_through_214 rfl rfl (by omega) (fun hb19 => ?_) (fun hb19 => ?_)
                      · exfalso; omega
                      · refine me1 (pc' := 219) (L' := [(8, .long (trn vb (vn v k))), (0, .ref 102), (1, ii vb), (2, ii (hd : Int)), (3, ii place), (4, ii (vk v : Int)), (5, ii ((vm v * vc v : Nat) : Int)), (6, ii (q : Int)), (7, ii ((k : Nat) : Int))]) (S' := [.long (trn vb (vn v k))]) dm_X12_through_217 rfl rfl rfl rfl ?_
                        refine x_cp (pc' := 222) (v := zz (fitsB (trn vb (vn v k)))) (rest := []) dm_X12_through_219 rfl (g_invs (As := [.long (trn vb (vn v k))]) (S := []) rfl rfl rfl) rfl rfl rfl (r_fits_ (by omega)) ?_
                        refine y_zne (c := fitsB (trn vb (vn v k))) (t := 233) (pc' := 225) dm_X12_through_222 rfl rfl (fun hb20 => ?_) (fun hb20 => ?_)
                        · have hoT : (outT (vbo vb) z0 v (lkV z0 v) k).1 = 0 := (outT_1 (fun z => by have z2 := z.2.2; rw [hout] at z2; rw [show fitsB (trn vb (vn v k)) = true from hb20] at z2; cases z2)).trans hof
                          refine me1 (pc' := 234) (L' := [(8, .long (trn vb (vn v k))), (0, .ref 102), (1, ii vb), (2, ii (hd : Int)), (3, ii place), (4, ii (vk v : Int)), (5, ii ((vm v * vc v : Nat) : Int)), (6, ii (q : Int)), (7, ii ((k : Nat) : Int))]) (S' := [.ref 102]) dm_X12_through_233 rfl rfl rfl rfl ?_
                          refine me3 (pc' := 237) (S' := [.ref (102 + 1)]) dm_X12_through_234 (q_getr hm rfl (fun m i l => rg_0 m i l)) rfl rfl rfl ?_
                          refine me1 (pc' := 238) (L' := [(8, .long (trn vb (vn v k))), (0, .ref 102), (1, ii vb), (2, ii (hd : Int)), (3, ii place), (4, ii (vk v : Int)), (5, ii ((vm v * vc v : Nat) : Int)), (6, ii (q : Int)), (7, ii ((k : Nat) : Int))]) (S' := [.ref 102, .ref (102 + 1)]) dm_X12_through_237 rfl rfl rfl rfl ?_
                          refine me3 (pc' := 241) (S' := [.ref (102 + 2), .ref (102 + 1)]) dm_X12_through_238 (q_getr hm rfl (fun m i l => rg_1 m i l)) rfl rfl rfl ?_
                          refine me1 (pc' := 243) (L' := [(8, .long (trn vb (vn v k))), (0, .ref 102), (1, ii vb), (2, ii (hd : Int)), (3, ii place), (4, ii (vk v : Int)), (5, ii ((vm v * vc v : Nat) : Int)), (6, ii (q : Int)), (7, ii ((k : Nat) : Int))]) (S' := [ii (q : Int), .ref (102 + 2), .ref (102 + 1)]) dm_X12_through_241 rfl rfl rfl rfl ?_
                          refine me3 (pc' := 244) (S' := [ii ((((fillS (tabS s q b (vm v : Int) (vc v : Int)) b k (flG (vbo vb) z0 v)).2.2.1) 1) q), .ref (102 + 1)]) dm_X12_through_243 (q_iald (v := (((fillS (tabS s q b (vm v : Int) (vc v : Int)) b k (flG (vbo vb) z0 v)).2.2.1) 1) q) (k := 1) (n := 310000) hm (fun m i l I J => rc_1 m i l I J) (by omega) (by omega) (by decide) rfl) rfl rfl rfl ?_
                          refine pg_st (S' := [ii (b : Int), .ref (102 + 1)]) (congrArg (fun z => ii z :: [.ref (102 + 1)]) (up_eq _ _ _)) ?_
                          refine me1 (pc' := 246) (L' := [(8, .long (trn vb (vn v k))), (0, .ref 102), (1, ii vb), (2, ii (hd : Int)), (3, ii place), (4, ii (vk v : Int)), (5, ii ((vm v * vc v : Nat) : Int)), (6, ii (q : Int)), (7, ii ((k : Nat) : Int))]) (S' := [ii ((k : Nat) : Int), ii (b : Int), .ref (102 + 1)]) dm_X12_through_244 rfl rfl rfl rfl ?_
                          refine y_iadd (a := (b : Int)) (b := ((k : Nat) : Int)) dm_X12_through_246 (pc' := 247) rfl ?_
                          refine me1 (pc' := 249) (L' := [(8, .long (trn vb (vn v k))), (0, .ref 102), (1, ii vb), (2, ii (hd : Int)), (3, ii place), (4, ii (vk v : Int)), (5, ii ((vm v * vc v : Nat) : Int)), (6, ii (q : Int)), (7, ii ((k : Nat) : Int))]) (S' := [.long (trn vb (vn v k)), ii ((b : Int) + ((k : Nat) : Int)), .ref (102 + 1)]) dm_X12_through_247 rfl rfl rfl rfl ?_
                          refine pg_st (S' := [.long ((flG (vbo vb) z0 v) k), ii ((b : Int) + ((k : Nat) : Int)), .ref (102 + 1)]) (congrArg (fun z => Value.long z :: [ii ((b : Int) + ((k : Nat) : Int)), .ref (102 + 1)]) (by show _ = (outT (vbo vb) z0 v (lkV z0 v) k).2; rw [outT_2, hout])) ?_
                          refine me3 (pc' := 250) (S' := []) (h1 := rI pre post ((fillS (tabS s q b (vm v : Int) (vc v : Int)) b k (flG (vbo vb) z0 v)).1) ((fillS (tabS s q b (vm v : Int) (vc v : Int)) b k (flG (vbo vb) z0 v)).2.1) ((fillS (tabS s q b (vm v : Int) (vc v : Int)) b k (flG (vbo vb) z0 v)).2.2.1) (va_up ((fillS (tabS s q b (vm v : Int) (vc v : Int)) b k (flG (vbo vb) z0 v)).2.2.2) 0 (va_up (((fillS (tabS s q b (vm v : Int) (vc v : Int)) b k (flG (vbo vb) z0 v)).2.2.2) 0) (b + k) ((flG (vbo vb) z0 v) k)))) dm_X12_through_249 (q_last (j := (b : Int) + ((k : Nat) : Int)) (k := 0) (n := 820000) hm (fun m i l I J => rc_0 m i l I J) (fun m i l I J f => rs_0 m i l I J f) (by omega) (by omega) (by decide)) rfl rfl rfl ?_
                          refine y_iinc (pc' := 253) (L' := [(7, ii (((k : Nat) : Int) + 1)), (8, .long (trn vb (vn v k))), (0, .ref 102), (1, ii vb), (2, ii (hd : Int)), (3, ii place), (4, ii (vk v : Int)), (5, ii ((vm v * vc v : Nat) : Int)), (6, ii (q : Int))]) dm_X12_through_250 (y_incp (a := ((k : Nat) : Int)) (c := 1) rfl rfl (by decide)) rfl ?_
                          refine me2 (pc' := 129) (S' := []) dm_X12_through_253 rfl rfl rfl ?_
                          refine pg_cast (h2 := rI pre post ((fillS (tabS s q b (vm v : Int) (vc v : Int)) b (k + 1) (flG (vbo vb) z0 v)).1) ((fillS (tabS s q b (vm v : Int) (vc v : Int)) b (k + 1) (flG (vbo vb) z0 v)).2.1) ((fillS (tabS s q b (vm v : Int) (vc v : Int)) b (k + 1) (flG (vbo vb) z0 v)).2.2.1) ((fillS (tabS s q b (vm v : Int) (vc v : Int)) b (k + 1) (flG (vbo vb) z0 v)).2.2.2)) (fill_s (tabS s q b (vm v : Int) (vc v : Int)) b k (flG (vbo vb) z0 v)) ?_
                          exact pg_sub (L := [(0, .ref 102), (1, ii vb), (2, ii (hd : Int)), (3, ii place), (4, ii (vk v : Int)), (5, ii ((vm v * vc v : Nat) : Int)), (6, ii (q : Int)), (7, ii (((k + 1) : Nat) : Int))]) rfl rfl rfl (ih129 ((vm v * vc v) - (k + 1)) (by omega) (k + 1) rfl (by omega) ((errs_s0 hes).trans hoT))
                        · have hoT6 : (outT (vbo vb) z0 v (lkV z0 v) k).1 = 6 := outT_6 ⟨hof, by rw [hlk]; omega, by rw [hout]; exact hb20⟩
                          refine me1 (pc' := 226) (L' := [(8, .long (trn vb (vn v k))), (0, .ref 102), (1, ii vb), (2, ii (hd : Int)), (3, ii place), (4, ii (vk v : Int)), (5, ii ((vm v * vc v : Nat) : Int)), (6, ii (q : Int)), (7, ii ((k : Nat) : Int))]) (S' := [.ref 102]) dm_X12_through_225 rfl rfl rfl rfl ?_
                          refine me0 (pc' := 228) (S' := [ii 6, .ref 102]) dm_X12_through_226 rfl rfl rfl rfl ?_
                          refine me1 (pc' := 229) (L' := [(8, .long (trn vb (vn v k))), (0, .ref 102), (1, ii vb), (2, ii (hd : Int)), (3, ii place), (4, ii (vk v : Int)), (5, ii ((vm v * vc v : Nat) : Int)), (6, ii (q : Int)), (7, ii ((k : Nat) : Int))]) (S' := [ii place, ii 6, .ref 102]) dm_X12_through_228 rfl rfl rfl rfl ?_
                          refine x_cv (pc' := 232) (rest := []) dm_X12_through_229 rfl (q_inv (As := [ii 6, ii place]) (S := []) hm rfl rfl rfl) rfl rfl rfl (r_fail_ (s := (fillS (tabS s q b (vm v : Int) (vc v : Int)) b k (flG (vbo vb) z0 v))) hm (by omega) he0 hca.1 hca.2) ?_
                          rintro _ _ ⟨rfl, rfl⟩
                          refine y_ret (r := some (ii (-1))) dm_X12_through_232 rfl rfl rfl ?_
                          rw [pfl_e (n := 6) haz hes (by omega) hoT6 rfl (by decide)]
                          exact ⟨_, rfl, rresN_f (rext_fail (rext_fill hxT (by omega) _) _ _) (rfr_fail (rfr_tr (rfr_tab s q b _ _) (rfr_fill _ _ _ _)) _ _) (by show (b : Int) + (vm v : Int) * (vc v : Int) ≤ _; omega) (by show (q : Int) + 1 ≤ _; omega) rfl rfl (by decide)⟩
                    · refine me1 (pc' := 203) (L' := [(8, .long (trn vb (vn v k))), (0, .ref 102), (1, ii vb), (2, ii (hd : Int)), (3, ii place), (4, ii (vk v : Int)), (5, ii ((vm v * vc v : Nat) : Int)), (6, ii (q : Int)), (7, ii ((k : Nat) : Int))]) (S' := [.long (trn vb (vn v k))]) dm_X12_through_201 rfl rfl rfl rfl ?_
                      refine me3 (pc' := 206) (S' := [.long (Int64.ofInt (-9223372036854775808)), .long (trn vb (vn v k))]) dm_X12_through_203 rfl rfl rfl rfl ?_
                      refine y_leq (x := trn vb (vn v k)) (y := Int64.ofInt (-9223372036854775808)) (t := 225) (pc1 := 207) (pc' := 210) dm_X12_through_206 rfl dm_X12_through_207 rfl rfl (fun hb21 => ?_) (fun hb21 => ?_)
                      · have hb21i := congrArg Int64.toInt hb21
                        have hoT6 : (outT (vbo vb) z0 v (lkV z0 v) k).1 = 6 := by have h9 : (outF (vbo vb) (vk z0) (vk v) (vnum z0 ((k : Nat) : Int)) (vnum v ((k : Nat) : Int))).1 = 6 := (by rw [hout]; exact if_pos ⟨by omega, hb21⟩); rw [outT_1 (fun z => by rw [h9] at z; exact absurd z.1 (by decide)), h9]
                        refine me1 (pc' := 226) (L' := [(8, .long (trn vb (vn v k))), (0, .ref 102), (1, ii vb), (2, ii (hd : Int)), (3, ii place), (4, ii (vk v : Int)), (5, ii ((vm v * vc v : Nat) : Int)), (6, ii (q : Int)), (7, ii ((k : Nat) : Int))]) (S' := [.ref 102]) dm_X12_through_225 rfl rfl rfl rfl ?_
                        refine me0 (pc' := 228) (S' := [ii 6, .ref 102]) dm_X12_through_226 rfl rfl rfl rfl ?_
                        refine me1 (pc' := 229) (L' := [(8, .long (trn vb (vn v k))), (0, .ref 102), (1, ii vb), (2, ii (hd : Int)), (3, ii place), (4, ii (vk v : Int)), (5, ii ((vm v * vc v : Nat) : Int)), (6, ii (q : Int)), (7, ii ((k : Nat) : Int))]) (S' := [ii place, ii 6, .ref 102]) dm_X12_through_228 rfl rfl rfl rfl ?_
                        refine x_cv (pc' := 232) (rest := []) dm_X12_through_229 rfl (q_inv (As := [ii 6, ii place]) (S := []) hm rfl rfl rfl) rfl rfl rfl (r_fail_ (s := (fillS (tabS s q b (vm v : Int) (vc v : Int)) b k (flG (vbo vb) z0 v))) hm (by omega) he0 hca.1 hca.2) ?_
                        rintro _ _ ⟨rfl, rfl⟩
                        refine y_ret (r := some (ii (-1))) dm_X12_through_232 rfl rfl rfl ?_
                        rw [pfl_e (n := 6) haz hes (by omega) hoT6 rfl (by decide)]
                        exact ⟨_, rfl, rresN_f (rext_fail (rext_fill hxT (by omega) _) _ _) (rfr_fail (rfr_tr (rfr_tab s q b _ _) (rfr_fill _ _ _ _)) _ _) (by show (b : Int) + (vm v : Int) * (vc v : Int) ≤ _; omega) (by show (q : Int) + 1 ≤ _; omega) rfl rfl (by decide)⟩
                      · have hb21i : ¬ (trn vb (vn v k)).toInt = (Int64.ofInt (-9223372036854775808)).toInt := fun z => hb21 (Int64.toInt_inj.mp z)
                        have hof : (outF (vbo vb) (vk z0) (vk v) (vnum z0 ((k : Nat) : Int)) (vnum v ((k : Nat) : Int))).1 = 0 := by rw [hout]; exact if_neg (fun z => hb21 z.2)
                        refine me1 (pc' := 212) (L' := [(8, .long (trn vb (vn v k))), (0, .ref 102), (1, ii vb), (2, ii (hd : Int)), (3, ii place), (4, ii (vk v : Int)), (5, ii ((vm v * vc v : Nat) : Int)), (6, ii (q : Int)), (7, ii ((k : Nat) : Int))]) (S' := [ii (vk v : Int)]) dm_X12_through_210 rfl rfl rfl rfl ?_
                        refine me0 (pc' := 214) (S' := [ii 6, ii (vk v : Int)]) dm_X12_through_212 rfl rfl rfl rfl ?_
                        refine y_2ne (a := (vk v : Int)) (b := 6) (t := 233) (pc' := 217) dm_X12_through_214 rfl rfl (by omega) (fun hb22 => ?_) (fun hb22 => ?_)
                        · exfalso; omega
                        · refine me1 (pc' := 219) (L' := [(8, .long (trn vb (vn v k))), (0, .ref 102), (1, ii vb), (2, ii (hd : Int)), (3, ii place), (4, ii (vk v : Int)), (5, ii ((vm v * vc v : Nat) : Int)), (6, ii (q : Int)), (7, ii ((k : Nat) : Int))]) (S' := [.long (trn vb (vn v k))]) dm_X12_through_217 rfl rfl rfl rfl ?_
                          refine x_cp (pc' := 222) (v := zz (fitsB (trn vb (vn v k)))) (rest := []) dm_X12_through_219 rfl (g_invs (As := [.long (trn vb (vn v k))]) (S := []) rfl rfl rfl) rfl rfl rfl (r_fits_ (by omega)) ?_
                          refine y_zne (c := fitsB (trn vb (vn v k))) (t := 233) (pc' := 225) dm_X12_through_222 rfl rfl (fun hb23 => ?_) (fun hb23 => ?_)
                          · have hoT : (outT (vbo vb) z0 v (lkV z0 v) k).1 = 0 := (outT_1 (fun z => by have z2 := z.2.2; rw [hout] at z2; rw [show fitsB (trn vb (vn v k)) = true from hb23] at z2; cases z2)).trans hof
                            refine me1 (pc' := 234) (L' := [(8, .long (trn vb (vn v k))), (0, .ref 102), (1, ii vb), (2, ii (hd : Int)), (3, ii place), (4, ii (vk v : Int)), (5, ii ((vm v * vc v : Nat) : Int)), (6, ii (q : Int)), (7, ii ((k : Nat) : Int))]) (S' := [.ref 102]) dm_X12_through_233 rfl rfl rfl rfl ?_
                            refine me3 (pc' := 237) (S' := [.ref (102 + 1)]) dm_X12_through_234 (q_getr hm rfl (fun m i l => rg_0 m i l)) rfl rfl rfl ?_
                            refine me1 (pc' := 238) (L' := [(8, .long (trn vb (vn v k))), (0, .ref 102), (1, ii vb), (2, ii (hd : Int)), (3, ii place), (4, ii (vk v : Int)), (5, ii ((vm v * vc v : Nat) : Int)), (6, ii (q : Int)), (7, ii ((k : Nat) : Int))]) (S' := [.ref 102, .ref (102 + 1)]) dm_X12_through_237 rfl rfl rfl rfl ?_
                            refine me3 (pc' := 241) (S' := [.ref (102 + 2), .ref (102 + 1)]) dm_X12_through_238 (q_getr hm rfl (fun m i l => rg_1 m i l)) rfl rfl rfl ?_
                            refine me1 (pc' := 243) (L' := [(8, .long (trn vb (vn v k))), (0, .ref 102), (1, ii vb), (2, ii (hd : Int)), (3, ii place), (4, ii (vk v : Int)), (5, ii ((vm v * vc v : Nat) : Int)), (6, ii (q : Int)), (7, ii ((k : Nat) : Int))]) (S' := [ii (q : Int), .ref (102 + 2), .ref (102 + 1)]) dm_X12_through_241 rfl rfl rfl rfl ?_
                            refine me3 (pc' := 244) (S' := [ii ((((fillS (tabS s q b (vm v : Int) (vc v : Int)) b k (flG (vbo vb) z0 v)).2.2.1) 1) q), .ref (102 + 1)]) dm_X12_through_243 (q_iald (v := (((fillS (tabS s q b (vm v : Int) (vc v : Int)) b k (flG (vbo vb) z0 v)).2.2.1) 1) q) (k := 1) (n := 310000) hm (fun m i l I J => rc_1 m i l I J) (by omega) (by omega) (by decide) rfl) rfl rfl rfl ?_
                            refine pg_st (S' := [ii (b : Int), .ref (102 + 1)]) (congrArg (fun z => ii z :: [.ref (102 + 1)]) (up_eq _ _ _)) ?_
                            refine me1 (pc' := 246) (L' := [(8, .long (trn vb (vn v k))), (0, .ref 102), (1, ii vb), (2, ii (hd : Int)), (3, ii place), (4, ii (vk v : Int)), (5, ii ((vm v * vc v : Nat) : Int)), (6, ii (q : Int)), (7, ii ((k : Nat) : Int))]) (S' := [ii ((k : Nat) : Int), ii (b : Int), .ref (102 + 1)]) dm_X12_through_244 rfl rfl rfl rfl ?_
                            refine y_iadd (a := (b : Int)) (b := ((k : Nat) : Int)) dm_X12_through_246 (pc' := 247) rfl ?_
                            refine me1 (pc' := 249) (L' := [(8, .long (trn vb (vn v k))), (0, .ref 102), (1, ii vb), (2, ii (hd : Int)), (3, ii place), (4, ii (vk v : Int)), (5, ii ((vm v * vc v : Nat) : Int)), (6, ii (q : Int)), (7, ii ((k : Nat) : Int))]) (S' := [.long (trn vb (vn v k)), ii ((b : Int) + ((k : Nat) : Int)), .ref (102 + 1)]) dm_X12_through_247 rfl rfl rfl rfl ?_
                            refine pg_st (S' := [.long ((flG (vbo vb) z0 v) k), ii ((b : Int) + ((k : Nat) : Int)), .ref (102 + 1)]) (congrArg (fun z => Value.long z :: [ii ((b : Int) + ((k : Nat) : Int)), .ref (102 + 1)]) (by show _ = (outT (vbo vb) z0 v (lkV z0 v) k).2; rw [outT_2, hout])) ?_
                            refine me3 (pc' := 250) (S' := []) (h1 := rI pre post ((fillS (tabS s q b (vm v : Int) (vc v : Int)) b k (flG (vbo vb) z0 v)).1) ((fillS (tabS s q b (vm v : Int) (vc v : Int)) b k (flG (vbo vb) z0 v)).2.1) ((fillS (tabS s q b (vm v : Int) (vc v : Int)) b k (flG (vbo vb) z0 v)).2.2.1) (va_up ((fillS (tabS s q b (vm v : Int) (vc v : Int)) b k (flG (vbo vb) z0 v)).2.2.2) 0 (va_up (((fillS (tabS s q b (vm v : Int) (vc v : Int)) b k (flG (vbo vb) z0 v)).2.2.2) 0) (b + k) ((flG (vbo vb) z0 v) k)))) dm_X12_through_249 (q_last (j := (b : Int) + ((k : Nat) : Int)) (k := 0) (n := 820000) hm (fun m i l I J => rc_0 m i l I J) (fun m i l I J f => rs_0 m i l I J f) (by omega) (by omega) (by decide)) rfl rfl rfl ?_
                            refine y_iinc (pc' := 253) (L' := [(7, ii (((k : Nat) : Int) + 1)), (8, .long (trn vb (vn v k))), (0, .ref 102), (1, ii vb), (2, ii (hd : Int)), (3, ii place), (4, ii (vk v : Int)), (5, ii ((vm v * vc v : Nat) : Int)), (6, ii (q : Int))]) dm_X12_through_250 (y_incp (a := ((k : Nat) : Int)) (c := 1) rfl rfl (by decide)) rfl ?_
                            refine me2 (pc' := 129) (S' := []) dm_X12_through_253 rfl rfl rfl ?_
                            refine pg_cast (h2 := rI pre post ((fillS (tabS s q b (vm v : Int) (vc v : Int)) b (k + 1) (flG (vbo vb) z0 v)).1) ((fillS (tabS s q b (vm v : Int) (vc v : Int)) b (k + 1) (flG (vbo vb) z0 v)).2.1) ((fillS (tabS s q b (vm v : Int) (vc v : Int)) b (k + 1) (flG (vbo vb) z0 v)).2.2.1) ((fillS (tabS s q b (vm v : Int) (vc v : Int)) b (k + 1) (flG (vbo vb) z0 v)).2.2.2)) (fill_s (tabS s q b (vm v : Int) (vc v : Int)) b k (flG (vbo vb) z0 v)) ?_
                            exact pg_sub (L := [(0, .ref 102), (1, ii vb), (2, ii (hd : Int)), (3, ii place), (4, ii (vk v : Int)), (5, ii ((vm v * vc v : Nat) : Int)), (6, ii (q : Int)), (7, ii (((k + 1) : Nat) : Int))]) rfl rfl rfl (ih129 ((vm v * vc v) - (k + 1)) (by omega) (k + 1) rfl (by omega) ((errs_s0 hes).trans hoT))
                          · have hoT6 : (outT (vbo vb) z0 v (lkV z0 v) k).1 = 6 := outT_6 ⟨hof, by rw [hlk]; omega, by rw [hout]; exact hb23⟩
                            refine me1 (pc' := 226) (L' := [(8, .long (trn vb (vn v k))), (0, .ref 102), (1, ii vb), (2, ii (hd : Int)), (3, ii place), (4, ii (vk v : Int)), (5, ii ((vm v * vc v : Nat) : Int)), (6, ii (q : Int)), (7, ii ((k : Nat) : Int))]) (S' := [.ref 102]) dm_X12_through_225 rfl rfl rfl rfl ?_
                            refine me0 (pc' := 228) (S' := [ii 6, .ref 102]) dm_X12_through_226 rfl rfl rfl rfl ?_
                            refine me1 (pc' := 229) (L' := [(8, .long (trn vb (vn v k))), (0, .ref 102), (1, ii vb), (2, ii (hd : Int)), (3, ii place), (4, ii (vk v : Int)), (5, ii ((vm v * vc v : Nat) : Int)), (6, ii (q : Int)), (7, ii ((k : Nat) : Int))]) (S' := [ii place, ii 6, .ref 102]) dm_X12_through_228 rfl rfl rfl rfl ?_
                            refine x_cv (pc' := 232) (rest := []) dm_X12_through_229 rfl (q_inv (As := [ii 6, ii place]) (S := []) hm rfl rfl rfl) rfl rfl rfl (r_fail_ (s := (fillS (tabS s q b (vm v : Int) (vc v : Int)) b k (flG (vbo vb) z0 v))) hm (by omega) he0 hca.1 hca.2) ?_
                            rintro _ _ ⟨rfl, rfl⟩
                            refine y_ret (r := some (ii (-1))) dm_X12_through_232 rfl rfl rfl ?_
                            rw [pfl_e (n := 6) haz hes (by omega) hoT6 rfl (by decide)]
                            exact ⟨_, rfl, rresN_f (rext_fail (rext_fill hxT (by omega) _) _ _) (rfr_fail (rfr_tr (rfr_tab s q b _ _) (rfr_fill _ _ _ _)) _ _) (by show (b : Int) + (vm v : Int) * (vc v : Int) ≤ _; omega) (by show (q : Int) + 1 ≤ _; omega) rfl rfl (by decide)⟩
                  · exfalso; omega
            refine pg_cast (h2 := rI pre post ((fillS (tabS s q b (vm v : Int) (vc v : Int)) b 0 (flG (vbo vb) z0 v)).1) ((fillS (tabS s q b (vm v : Int) (vc v : Int)) b 0 (flG (vbo vb) z0 v)).2.1) ((fillS (tabS s q b (vm v : Int) (vc v : Int)) b 0 (flG (vbo vb) z0 v)).2.2.1) ((fillS (tabS s q b (vm v : Int) (vc v : Int)) b 0 (flG (vbo vb) z0 v)).2.2.2)) (fill_0 (tabS s q b (vm v : Int) (vc v : Int)) b (flG (vbo vb) z0 v)) ?_
            exact pg_sub (L := [(0, .ref 102), (1, ii vb), (2, ii (hd : Int)), (3, ii place), (4, ii (vk v : Int)), (5, ii ((vm v * vc v : Nat) : Int)), (6, ii (q : Int)), (7, ii ((0 : Nat) : Int))]) rfl rfl rfl (lp129 _ 0 rfl (Nat.zero_le _) rfl)
      · exfalso; omega
theorem dm_X12_through_55 : mj_dec prog_14_method_31_code 55 = some (.aload_n 0, 1) := by decide +kernel
theorem dm_X12_through_56 : mj_dec prog_14_method_31_code 56 = some (.iload_n 2, 1) := by decide +kernel
theorem dm_X12_through_57 : mj_dec prog_14_method_31_code 57 = some (.invokevirtual 134, 3) := by decide +kernel
theorem dm_X12_through_86 : mj_dec prog_14_method_31_code 86 = some (.aload_n 0, 1) := by decide +kernel
theorem dm_X12_through_87 : mj_dec prog_14_method_31_code 87 = some (.iload 4, 2) := by decide +kernel
theorem dm_X12_through_89 : mj_dec prog_14_method_31_code 89 = some (.bipush 7, 2) := by decide +kernel
theorem dm_X12_through_91 : mj_dec prog_14_method_31_code 91 = some (.if_icmp .ne 8, 3) := by decide +kernel
theorem dm_X12_through_99 : mj_dec prog_14_method_31_code 99 = some (.iload 4, 2) := by decide +kernel
theorem dm_X12_through_101 : mj_dec prog_14_method_31_code 101 = some (.ifCond .ne 7, 3) := by decide +kernel
theorem dm_X12_through_104 : mj_dec prog_14_method_31_code 104 = some (.iconst 0, 1) := by decide +kernel
theorem dm_X12_through_105 : mj_dec prog_14_method_31_code 105 = some (.goto 14, 3) := by decide +kernel
theorem dm_X12_through_119 : mj_dec prog_14_method_31_code 119 = some (.iload 5, 2) := by decide +kernel
theorem dm_X12_through_121 : mj_dec prog_14_method_31_code 121 = some (.invokevirtual 126, 3) := by decide +kernel
theorem r_thr1 {vb : Int} {xt : mj_X} {d e hd q b : Nat} {pre post : mj_H} {s : RS} {v : VV} {place : Int} (hm : pre.length = 102) (hd1 : 6 ≤ d) (hB : rB s) (hv : rv s (e + 1) hd v) (hh3 : 3 ≤ hd) (hq : s.1 4 = (q : Int)) (hb : s.1 3 = (b : Int)) (hq3 : 3 ≤ q) (hV2 : q < 310000) (he0 : s.1 5 = 0) (hca : 0 ≤ s.1 10 ∧ s.1 10 ≤ 100) (hC : b + 300 ≤ 820000) (hvb : vb = 45 ∨ vb = 37 ∨ vb = 126) (hf1 : vk v = 0) : pgV xt d 283 [.ref 102, ii vb, ii (hd : Int), ii place] (rS pre post s) (rresN pre post s (e + 1) (pfl (vbo vb) z0 v) place (vq v) 1) := by
  have hB0 := hB
  obtain ⟨hB1, hB2, hB3, hB4⟩ := hB
  obtain ⟨fr, hfr, hsh, hlt, hcl, hvk, hvm, hvc, hvq, hvcl⟩ := rv_val hv
  have hcv := vw1_c hv.1
  have hlk : lkV z0 v = v := by unfold lkV; exact if_pos (by show 0 ≤ 1; omega)
  have hlq : vq (lkV z0 v) = (vm v) := by rw [hlk]; exact vq_m (by omega)
  have hqL : vq v = (vm v) := by rw [← hlq, hlk]
  have haz : askF z0 v = 0 := by unfold askF; exact if_pos (Or.inl (by show 0 ≤ 1; omega))
  refine x_enter pm_X12_through (L0 := [(0, .ref 102), (1, ii vb), (2, ii (hd : Int)), (3, ii place)]) rfl (Nat.le_of_ble_eq_true rfl) (by omega) ?_
  refine me1 (pc' := 1) (L' := [(0, .ref 102), (1, ii vb), (2, ii (hd : Int)), (3, ii place)]) (S' := [.ref 102]) dm_X12_through_0 rfl rfl rfl rfl ?_
  refine me1 (pc' := 2) (L' := [(0, .ref 102), (1, ii vb), (2, ii (hd : Int)), (3, ii place)]) (S' := [ii (hd : Int), .ref 102]) dm_X12_through_1 rfl rfl rfl rfl ?_
  refine x_cp (pc' := 5) (v := ii (vk v : Int)) (rest := []) dm_X12_through_2 rfl (q_inv (As := [ii (hd : Int)]) (S := []) hm rfl rfl rfl) rfl rfl rfl (r_kindOf_ hm (by omega) hB0 hv) ?_
  refine me1 (pc' := 7) (L' := [(4, ii (vk v : Int)), (0, .ref 102), (1, ii vb), (2, ii (hd : Int)), (3, ii place)]) (S' := []) dm_X12_through_5 rfl rfl rfl rfl ?_
  refine me1 (pc' := 9) (L' := [(4, ii (vk v : Int)), (0, .ref 102), (1, ii vb), (2, ii (hd : Int)), (3, ii place)]) (S' := [ii (vk v : Int)]) dm_X12_through_7 rfl rfl rfl rfl ?_
  refine me0 (pc' := 10) (S' := [ii 1, ii (vk v : Int)]) dm_X12_through_9 rfl rfl rfl rfl ?_
  refine y_2eq (a := (vk v : Int)) (b := 1) (t := 27) (pc' := 13) dm_X12_through_10 rfl rfl (by omega) (fun hb1 => ?_) (fun hb1 => ?_)
  · exfalso; omega
  · refine me1 (pc' := 15) (L' := [(4, ii (vk v : Int)), (0, .ref 102), (1, ii vb), (2, ii (hd : Int)), (3, ii place)]) (S' := [ii (vk v : Int)]) dm_X12_through_13 rfl rfl rfl rfl ?_
    refine me0 (pc' := 16) (S' := [ii 3, ii (vk v : Int)]) dm_X12_through_15 rfl rfl rfl rfl ?_
    refine y_2ne (a := (vk v : Int)) (b := 3) (t := 34) (pc' := 19) dm_X12_through_16 rfl rfl (by omega) (fun hb2 => ?_) (fun hb2 => ?_)
    · refine me1 (pc' := 36) (L' := [(4, ii (vk v : Int)), (0, .ref 102), (1, ii vb), (2, ii (hd : Int)), (3, ii place)]) (S' := [ii (vk v : Int)]) dm_X12_through_34 rfl rfl rfl rfl ?_
      refine me0 (pc' := 38) (S' := [ii 6, ii (vk v : Int)]) dm_X12_through_36 rfl rfl rfl rfl ?_
      refine y_2ne (a := (vk v : Int)) (b := 6) (t := 55) (pc' := 41) dm_X12_through_38 rfl rfl (by omega) (fun hb3 => ?_) (fun hb3 => ?_)
      · refine me1 (pc' := 56) (L' := [(4, ii (vk v : Int)), (0, .ref 102), (1, ii vb), (2, ii (hd : Int)), (3, ii place)]) (S' := [.ref 102]) dm_X12_through_55 rfl rfl rfl rfl ?_
        refine me1 (pc' := 57) (L' := [(4, ii (vk v : Int)), (0, .ref 102), (1, ii vb), (2, ii (hd : Int)), (3, ii place)]) (S' := [ii (hd : Int), .ref 102]) dm_X12_through_56 rfl rfl rfl rfl ?_
        refine x_cp (pc' := 60) (v := ii (vm v : Int)) (rest := []) dm_X12_through_57 rfl (q_inv (As := [ii (hd : Int)]) (S := []) hm rfl rfl rfl) rfl rfl rfl (r_many_ hm (by omega) hB0 hv) ?_
        refine me1 (pc' := 62) (L' := [(5, ii (vm v : Int)), (4, ii (vk v : Int)), (0, .ref 102), (1, ii vb), (2, ii (hd : Int)), (3, ii place)]) (S' := []) dm_X12_through_60 rfl rfl rfl rfl ?_
        refine me1 (pc' := 64) (L' := [(5, ii (vm v : Int)), (4, ii (vk v : Int)), (0, .ref 102), (1, ii vb), (2, ii (hd : Int)), (3, ii place)]) (S' := [ii (vk v : Int)]) dm_X12_through_62 rfl rfl rfl rfl ?_
        refine me0 (pc' := 66) (S' := [ii 6, ii (vk v : Int)]) dm_X12_through_64 rfl rfl rfl rfl ?_
        refine y_2ne (a := (vk v : Int)) (b := 6) (t := 86) (pc' := 69) dm_X12_through_66 rfl rfl (by omega) (fun hb4 => ?_) (fun hb4 => ?_)
        · refine me1 (pc' := 87) (L' := [(5, ii (vm v : Int)), (4, ii (vk v : Int)), (0, .ref 102), (1, ii vb), (2, ii (hd : Int)), (3, ii place)]) (S' := [.ref 102]) dm_X12_through_86 rfl rfl rfl rfl ?_
          refine me1 (pc' := 89) (L' := [(5, ii (vm v : Int)), (4, ii (vk v : Int)), (0, .ref 102), (1, ii vb), (2, ii (hd : Int)), (3, ii place)]) (S' := [ii (vk v : Int), .ref 102]) dm_X12_through_87 rfl rfl rfl rfl ?_
          refine me0 (pc' := 91) (S' := [ii 7, ii (vk v : Int), .ref 102]) dm_X12_through_89 rfl rfl rfl rfl ?_
          refine y_2ne (a := (vk v : Int)) (b := 7) (t := 99) (pc' := 94) dm_X12_through_91 rfl rfl (by omega) (fun hb5 => ?_) (fun hb5 => ?_)
          · refine me1 (pc' := 101) (L' := [(5, ii (vm v : Int)), (4, ii (vk v : Int)), (0, .ref 102), (1, ii vb), (2, ii (hd : Int)), (3, ii place)]) (S' := [ii (vk v : Int), .ref 102]) dm_X12_through_99 rfl rfl rfl rfl ?_
            refine y_1ne (a := (vk v : Int)) (t := 108) (pc' := 104) dm_X12_through_101 rfl rfl (by omega) (fun hb6 => ?_) (fun hb6 => ?_)
            · exfalso; omega
            · refine me0 (pc' := 105) (S' := [ii 0, .ref 102]) dm_X12_through_104 rfl rfl rfl rfl ?_
              refine me2 (pc' := 119) (S' := [ii 0, .ref 102]) dm_X12_through_105 rfl rfl rfl ?_
              refine me1 (pc' := 121) (L' := [(5, ii (vm v : Int)), (4, ii (vk v : Int)), (0, .ref 102), (1, ii vb), (2, ii (hd : Int)), (3, ii place)]) (S' := [ii (vm v : Int), ii 0, .ref 102]) dm_X12_through_119 rfl rfl rfl rfl ?_
              refine x_cv (pc' := 124) (rest := []) dm_X12_through_121 rfl (q_inv (As := [ii 0, ii (vm v : Int)]) (S := []) hm rfl rfl rfl) rfl rfl rfl (r_row_ (q := q) (b := b) (s := s) hm (by omega) hq hb (by omega) (by omega) (by omega)) ?_
              rintro _ _ ⟨rfl, rfl⟩
              refine me1 (pc' := 126) (L' := [(6, ii (q : Int)), (5, ii (vm v : Int)), (4, ii (vk v : Int)), (0, .ref 102), (1, ii vb), (2, ii (hd : Int)), (3, ii place)]) (S' := []) dm_X12_through_124 rfl rfl rfl rfl ?_
              have hxT : rext s (rowS s q b 0 (vm v : Int)) := rext_row hq hb _ (by omega)
              have hBT : rB (rowS s q b 0 (vm v : Int)) := ⟨by show 3 ≤ (q : Int) + 1; omega, by show (q : Int) + 1 ≤ 310000; omega, by show 0 ≤ (b : Int) + (vm v : Int); omega, by show (b : Int) + (vm v : Int) ≤ 820000; omega⟩
              have hvT : ∀ (k : Nat) (F : Nat → Int64), rv (fillS (rowS s q b 0 (vm v : Int)) b k F) (e + 1) hd v := fun k F => rv_ext (rext_fill hxT (by omega) F) hh3 hv
              refine me0 (pc' := 127) (S' := [ii 0]) dm_X12_through_126 rfl rfl rfl rfl ?_
              refine me1 (pc' := 129) (L' := [(7, ii 0), (6, ii (q : Int)), (5, ii (vm v : Int)), (4, ii (vk v : Int)), (0, .ref 102), (1, ii vb), (2, ii (hd : Int)), (3, ii place)]) (S' := []) dm_X12_through_127 rfl rfl rfl rfl ?_
              have lp129 : ∀ (n129 : Nat) (k : Nat), (vm v) - k = n129 → (k ≤ (vm v)) → (errs (fun j => (outT (vbo vb) z0 v (lkV z0 v) j).1) k = 0) → pgE xt (d - 1) 12 10 false (Option.some Jvm.ClassFile.FieldType.int) (mj_dec prog_14_method_31_code) 129 [(0, .ref 102), (1, ii vb), (2, ii (hd : Int)), (3, ii place), (4, ii (vk v : Int)), (5, ii (vm v : Int)), (6, ii (q : Int)), (7, ii ((k : Nat) : Int))] [] (rI pre post ((fillS (rowS s q b 0 (vm v : Int)) b k (flG (vbo vb) z0 v)).1) ((fillS (rowS s q b 0 (vm v : Int)) b k (flG (vbo vb) z0 v)).2.1) ((fillS (rowS s q b 0 (vm v : Int)) b k (flG (vbo vb) z0 v)).2.2.1) ((fillS (rowS s q b 0 (vm v : Int)) b k (flG (vbo vb) z0 v)).2.2.2)) (fun r h' => ∃ x, r = some x ∧ rresN pre post s (e + 1) (pfl (vbo vb) z0 v) place (vq v) 1 x h') := by
                intro n129
                induction n129 using Nat.strongRecOn with
                | ind n129 ih129 =>
                  intro k hm129 hk hes
                  refine me1 (pc' := 131) (L' := [(0, .ref 102), (1, ii vb), (2, ii (hd : Int)), (3, ii place), (4, ii (vk v : Int)), (5, ii (vm v : Int)), (6, ii (q : Int)), (7, ii ((k : Nat) : Int))]) (S' := [ii ((k : Nat) : Int)]) dm_X12_through_129 rfl rfl rfl rfl ?_
                  refine me1 (pc' := 133) (L' := [(0, .ref 102), (1, ii vb), (2, ii (hd : Int)), (3, ii place), (4, ii (vk v : Int)), (5, ii (vm v : Int)), (6, ii (q : Int)), (7, ii ((k : Nat) : Int))]) (S' := [ii (vm v : Int), ii ((k : Nat) : Int)]) dm_X12_through_131 rfl rfl rfl rfl ?_
                  refine y_2ge (a := ((k : Nat) : Int)) (b := (vm v : Int)) (t := 256) (pc' := 136) dm_X12_through_133 rfl rfl (by omega) (fun hb7 => ?_) (fun hb7 => ?_)
                  · refine me1 (pc' := 257) (L' := [(0, .ref 102), (1, ii vb), (2, ii (hd : Int)), (3, ii place), (4, ii (vk v : Int)), (5, ii (vm v : Int)), (6, ii (q : Int)), (7, ii ((k : Nat) : Int))]) (S' := [.ref 102]) dm_X12_through_256 rfl rfl rfl rfl ?_
                    refine me1 (pc' := 259) (L' := [(0, .ref 102), (1, ii vb), (2, ii (hd : Int)), (3, ii place), (4, ii (vk v : Int)), (5, ii (vm v : Int)), (6, ii (q : Int)), (7, ii ((k : Nat) : Int))]) (S' := [ii (q : Int), .ref 102]) dm_X12_through_257 rfl rfl rfl rfl ?_
                    refine x_cp (pc' := 262) (v := ii 0) (rest := []) dm_X12_through_259 rfl (q_inv (As := [ii (q : Int)]) (S := []) hm rfl rfl rfl) rfl rfl rfl (r_kindRaw_ (s := (fillS (rowS s q b 0 (vm v : Int)) b k (flG (vbo vb) z0 v))) (kd := 0) (z := (vm v : Int)) hm (by omega) (by omega) (by show va_up (s.2.2.1 2) q (0 + (vm v : Int) * 8) q = _; rw [up_eq]; omega) (by decide) (by omega)) ?_
                    refine me0 (pc' := 263) (S' := [ii 5, ii 0]) dm_X12_through_262 rfl rfl rfl rfl ?_
                    refine me_2t (pc' := 275) dm_X12_through_263 rfl (by decide) ?_
                    refine me1 (pc' := 277) (L' := [(0, .ref 102), (1, ii vb), (2, ii (hd : Int)), (3, ii place), (4, ii (vk v : Int)), (5, ii (vm v : Int)), (6, ii (q : Int)), (7, ii ((k : Nat) : Int))]) (S' := [ii (q : Int)]) dm_X12_through_275 rfl rfl rfl rfl ?_
                    refine y_ret (r := some (ii (q : Int))) dm_X12_through_277 rfl rfl rfl ?_
                    have hkN : k = (vm v) := by omega
                    rw [hkN] at hes
                    rw [hkN]
                    have hall := errs_all hes
                    rw [pfl_v haz (by rw [hlq]; exact hes)]
                    have hN1 : (vm v) = 1 := (hv.1.2.1 (by omega)).1
                    rw [show flV (vbo vb) z0 v = v1 0 (flG (vbo vb) z0 v 0) by unfold flV; rw [hlk, if_pos (by omega)]]
                    exact ⟨_, rfl, rresN_mk (rext_fill hxT (by omega) _) (rfr_tr (rfr_row s q b _ _) (rfr_fill _ _ _ _)) (by show (b : Int) + (vm v : Int) ≤ _; omega) (by show (q : Int) + 1 ≤ _; omega) he0 rfl hq3 (by rw [hb]; exact rvN_rowS (kind := 0) hq3 (vw1_one (by omega)) (by show ¬ 0 = 7; omega) (by show ¬ 0 = 6; omega) rfl (by show 1 = _; omega) rfl (fun k hk => by rw [show k = 0 by omega]; rfl))⟩
                  · refine me1 (pc' := 137) (L' := [(0, .ref 102), (1, ii vb), (2, ii (hd : Int)), (3, ii place), (4, ii (vk v : Int)), (5, ii (vm v : Int)), (6, ii (q : Int)), (7, ii ((k : Nat) : Int))]) (S' := [.ref 102]) dm_X12_through_136 rfl rfl rfl rfl ?_
                    refine me3 (pc' := 140) (S' := [ii (((fillS (rowS s q b 0 (vm v : Int)) b k (flG (vbo vb) z0 v)).1) 5)]) dm_X12_through_137 (q_geti (v := ((fillS (rowS s q b 0 (vm v : Int)) b k (flG (vbo vb) z0 v)).1) 5) hm rfl (fun m i l => rg_5 m i l) rfl) rfl rfl rfl ?_
                    refine pg_st (S' := [ii 0]) (congrArg (fun z => ii z :: []) (he0)) ?_
                    refine me_1f (pc' := 143) dm_X12_through_140 rfl (by decide) rfl ?_
                    refine me1 (pc' := 145) (L' := [(0, .ref 102), (1, ii vb), (2, ii (hd : Int)), (3, ii place), (4, ii (vk v : Int)), (5, ii (vm v : Int)), (6, ii (q : Int)), (7, ii ((k : Nat) : Int))]) (S' := [ii (vk v : Int)]) dm_X12_through_143 rfl rfl rfl rfl ?_
                    refine me0 (pc' := 147) (S' := [ii 7, ii (vk v : Int)]) dm_X12_through_145 rfl rfl rfl rfl ?_
                    refine y_2ne (a := (vk v : Int)) (b := 7) (t := 182) (pc' := 150) dm_X12_through_147 rfl rfl (by omega) (fun hb8 => ?_) (fun hb8 => ?_)
                    · have hns : ¬ (vk v = 1 ∨ vk v = 3) := by omega
                      refine me1 (pc' := 183) (L' := [(0, .ref 102), (1, ii vb), (2, ii (hd : Int)), (3, ii place), (4, ii (vk v : Int)), (5, ii (vm v : Int)), (6, ii (q : Int)), (7, ii ((k : Nat) : Int))]) (S' := [ii vb]) dm_X12_through_182 rfl rfl rfl rfl ?_
                      refine me1 (pc' := 184) (L' := [(0, .ref 102), (1, ii vb), (2, ii (hd : Int)), (3, ii place), (4, ii (vk v : Int)), (5, ii (vm v : Int)), (6, ii (q : Int)), (7, ii ((k : Nat) : Int))]) (S' := [.ref 102, ii vb]) dm_X12_through_183 rfl rfl rfl rfl ?_
                      refine me1 (pc' := 185) (L' := [(0, .ref 102), (1, ii vb), (2, ii (hd : Int)), (3, ii place), (4, ii (vk v : Int)), (5, ii (vm v : Int)), (6, ii (q : Int)), (7, ii ((k : Nat) : Int))]) (S' := [ii (hd : Int), .ref 102, ii vb]) dm_X12_through_184 rfl rfl rfl rfl ?_
                      refine me1 (pc' := 187) (L' := [(0, .ref 102), (1, ii vb), (2, ii (hd : Int)), (3, ii place), (4, ii (vk v : Int)), (5, ii (vm v : Int)), (6, ii (q : Int)), (7, ii ((k : Nat) : Int))]) (S' := [ii ((k : Nat) : Int), ii (hd : Int), .ref 102, ii vb]) dm_X12_through_185 rfl rfl rfl rfl ?_
                      refine x_cp (pc' := 190) (v := .long (vn v k)) (rest := [ii vb]) dm_X12_through_187 rfl (q_inv (As := [ii (hd : Int), ii ((k : Nat) : Int)]) (S := [ii vb]) hm rfl rfl rfl) rfl rfl rfl (r_number_ (k := k) hm (by omega) hBT (hvT _ _) (by omega) (by omega)) ?_
                      refine x_cp (pc' := 193) (v := .long (trn vb (vn v k))) (rest := []) dm_X12_through_190 rfl (g_invs (As := [ii vb, .long (vn v k)]) (S := []) rfl rfl rfl) rfl rfl rfl (r_turned_ (by omega) hvb) ?_
                      refine me1 (pc' := 195) (L' := [(8, .long (trn vb (vn v k))), (0, .ref 102), (1, ii vb), (2, ii (hd : Int)), (3, ii place), (4, ii (vk v : Int)), (5, ii (vm v : Int)), (6, ii (q : Int)), (7, ii ((k : Nat) : Int))]) (S' := []) dm_X12_through_193 rfl rfl rfl rfl ?_
                      have hvk9 : vnum v ((k : Nat) : Int) = vn v k := vnum_q hv.1 (by omega) (by omega)
                      have hout : outF (vbo vb) (vk z0) (vk v) (vnum z0 ((k : Nat) : Int)) (vnum v ((k : Nat) : Int)) = (if vb = 45 ∧ trn vb (vn v k) = Int64.ofInt (-9223372036854775808) then 6 else 0, trn vb (vn v k)) := by rw [vnum_z, hvk9]; exact trn_o hvb hns
                      refine me1 (pc' := 196) (L' := [(8, .long (trn vb (vn v k))), (0, .ref 102), (1, ii vb), (2, ii (hd : Int)), (3, ii place), (4, ii (vk v : Int)), (5, ii (vm v : Int)), (6, ii (q : Int)), (7, ii ((k : Nat) : Int))]) (S' := [ii vb]) dm_X12_through_195 rfl rfl rfl rfl ?_
                      refine me0 (pc' := 198) (S' := [ii 45, ii vb]) dm_X12_through_196 rfl rfl rfl rfl ?_
                      refine y_2ne (a := vb) (b := 45) (t := 210) (pc' := 201) dm_X12_through_198 rfl rfl (by omega) (fun hb9 => ?_) (fun hb9 => ?_)
                      · have hof : (outF (vbo vb) (vk z0) (vk v) (vnum z0 ((k : Nat) : Int)) (vnum v ((k : Nat) : Int))).1 = 0 := by rw [hout]; exact if_neg (fun z => by have z1 := z.1; omega)
                        refine me1 (pc' := 212) (L' := [(8, .long (trn vb (vn v k))), (0, .ref 102), (1, ii vb), (2, ii (hd : Int)), (3, ii place), (4, ii (vk v : Int)), (5, ii (vm v : Int)), (6, ii (q : Int)), (7, ii ((k : Nat) : Int))]) (S' := [ii (vk v : Int)]) dm_X12_through_210 rfl rfl rfl rfl ?_
                        refine me0 (pc' := 214) (S' := [ii 6, ii (vk v : Int)]) dm_X12_through_212 rfl rfl rfl rfl ?_
                        refine y_2ne (a := (vk v : Int)) (b := 6) (t := 233) (pc' := 217) dm_X12_through_214 rfl rfl (by omega) (fun hb10 => ?_) (fun hb10 => ?_)
                        · have hoT : (outT (vbo vb) z0 v (lkV z0 v) k).1 = 0 := (outT_1 (fun z => by have z2 := z.2.1; rw [hlk] at z2; omega)).trans hof
                          refine me1 (pc' := 234) (L' := [(8, .long (trn vb (vn v k))), (0, .ref 102), (1, ii vb), (2, ii (hd : Int)), (3, ii place), (4, ii (vk v : Int)), (5, ii (vm v : Int)), (6, ii (q : Int)), (7, ii ((k : Nat) : Int))]) (S' := [.ref 102]) dm_X12_through_233 rfl rfl rfl rfl ?_
                          refine me3 (pc' := 237) (S' := [.ref (102 + 1)]) dm_X12_through_234 (q_getr hm rfl (fun m i l => rg_0 m i l)) rfl rfl rfl ?_
                          refine me1 (pc' := 238) (L' := [(8, .long (trn vb (vn v k))), (0, .ref 102), (1, ii vb), (2, ii (hd : Int)), (3, ii place), (4, ii (vk v : Int)), (5, ii (vm v : Int)), (6, ii (q : Int)), (7, ii ((k : Nat) : Int))]) (S' := [.ref 102, .ref (102 + 1)]) dm_X12_through_237 rfl rfl rfl rfl ?_
                          refine me3 (pc' := 241) (S' := [.ref (102 + 2), .ref (102 + 1)]) dm_X12_through_238 (q_getr hm rfl (fun m i l => rg_1 m i l)) rfl rfl rfl ?_
                          refine me1 (pc' := 243) (L' := [(8, .long (trn vb (vn v k))), (0, .ref 102), (1, ii vb), (2, ii (hd : Int)), (3, ii place), (4, ii (vk v : Int)), (5, ii (vm v : Int)), (6, ii (q : Int)), (7, ii ((k : Nat) : Int))]) (S' := [ii (q : Int), .ref (102 + 2), .ref (102 + 1)]) dm_X12_through_241 rfl rfl rfl rfl ?_
                          refine me3 (pc' := 244) (S' := [ii ((((fillS (rowS s q b 0 (vm v : Int)) b k (flG (vbo vb) z0 v)).2.2.1) 1) q), .ref (102 + 1)]) dm_X12_through_243 (q_iald (v := (((fillS (rowS s q b 0 (vm v : Int)) b k (flG (vbo vb) z0 v)).2.2.1) 1) q) (k := 1) (n := 310000) hm (fun m i l I J => rc_1 m i l I J) (by omega) (by omega) (by decide) rfl) rfl rfl rfl ?_
                          refine pg_st (S' := [ii (b : Int), .ref (102 + 1)]) (congrArg (fun z => ii z :: [.ref (102 + 1)]) (up_eq _ _ _)) ?_
                          refine me1 (pc' := 246) (L' := [(8, .long (trn vb (vn v k))), (0, .ref 102), (1, ii vb), (2, ii (hd : Int)), (3, ii place), (4, ii (vk v : Int)), (5, ii (vm v : Int)), (6, ii (q : Int)), (7, ii ((k : Nat) : Int))]) (S' := [ii ((k : Nat) : Int), ii (b : Int), .ref (102 + 1)]) dm_X12_through_244 rfl rfl rfl rfl ?_
                          refine y_iadd (a := (b : Int)) (b := ((k : Nat) : Int)) dm_X12_through_246 (pc' := 247) rfl ?_
                          refine me1 (pc' := 249) (L' := [(8, .long (trn vb (vn v k))), (0, .ref 102), (1, ii vb), (2, ii (hd : Int)), (3, ii place), (4, ii (vk v : Int)), (5, ii (vm v : Int)), (6, ii (q : Int)), (7, ii ((k : Nat) : Int))]) (S' := [.long (trn vb (vn v k)), ii ((b : Int) + ((k : Nat) : Int)), .ref (102 + 1)]) dm_X12_through_247 rfl rfl rfl rfl ?_
                          refine pg_st (S' := [.long ((flG (vbo vb) z0 v) k), ii ((b : Int) + ((k : Nat) : Int)), .ref (102 + 1)]) (congrArg (fun z => Value.long z :: [ii ((b : Int) + ((k : Nat) : Int)), .ref (102 + 1)]) (by show _ = (outT (vbo vb) z0 v (lkV z0 v) k).2; rw [outT_2, hout])) ?_
                          refine me3 (pc' := 250) (S' := []) (h1 := rI pre post ((fillS (rowS s q b 0 (vm v : Int)) b k (flG (vbo vb) z0 v)).1) ((fillS (rowS s q b 0 (vm v : Int)) b k (flG (vbo vb) z0 v)).2.1) ((fillS (rowS s q b 0 (vm v : Int)) b k (flG (vbo vb) z0 v)).2.2.1) (va_up ((fillS (rowS s q b 0 (vm v : Int)) b k (flG (vbo vb) z0 v)).2.2.2) 0 (va_up (((fillS (rowS s q b 0 (vm v : Int)) b k (flG (vbo vb) z0 v)).2.2.2) 0) (b + k) ((flG (vbo vb) z0 v) k)))) dm_X12_through_249 (q_last (j := (b : Int) + ((k : Nat) : Int)) (k := 0) (n := 820000) hm (fun m i l I J => rc_0 m i l I J) (fun m i l I J f => rs_0 m i l I J f) (by omega) (by omega) (by decide)) rfl rfl rfl ?_
                          refine y_iinc (pc' := 253) (L' := [(7, ii (((k : Nat) : Int) + 1)), (8, .long (trn vb (vn v k))), (0, .ref 102), (1, ii vb), (2, ii (hd : Int)), (3, ii place), (4, ii (vk v : Int)), (5, ii (vm v : Int)), (6, ii (q : Int))]) dm_X12_through_250 (y_incp (a := ((k : Nat) : Int)) (c := 1) rfl rfl (by decide)) rfl ?_
                          refine me2 (pc' := 129) (S' := []) dm_X12_through_253 rfl rfl rfl ?_
                          refine pg_cast (h2 := rI pre post ((fillS (rowS s q b 0 (vm v : Int)) b (k + 1) (flG (vbo vb) z0 v)).1) ((fillS (rowS s q b 0 (vm v : Int)) b (k + 1) (flG (vbo vb) z0 v)).2.1) ((fillS (rowS s q b 0 (vm v : Int)) b (k + 1) (flG (vbo vb) z0 v)).2.2.1) ((fillS (rowS s q b 0 (vm v : Int)) b (k + 1) (flG (vbo vb) z0 v)).2.2.2)) (fill_s (rowS s q b 0 (vm v : Int)) b k (flG (vbo vb) z0 v)) ?_
                          exact pg_sub (L := [(0, .ref 102), (1, ii vb), (2, ii (hd : Int)), (3, ii place), (4, ii (vk v : Int)), (5, ii (vm v : Int)), (6, ii (q : Int)), (7, ii (((k + 1) : Nat) : Int))]) rfl rfl rfl (ih129 ((vm v) - (k + 1)) (by omega) (k + 1) rfl (by omega) ((errs_s0 hes).trans hoT))
                        · exfalso; omega
                      · refine me1 (pc' := 203) (L' := [(8, .long (trn vb (vn v k))), (0, .ref 102), (1, ii vb), (2, ii (hd : Int)), (3, ii place), (4, ii (vk v : Int)), (5, ii (vm v : Int)), (6, ii (q : Int)), (7, ii ((k : Nat) : Int))]) (S' := [.long (trn vb (vn v k))]) dm_X12_through_201 rfl rfl rfl rfl ?_
                        refine me3 (pc' := 206) (S' := [.long (Int64.ofInt (-9223372036854775808)), .long (trn vb (vn v k))]) dm_X12_through_203 rfl rfl rfl rfl ?_
                        refine y_leq (x := trn vb (vn v k)) (y := Int64.ofInt (-9223372036854775808)) (t := 225) (pc1 := 207) (pc' := 210) dm_X12_through_206 rfl dm_X12_through_207 rfl rfl (fun hb11 => ?_) (fun hb11 => ?_)
                        · have hb11i := congrArg Int64.toInt hb11
                          have hoT6 : (outT (vbo vb) z0 v (lkV z0 v) k).1 = 6 := by have h9 : (outF (vbo vb) (vk z0) (vk v) (vnum z0 ((k : Nat) : Int)) (vnum v ((k : Nat) : Int))).1 = 6 := (by rw [hout]; exact if_pos ⟨by omega, hb11⟩); rw [outT_1 (fun z => by rw [h9] at z; exact absurd z.1 (by decide)), h9]
                          refine me1 (pc' := 226) (L' := [(8, .long (trn vb (vn v k))), (0, .ref 102), (1, ii vb), (2, ii (hd : Int)), (3, ii place), (4, ii (vk v : Int)), (5, ii (vm v : Int)), (6, ii (q : Int)), (7, ii ((k : Nat) : Int))]) (S' := [.ref 102]) dm_X12_through_225 rfl rfl rfl rfl ?_
                          refine me0 (pc' := 228) (S' := [ii 6, .ref 102]) dm_X12_through_226 rfl rfl rfl rfl ?_
                          refine me1 (pc' := 229) (L' := [(8, .long (trn vb (vn v k))), (0, .ref 102), (1, ii vb), (2, ii (hd : Int)), (3, ii place), (4, ii (vk v : Int)), (5, ii (vm v : Int)), (6, ii (q : Int)), (7, ii ((k : Nat) : Int))]) (S' := [ii place, ii 6, .ref 102]) dm_X12_through_228 rfl rfl rfl rfl ?_
                          refine x_cv (pc' := 232) (rest := []) dm_X12_through_229 rfl (q_inv (As := [ii 6, ii place]) (S := []) hm rfl rfl rfl) rfl rfl rfl (r_fail_ (s := (fillS (rowS s q b 0 (vm v : Int)) b k (flG (vbo vb) z0 v))) hm (by omega) he0 hca.1 hca.2) ?_
                          rintro _ _ ⟨rfl, rfl⟩
                          refine y_ret (r := some (ii (-1))) dm_X12_through_232 rfl rfl rfl ?_
                          rw [pfl_e (n := 6) haz hes (by omega) hoT6 rfl (by decide)]
                          exact ⟨_, rfl, rresN_f (rext_fail (rext_fill hxT (by omega) _) _ _) (rfr_fail (rfr_tr (rfr_row s q b _ _) (rfr_fill _ _ _ _)) _ _) (by show (b : Int) + (vm v : Int) ≤ _; omega) (by show (q : Int) + 1 ≤ _; omega) rfl rfl (by decide)⟩
                        · have hb11i : ¬ (trn vb (vn v k)).toInt = (Int64.ofInt (-9223372036854775808)).toInt := fun z => hb11 (Int64.toInt_inj.mp z)
                          have hof : (outF (vbo vb) (vk z0) (vk v) (vnum z0 ((k : Nat) : Int)) (vnum v ((k : Nat) : Int))).1 = 0 := by rw [hout]; exact if_neg (fun z => hb11 z.2)
                          refine me1 (pc' := 212) (L' := [(8, .long (trn vb (vn v k))), (0, .ref 102), (1, ii vb), (2, ii (hd : Int)), (3, ii place), (4, ii (vk v : Int)), (5, ii (vm v : Int)), (6, ii (q : Int)), (7, ii ((k : Nat) : Int))]) (S' := [ii (vk v : Int)]) dm_X12_through_210 rfl rfl rfl rfl ?_
                          refine me0 (pc' := 214) (S' := [ii 6, ii (vk v : Int)]) dm_X12_through_212 rfl rfl rfl rfl ?_
                          refine y_2ne (a := (vk v : Int)) (b := 6) (t := 233) (pc' := 217) dm_X12_through_214 rfl rfl (by omega) (fun hb12 => ?_) (fun hb12 => ?_)
                          · have hoT : (outT (vbo vb) z0 v (lkV z0 v) k).1 = 0 := (outT_1 (fun z => by have z2 := z.2.1; rw [hlk] at z2; omega)).trans hof
                            refine me1 (pc' := 234) (L' := [(8, .long (trn vb (vn v k))), (0, .ref 102), (1, ii vb), (2, ii (hd : Int)), (3, ii place), (4, ii (vk v : Int)), (5, ii (vm v : Int)), (6, ii (q : Int)), (7, ii ((k : Nat) : Int))]) (S' := [.ref 102]) dm_X12_through_233 rfl rfl rfl rfl ?_
                            refine me3 (pc' := 237) (S' := [.ref (102 + 1)]) dm_X12_through_234 (q_getr hm rfl (fun m i l => rg_0 m i l)) rfl rfl rfl ?_
                            refine me1 (pc' := 238) (L' := [(8, .long (trn vb (vn v k))), (0, .ref 102), (1, ii vb), (2, ii (hd : Int)), (3, ii place), (4, ii (vk v : Int)), (5, ii (vm v : Int)), (6, ii (q : Int)), (7, ii ((k : Nat) : Int))]) (S' := [.ref 102, .ref (102 + 1)]) dm_X12_through_237 rfl rfl rfl rfl ?_
                            refine me3 (pc' := 241) (S' := [.ref (102 + 2), .ref (102 + 1)]) dm_X12_through_238 (q_getr hm rfl (fun m i l => rg_1 m i l)) rfl rfl rfl ?_
                            refine me1 (pc' := 243) (L' := [(8, .long (trn vb (vn v k))), (0, .ref 102), (1, ii vb), (2, ii (hd : Int)), (3, ii place), (4, ii (vk v : Int)), (5, ii (vm v : Int)), (6, ii (q : Int)), (7, ii ((k : Nat) : Int))]) (S' := [ii (q : Int), .ref (102 + 2), .ref (102 + 1)]) dm_X12_through_241 rfl rfl rfl rfl ?_
                            refine me3 (pc' := 244) (S' := [ii ((((fillS (rowS s q b 0 (vm v : Int)) b k (flG (vbo vb) z0 v)).2.2.1) 1) q), .ref (102 + 1)]) dm_X12_through_243 (q_iald (v := (((fillS (rowS s q b 0 (vm v : Int)) b k (flG (vbo vb) z0 v)).2.2.1) 1) q) (k := 1) (n := 310000) hm (fun m i l I J => rc_1 m i l I J) (by omega) (by omega) (by decide) rfl) rfl rfl rfl ?_
                            refine pg_st (S' := [ii (b : Int), .ref (102 + 1)]) (congrArg (fun z => ii z :: [.ref (102 + 1)]) (up_eq _ _ _)) ?_
                            refine me1 (pc' := 246) (L' := [(8, .long (trn vb (vn v k))), (0, .ref 102), (1, ii vb), (2, ii (hd : Int)), (3, ii place), (4, ii (vk v : Int)), (5, ii (vm v : Int)), (6, ii (q : Int)), (7, ii ((k : Nat) : Int))]) (S' := [ii ((k : Nat) : Int), ii (b : Int), .ref (102 + 1)]) dm_X12_through_244 rfl rfl rfl rfl ?_
                            refine y_iadd (a := (b : Int)) (b := ((k : Nat) : Int)) dm_X12_through_246 (pc' := 247) rfl ?_
                            refine me1 (pc' := 249) (L' := [(8, .long (trn vb (vn v k))), (0, .ref 102), (1, ii vb), (2, ii (hd : Int)), (3, ii place), (4, ii (vk v : Int)), (5, ii (vm v : Int)), (6, ii (q : Int)), (7, ii ((k : Nat) : Int))]) (S' := [.long (trn vb (vn v k)), ii ((b : Int) + ((k : Nat) : Int)), .ref (102 + 1)]) dm_X12_through_247 rfl rfl rfl rfl ?_
                            refine pg_st (S' := [.long ((flG (vbo vb) z0 v) k), ii ((b : Int) + ((k : Nat) : Int)), .ref (102 + 1)]) (congrArg (fun z => Value.long z :: [ii ((b : Int) + ((k : Nat) : Int)), .ref (102 + 1)]) (by show _ = (outT (vbo vb) z0 v (lkV z0 v) k).2; rw [outT_2, hout])) ?_
                            refine me3 (pc' := 250) (S' := []) (h1 := rI pre post ((fillS (rowS s q b 0 (vm v : Int)) b k (flG (vbo vb) z0 v)).1) ((fillS (rowS s q b 0 (vm v : Int)) b k (flG (vbo vb) z0 v)).2.1) ((fillS (rowS s q b 0 (vm v : Int)) b k (flG (vbo vb) z0 v)).2.2.1) (va_up ((fillS (rowS s q b 0 (vm v : Int)) b k (flG (vbo vb) z0 v)).2.2.2) 0 (va_up (((fillS (rowS s q b 0 (vm v : Int)) b k (flG (vbo vb) z0 v)).2.2.2) 0) (b + k) ((flG (vbo vb) z0 v) k)))) dm_X12_through_249 (q_last (j := (b : Int) + ((k : Nat) : Int)) (k := 0) (n := 820000) hm (fun m i l I J => rc_0 m i l I J) (fun m i l I J f => rs_0 m i l I J f) (by omega) (by omega) (by decide)) rfl rfl rfl ?_
                            refine y_iinc (pc' := 253) (L' := [(7, ii (((k : Nat) : Int) + 1)), (8, .long (trn vb (vn v k))), (0, .ref 102), (1, ii vb), (2, ii (hd : Int)), (3, ii place), (4, ii (vk v : Int)), (5, ii (vm v : Int)), (6, ii (q : Int))]) dm_X12_through_250 (y_incp (a := ((k : Nat) : Int)) (c := 1) rfl rfl (by decide)) rfl ?_
                            refine me2 (pc' := 129) (S' := []) dm_X12_through_253 rfl rfl rfl ?_
                            refine pg_cast (h2 := rI pre post ((fillS (rowS s q b 0 (vm v : Int)) b (k + 1) (flG (vbo vb) z0 v)).1) ((fillS (rowS s q b 0 (vm v : Int)) b (k + 1) (flG (vbo vb) z0 v)).2.1) ((fillS (rowS s q b 0 (vm v : Int)) b (k + 1) (flG (vbo vb) z0 v)).2.2.1) ((fillS (rowS s q b 0 (vm v : Int)) b (k + 1) (flG (vbo vb) z0 v)).2.2.2)) (fill_s (rowS s q b 0 (vm v : Int)) b k (flG (vbo vb) z0 v)) ?_
                            exact pg_sub (L := [(0, .ref 102), (1, ii vb), (2, ii (hd : Int)), (3, ii place), (4, ii (vk v : Int)), (5, ii (vm v : Int)), (6, ii (q : Int)), (7, ii (((k + 1) : Nat) : Int))]) rfl rfl rfl (ih129 ((vm v) - (k + 1)) (by omega) (k + 1) rfl (by omega) ((errs_s0 hes).trans hoT))
                          · exfalso; omega
                    · exfalso; omega
              refine pg_cast (h2 := rI pre post ((fillS (rowS s q b 0 (vm v : Int)) b 0 (flG (vbo vb) z0 v)).1) ((fillS (rowS s q b 0 (vm v : Int)) b 0 (flG (vbo vb) z0 v)).2.1) ((fillS (rowS s q b 0 (vm v : Int)) b 0 (flG (vbo vb) z0 v)).2.2.1) ((fillS (rowS s q b 0 (vm v : Int)) b 0 (flG (vbo vb) z0 v)).2.2.2)) (fill_0 (rowS s q b 0 (vm v : Int)) b (flG (vbo vb) z0 v)) ?_
              exact pg_sub (L := [(0, .ref 102), (1, ii vb), (2, ii (hd : Int)), (3, ii place), (4, ii (vk v : Int)), (5, ii (vm v : Int)), (6, ii (q : Int)), (7, ii ((0 : Nat) : Int))]) rfl rfl rfl (lp129 _ 0 rfl (Nat.zero_le _) rfl)
          · exfalso; omega
        · exfalso; omega
      · exfalso; omega
    · refine me1 (pc' := 20) (L' := [(4, ii (vk v : Int)), (0, .ref 102), (1, ii vb), (2, ii (hd : Int)), (3, ii place)]) (S' := [.ref 102]) dm_X12_through_19 rfl rfl rfl rfl ?_
      refine me1 (pc' := 21) (L' := [(4, ii (vk v : Int)), (0, .ref 102), (1, ii vb), (2, ii (hd : Int)), (3, ii place)]) (S' := [ii (hd : Int), .ref 102]) dm_X12_through_20 rfl rfl rfl rfl ?_
      refine x_cp (pc' := 24) (v := ii (vm v : Int)) (rest := []) dm_X12_through_21 rfl (q_inv (As := [ii (hd : Int)]) (S := []) hm rfl rfl rfl) rfl rfl rfl (r_many_ hm (by omega) hB0 hv) ?_
      refine y_1le (a := (vm v : Int)) (t := 34) (pc' := 27) dm_X12_through_24 rfl rfl (by omega) (fun hb13 => ?_) (fun hb13 => ?_)
      · refine me1 (pc' := 36) (L' := [(4, ii (vk v : Int)), (0, .ref 102), (1, ii vb), (2, ii (hd : Int)), (3, ii place)]) (S' := [ii (vk v : Int)]) dm_X12_through_34 rfl rfl rfl rfl ?_
        refine me0 (pc' := 38) (S' := [ii 6, ii (vk v : Int)]) dm_X12_through_36 rfl rfl rfl rfl ?_
        refine y_2ne (a := (vk v : Int)) (b := 6) (t := 55) (pc' := 41) dm_X12_through_38 rfl rfl (by omega) (fun hb14 => ?_) (fun hb14 => ?_)
        · refine me1 (pc' := 56) (L' := [(4, ii (vk v : Int)), (0, .ref 102), (1, ii vb), (2, ii (hd : Int)), (3, ii place)]) (S' := [.ref 102]) dm_X12_through_55 rfl rfl rfl rfl ?_
          refine me1 (pc' := 57) (L' := [(4, ii (vk v : Int)), (0, .ref 102), (1, ii vb), (2, ii (hd : Int)), (3, ii place)]) (S' := [ii (hd : Int), .ref 102]) dm_X12_through_56 rfl rfl rfl rfl ?_
          refine x_cp (pc' := 60) (v := ii (vm v : Int)) (rest := []) dm_X12_through_57 rfl (q_inv (As := [ii (hd : Int)]) (S := []) hm rfl rfl rfl) rfl rfl rfl (r_many_ hm (by omega) hB0 hv) ?_
          refine me1 (pc' := 62) (L' := [(5, ii (vm v : Int)), (4, ii (vk v : Int)), (0, .ref 102), (1, ii vb), (2, ii (hd : Int)), (3, ii place)]) (S' := []) dm_X12_through_60 rfl rfl rfl rfl ?_
          refine me1 (pc' := 64) (L' := [(5, ii (vm v : Int)), (4, ii (vk v : Int)), (0, .ref 102), (1, ii vb), (2, ii (hd : Int)), (3, ii place)]) (S' := [ii (vk v : Int)]) dm_X12_through_62 rfl rfl rfl rfl ?_
          refine me0 (pc' := 66) (S' := [ii 6, ii (vk v : Int)]) dm_X12_through_64 rfl rfl rfl rfl ?_
          refine y_2ne (a := (vk v : Int)) (b := 6) (t := 86) (pc' := 69) dm_X12_through_66 rfl rfl (by omega) (fun hb15 => ?_) (fun hb15 => ?_)
          · refine me1 (pc' := 87) (L' := [(5, ii (vm v : Int)), (4, ii (vk v : Int)), (0, .ref 102), (1, ii vb), (2, ii (hd : Int)), (3, ii place)]) (S' := [.ref 102]) dm_X12_through_86 rfl rfl rfl rfl ?_
            refine me1 (pc' := 89) (L' := [(5, ii (vm v : Int)), (4, ii (vk v : Int)), (0, .ref 102), (1, ii vb), (2, ii (hd : Int)), (3, ii place)]) (S' := [ii (vk v : Int), .ref 102]) dm_X12_through_87 rfl rfl rfl rfl ?_
            refine me0 (pc' := 91) (S' := [ii 7, ii (vk v : Int), .ref 102]) dm_X12_through_89 rfl rfl rfl rfl ?_
            refine y_2ne (a := (vk v : Int)) (b := 7) (t := 99) (pc' := 94) dm_X12_through_91 rfl rfl (by omega) (fun hb16 => ?_) (fun hb16 => ?_)
            · refine me1 (pc' := 101) (L' := [(5, ii (vm v : Int)), (4, ii (vk v : Int)), (0, .ref 102), (1, ii vb), (2, ii (hd : Int)), (3, ii place)]) (S' := [ii (vk v : Int), .ref 102]) dm_X12_through_99 rfl rfl rfl rfl ?_
              refine y_1ne (a := (vk v : Int)) (t := 108) (pc' := 104) dm_X12_through_101 rfl rfl (by omega) (fun hb17 => ?_) (fun hb17 => ?_)
              · exfalso; omega
              · refine me0 (pc' := 105) (S' := [ii 0, .ref 102]) dm_X12_through_104 rfl rfl rfl rfl ?_
                refine me2 (pc' := 119) (S' := [ii 0, .ref 102]) dm_X12_through_105 rfl rfl rfl ?_
                refine me1 (pc' := 121) (L' := [(5, ii (vm v : Int)), (4, ii (vk v : Int)), (0, .ref 102), (1, ii vb), (2, ii (hd : Int)), (3, ii place)]) (S' := [ii (vm v : Int), ii 0, .ref 102]) dm_X12_through_119 rfl rfl rfl rfl ?_
                refine x_cv (pc' := 124) (rest := []) dm_X12_through_121 rfl (q_inv (As := [ii 0, ii (vm v : Int)]) (S := []) hm rfl rfl rfl) rfl rfl rfl (r_row_ (q := q) (b := b) (s := s) hm (by omega) hq hb (by omega) (by omega) (by omega)) ?_
                rintro _ _ ⟨rfl, rfl⟩
                refine me1 (pc' := 126) (L' := [(6, ii (q : Int)), (5, ii (vm v : Int)), (4, ii (vk v : Int)), (0, .ref 102), (1, ii vb), (2, ii (hd : Int)), (3, ii place)]) (S' := []) dm_X12_through_124 rfl rfl rfl rfl ?_
                have hxT : rext s (rowS s q b 0 (vm v : Int)) := rext_row hq hb _ (by omega)
                have hBT : rB (rowS s q b 0 (vm v : Int)) := ⟨by show 3 ≤ (q : Int) + 1; omega, by show (q : Int) + 1 ≤ 310000; omega, by show 0 ≤ (b : Int) + (vm v : Int); omega, by show (b : Int) + (vm v : Int) ≤ 820000; omega⟩
                have hvT : ∀ (k : Nat) (F : Nat → Int64), rv (fillS (rowS s q b 0 (vm v : Int)) b k F) (e + 1) hd v := fun k F => rv_ext (rext_fill hxT (by omega) F) hh3 hv
                refine me0 (pc' := 127) (S' := [ii 0]) dm_X12_through_126 rfl rfl rfl rfl ?_
                refine me1 (pc' := 129) (L' := [(7, ii 0), (6, ii (q : Int)), (5, ii (vm v : Int)), (4, ii (vk v : Int)), (0, .ref 102), (1, ii vb), (2, ii (hd : Int)), (3, ii place)]) (S' := []) dm_X12_through_127 rfl rfl rfl rfl ?_
                have lp129 : ∀ (n129 : Nat) (k : Nat), (vm v) - k = n129 → (k ≤ (vm v)) → (errs (fun j => (outT (vbo vb) z0 v (lkV z0 v) j).1) k = 0) → pgE xt (d - 1) 12 10 false (Option.some Jvm.ClassFile.FieldType.int) (mj_dec prog_14_method_31_code) 129 [(0, .ref 102), (1, ii vb), (2, ii (hd : Int)), (3, ii place), (4, ii (vk v : Int)), (5, ii (vm v : Int)), (6, ii (q : Int)), (7, ii ((k : Nat) : Int))] [] (rI pre post ((fillS (rowS s q b 0 (vm v : Int)) b k (flG (vbo vb) z0 v)).1) ((fillS (rowS s q b 0 (vm v : Int)) b k (flG (vbo vb) z0 v)).2.1) ((fillS (rowS s q b 0 (vm v : Int)) b k (flG (vbo vb) z0 v)).2.2.1) ((fillS (rowS s q b 0 (vm v : Int)) b k (flG (vbo vb) z0 v)).2.2.2)) (fun r h' => ∃ x, r = some x ∧ rresN pre post s (e + 1) (pfl (vbo vb) z0 v) place (vq v) 1 x h') := by
                  intro n129
                  induction n129 using Nat.strongRecOn with
                  | ind n129 ih129 =>
                    intro k hm129 hk hes
                    refine me1 (pc' := 131) (L' := [(0, .ref 102), (1, ii vb), (2, ii (hd : Int)), (3, ii place), (4, ii (vk v : Int)), (5, ii (vm v : Int)), (6, ii (q : Int)), (7, ii ((k : Nat) : Int))]) (S' := [ii ((k : Nat) : Int)]) dm_X12_through_129 rfl rfl rfl rfl ?_
                    refine me1 (pc' := 133) (L' := [(0, .ref 102), (1, ii vb), (2, ii (hd : Int)), (3, ii place), (4, ii (vk v : Int)), (5, ii (vm v : Int)), (6, ii (q : Int)), (7, ii ((k : Nat) : Int))]) (S' := [ii (vm v : Int), ii ((k : Nat) : Int)]) dm_X12_through_131 rfl rfl rfl rfl ?_
                    refine y_2ge (a := ((k : Nat) : Int)) (b := (vm v : Int)) (t := 256) (pc' := 136) dm_X12_through_133 rfl rfl (by omega) (fun hb18 => ?_) (fun hb18 => ?_)
                    · refine me1 (pc' := 257) (L' := [(0, .ref 102), (1, ii vb), (2, ii (hd : Int)), (3, ii place), (4, ii (vk v : Int)), (5, ii (vm v : Int)), (6, ii (q : Int)), (7, ii ((k : Nat) : Int))]) (S' := [.ref 102]) dm_X12_through_256 rfl rfl rfl rfl ?_
                      refine me1 (pc' := 259) (L' := [(0, .ref 102), (1, ii vb), (2, ii (hd : Int)), (3, ii place), (4, ii (vk v : Int)), (5, ii (vm v : Int)), (6, ii (q : Int)), (7, ii ((k : Nat) : Int))]) (S' := [ii (q : Int), .ref 102]) dm_X12_through_257 rfl rfl rfl rfl ?_
                      refine x_cp (pc' := 262) (v := ii 0) (rest := []) dm_X12_through_259 rfl (q_inv (As := [ii (q : Int)]) (S := []) hm rfl rfl rfl) rfl rfl rfl (r_kindRaw_ (s := (fillS (rowS s q b 0 (vm v : Int)) b k (flG (vbo vb) z0 v))) (kd := 0) (z := (vm v : Int)) hm (by omega) (by omega) (by show va_up (s.2.2.1 2) q (0 + (vm v : Int) * 8) q = _; rw [up_eq]; omega) (by decide) (by omega)) ?_
                      refine me0 (pc' := 263) (S' := [ii 5, ii 0]) dm_X12_through_262 rfl rfl rfl rfl ?_
                      refine me_2t (pc' := 275) dm_X12_through_263 rfl (by decide) ?_
                      refine me1 (pc' := 277) (L' := [(0, .ref 102), (1, ii vb), (2, ii (hd : Int)), (3, ii place), (4, ii (vk v : Int)), (5, ii (vm v : Int)), (6, ii (q : Int)), (7, ii ((k : Nat) : Int))]) (S' := [ii (q : Int)]) dm_X12_through_275 rfl rfl rfl rfl ?_
                      refine y_ret (r := some (ii (q : Int))) dm_X12_through_277 rfl rfl rfl ?_
                      have hkN : k = (vm v) := by omega
                      rw [hkN] at hes
                      rw [hkN]
                      have hall := errs_all hes
                      rw [pfl_v haz (by rw [hlq]; exact hes)]
                      have hN1 : (vm v) = 1 := (hv.1.2.1 (by omega)).1
                      rw [show flV (vbo vb) z0 v = v1 0 (flG (vbo vb) z0 v 0) by unfold flV; rw [hlk, if_pos (by omega)]]
                      exact ⟨_, rfl, rresN_mk (rext_fill hxT (by omega) _) (rfr_tr (rfr_row s q b _ _) (rfr_fill _ _ _ _)) (by show (b : Int) + (vm v : Int) ≤ _; omega) (by show (q : Int) + 1 ≤ _; omega) he0 rfl hq3 (by rw [hb]; exact rvN_rowS (kind := 0) hq3 (vw1_one (by omega)) (by show ¬ 0 = 7; omega) (by show ¬ 0 = 6; omega) rfl (by show 1 = _; omega) rfl (fun k hk => by rw [show k = 0 by omega]; rfl))⟩
                    · refine me1 (pc' := 137) (L' := [(0, .ref 102), (1, ii vb), (2, ii (hd : Int)), (3, ii place), (4, ii (vk v : Int)), (5, ii (vm v : Int)), (6, ii (q : Int)), (7, ii ((k : Nat) : Int))]) (S' := [.ref 102]) dm_X12_through_136 rfl rfl rfl rfl ?_
                      refine me3 (pc' := 140) (S' := [ii (((fillS (rowS s q b 0 (vm v : Int)) b k (flG (vbo vb) z0 v)).1) 5)]) dm_X12_through_137 (q_geti (v := ((fillS (rowS s q b 0 (vm v : Int)) b k (flG (vbo vb) z0 v)).1) 5) hm rfl (fun m i l => rg_5 m i l) rfl) rfl rfl rfl ?_
                      refine pg_st (S' := [ii 0]) (congrArg (fun z => ii z :: []) (he0)) ?_
                      refine me_1f (pc' := 143) dm_X12_through_140 rfl (by decide) rfl ?_
                      refine me1 (pc' := 145) (L' := [(0, .ref 102), (1, ii vb), (2, ii (hd : Int)), (3, ii place), (4, ii (vk v : Int)), (5, ii (vm v : Int)), (6, ii (q : Int)), (7, ii ((k : Nat) : Int))]) (S' := [ii (vk v : Int)]) dm_X12_through_143 rfl rfl rfl rfl ?_
                      refine me0 (pc' := 147) (S' := [ii 7, ii (vk v : Int)]) dm_X12_through_145 rfl rfl rfl rfl ?_
                      refine y_2ne (a := (vk v : Int)) (b := 7) (t := 182) (pc' := 150) dm_X12_through_147 rfl rfl (by omega) (fun hb19 => ?_) (fun hb19 => ?_)
                      · have hns : ¬ (vk v = 1 ∨ vk v = 3) := by omega
                        refine me1 (pc' := 183) (L' := [(0, .ref 102), (1, ii vb), (2, ii (hd : Int)), (3, ii place), (4, ii (vk v : Int)), (5, ii (vm v : Int)), (6, ii (q : Int)), (7, ii ((k : Nat) : Int))]) (S' := [ii vb]) dm_X12_through_182 rfl rfl rfl rfl ?_
                        refine me1 (pc' := 184) (L' := [(0, .ref 102), (1, ii vb), (2, ii (hd : Int)), (3, ii place), (4, ii (vk v : Int)), (5, ii (vm v : Int)), (6, ii (q : Int)), (7, ii ((k : Nat) : Int))]) (S' := [.ref 102, ii vb]) dm_X12_through_183 rfl rfl rfl rfl ?_
                        refine me1 (pc' := 185) (L' := [(0, .ref 102), (1, ii vb), (2, ii (hd : Int)), (3, ii place), (4, ii (vk v : Int)), (5, ii (vm v : Int)), (6, ii (q : Int)), (7, ii ((k : Nat) : Int))]) (S' := [ii (hd : Int), .ref 102, ii vb]) dm_X12_through_184 rfl rfl rfl rfl ?_
                        refine me1 (pc' := 187) (L' := [(0, .ref 102), (1, ii vb), (2, ii (hd : Int)), (3, ii place), (4, ii (vk v : Int)), (5, ii (vm v : Int)), (6, ii (q : Int)), (7, ii ((k : Nat) : Int))]) (S' := [ii ((k : Nat) : Int), ii (hd : Int), .ref 102, ii vb]) dm_X12_through_185 rfl rfl rfl rfl ?_
                        refine x_cp (pc' := 190) (v := .long (vn v k)) (rest := [ii vb]) dm_X12_through_187 rfl (q_inv (As := [ii (hd : Int), ii ((k : Nat) : Int)]) (S := [ii vb]) hm rfl rfl rfl) rfl rfl rfl (r_number_ (k := k) hm (by omega) hBT (hvT _ _) (by omega) (by omega)) ?_
                        refine x_cp (pc' := 193) (v := .long (trn vb (vn v k))) (rest := []) dm_X12_through_190 rfl (g_invs (As := [ii vb, .long (vn v k)]) (S := []) rfl rfl rfl) rfl rfl rfl (r_turned_ (by omega) hvb) ?_
                        refine me1 (pc' := 195) (L' := [(8, .long (trn vb (vn v k))), (0, .ref 102), (1, ii vb), (2, ii (hd : Int)), (3, ii place), (4, ii (vk v : Int)), (5, ii (vm v : Int)), (6, ii (q : Int)), (7, ii ((k : Nat) : Int))]) (S' := []) dm_X12_through_193 rfl rfl rfl rfl ?_
                        have hvk9 : vnum v ((k : Nat) : Int) = vn v k := vnum_q hv.1 (by omega) (by omega)
                        have hout : outF (vbo vb) (vk z0) (vk v) (vnum z0 ((k : Nat) : Int)) (vnum v ((k : Nat) : Int)) = (if vb = 45 ∧ trn vb (vn v k) = Int64.ofInt (-9223372036854775808) then 6 else 0, trn vb (vn v k)) := by rw [vnum_z, hvk9]; exact trn_o hvb hns
                        refine me1 (pc' := 196) (L' := [(8, .long (trn vb (vn v k))), (0, .ref 102), (1, ii vb), (2, ii (hd : Int)), (3, ii place), (4, ii (vk v : Int)), (5, ii (vm v : Int)), (6, ii (q : Int)), (7, ii ((k : Nat) : Int))]) (S' := [ii vb]) dm_X12_through_195 rfl rfl rfl rfl ?_
                        refine me0 (pc' := 198) (S' := [ii 45, ii vb]) dm_X12_through_196 rfl rfl rfl rfl ?_
                        refine y_2ne (a := vb) (b := 45) (t := 210) (pc' := 201) dm_X12_through_198 rfl rfl (by omega) (fun hb20 => ?_) (fun hb20 => ?_)
                        · have hof : (outF (vbo vb) (vk z0) (vk v) (vnum z0 ((k : Nat) : Int)) (vnum v ((k : Nat) : Int))).1 = 0 := by rw [hout]; exact if_neg (fun z => by have z1 := z.1; omega)
                          refine me1 (pc' := 212) (L' := [(8, .long (trn vb (vn v k))), (0, .ref 102), (1, ii vb), (2, ii (hd : Int)), (3, ii place), (4, ii (vk v : Int)), (5, ii (vm v : Int)), (6, ii (q : Int)), (7, ii ((k : Nat) : Int))]) (S' := [ii (vk v : Int)]) dm_X12_through_210 rfl rfl rfl rfl ?_
                          refine me0 (pc' := 214) (S' := [ii 6, ii (vk v : Int)]) dm_X12_through_212 rfl rfl rfl rfl ?_
                          refine y_2ne (a := (vk v : Int)) (b := 6) (t := 233) (pc' := 217) dm_X12_through_214 rfl rfl (by omega) (fun hb21 => ?_) (fun hb21 => ?_)
                          · have hoT : (outT (vbo vb) z0 v (lkV z0 v) k).1 = 0 := (outT_1 (fun z => by have z2 := z.2.1; rw [hlk] at z2; omega)).trans hof
                            refine me1 (pc' := 234) (L' := [(8, .long (trn vb (vn v k))), (0, .ref 102), (1, ii vb), (2, ii (hd : Int)), (3, ii place), (4, ii (vk v : Int)), (5, ii (vm v : Int)), (6, ii (q : Int)), (7, ii ((k : Nat) : Int))]) (S' := [.ref 102]) dm_X12_through_233 rfl rfl rfl rfl ?_
                            refine me3 (pc' := 237) (S' := [.ref (102 + 1)]) dm_X12_through_234 (q_getr hm rfl (fun m i l => rg_0 m i l)) rfl rfl rfl ?_
                            refine me1 (pc' := 238) (L' := [(8, .long (trn vb (vn v k))), (0, .ref 102), (1, ii vb), (2, ii (hd : Int)), (3, ii place), (4, ii (vk v : Int)), (5, ii (vm v : Int)), (6, ii (q : Int)), (7, ii ((k : Nat) : Int))]) (S' := [.ref 102, .ref (102 + 1)]) dm_X12_through_237 rfl rfl rfl rfl ?_
                            refine me3 (pc' := 241) (S' := [.ref (102 + 2), .ref (102 + 1)]) dm_X12_through_238 (q_getr hm rfl (fun m i l => rg_1 m i l)) rfl rfl rfl ?_
                            refine me1 (pc' := 243) (L' := [(8, .long (trn vb (vn v k))), (0, .ref 102), (1, ii vb), (2, ii (hd : Int)), (3, ii place), (4, ii (vk v : Int)), (5, ii (vm v : Int)), (6, ii (q : Int)), (7, ii ((k : Nat) : Int))]) (S' := [ii (q : Int), .ref (102 + 2), .ref (102 + 1)]) dm_X12_through_241 rfl rfl rfl rfl ?_
                            refine me3 (pc' := 244) (S' := [ii ((((fillS (rowS s q b 0 (vm v : Int)) b k (flG (vbo vb) z0 v)).2.2.1) 1) q), .ref (102 + 1)]) dm_X12_through_243 (q_iald (v := (((fillS (rowS s q b 0 (vm v : Int)) b k (flG (vbo vb) z0 v)).2.2.1) 1) q) (k := 1) (n := 310000) hm (fun m i l I J => rc_1 m i l I J) (by omega) (by omega) (by decide) rfl) rfl rfl rfl ?_
                            refine pg_st (S' := [ii (b : Int), .ref (102 + 1)]) (congrArg (fun z => ii z :: [.ref (102 + 1)]) (up_eq _ _ _)) ?_
                            refine me1 (pc' := 246) (L' := [(8, .long (trn vb (vn v k))), (0, .ref 102), (1, ii vb), (2, ii (hd : Int)), (3, ii place), (4, ii (vk v : Int)), (5, ii (vm v : Int)), (6, ii (q : Int)), (7, ii ((k : Nat) : Int))]) (S' := [ii ((k : Nat) : Int), ii (b : Int), .ref (102 + 1)]) dm_X12_through_244 rfl rfl rfl rfl ?_
                            refine y_iadd (a := (b : Int)) (b := ((k : Nat) : Int)) dm_X12_through_246 (pc' := 247) rfl ?_
                            refine me1 (pc' := 249) (L' := [(8, .long (trn vb (vn v k))), (0, .ref 102), (1, ii vb), (2, ii (hd : Int)), (3, ii place), (4, ii (vk v : Int)), (5, ii (vm v : Int)), (6, ii (q : Int)), (7, ii ((k : Nat) : Int))]) (S' := [.long (trn vb (vn v k)), ii ((b : Int) + ((k : Nat) : Int)), .ref (102 + 1)]) dm_X12_through_247 rfl rfl rfl rfl ?_
                            refine pg_st (S' := [.long ((flG (vbo vb) z0 v) k), ii ((b : Int) + ((k : Nat) : Int)), .ref (102 + 1)]) (congrArg (fun z => Value.long z :: [ii ((b : Int) + ((k : Nat) : Int)), .ref (102 + 1)]) (by show _ = (outT (vbo vb) z0 v (lkV z0 v) k).2; rw [outT_2, hout])) ?_
                            refine me3 (pc' := 250) (S' := []) (h1 := rI pre post ((fillS (rowS s q b 0 (vm v : Int)) b k (flG (vbo vb) z0 v)).1) ((fillS (rowS s q b 0 (vm v : Int)) b k (flG (vbo vb) z0 v)).2.1) ((fillS (rowS s q b 0 (vm v : Int)) b k (flG (vbo vb) z0 v)).2.2.1) (va_up ((fillS (rowS s q b 0 (vm v : Int)) b k (flG (vbo vb) z0 v)).2.2.2) 0 (va_up (((fillS (rowS s q b 0 (vm v : Int)) b k (flG (vbo vb) z0 v)).2.2.2) 0) (b + k) ((flG (vbo vb) z0 v) k)))) dm_X12_through_249 (q_last (j := (b : Int) + ((k : Nat) : Int)) (k := 0) (n := 820000) hm (fun m i l I J => rc_0 m i l I J) (fun m i l I J f => rs_0 m i l I J f) (by omega) (by omega) (by decide)) rfl rfl rfl ?_
                            refine y_iinc (pc' := 253) (L' := [(7, ii (((k : Nat) : Int) + 1)), (8, .long (trn vb (vn v k))), (0, .ref 102), (1, ii vb), (2, ii (hd : Int)), (3, ii place), (4, ii (vk v : Int)), (5, ii (vm v : Int)), (6, ii (q : Int))]) dm_X12_through_250 (y_incp (a := ((k : Nat) : Int)) (c := 1) rfl rfl (by decide)) rfl ?_
                            refine me2 (pc' := 129) (S' := []) dm_X12_through_253 rfl rfl rfl ?_
                            refine pg_cast (h2 := rI pre post ((fillS (rowS s q b 0 (vm v : Int)) b (k + 1) (flG (vbo vb) z0 v)).1) ((fillS (rowS s q b 0 (vm v : Int)) b (k + 1) (flG (vbo vb) z0 v)).2.1) ((fillS (rowS s q b 0 (vm v : Int)) b (k + 1) (flG (vbo vb) z0 v)).2.2.1) ((fillS (rowS s q b 0 (vm v : Int)) b (k + 1) (flG (vbo vb) z0 v)).2.2.2)) (fill_s (rowS s q b 0 (vm v : Int)) b k (flG (vbo vb) z0 v)) ?_
                            exact pg_sub (L := [(0, .ref 102), (1, ii vb), (2, ii (hd : Int)), (3, ii place), (4, ii (vk v : Int)), (5, ii (vm v : Int)), (6, ii (q : Int)), (7, ii (((k + 1) : Nat) : Int))]) rfl rfl rfl (ih129 ((vm v) - (k + 1)) (by omega) (k + 1) rfl (by omega) ((errs_s0 hes).trans hoT))
                          · exfalso; omega
                        · refine me1 (pc' := 203) (L' := [(8, .long (trn vb (vn v k))), (0, .ref 102), (1, ii vb), (2, ii (hd : Int)), (3, ii place), (4, ii (vk v : Int)), (5, ii (vm v : Int)), (6, ii (q : Int)), (7, ii ((k : Nat) : Int))]) (S' := [.long (trn vb (vn v k))]) dm_X12_through_201 rfl rfl rfl rfl ?_
                          refine me3 (pc' := 206) (S' := [.long (Int64.ofInt (-9223372036854775808)), .long (trn vb (vn v k))]) dm_X12_through_203 rfl rfl rfl rfl ?_
                          refine y_leq (x := trn vb (vn v k)) (y := Int64.ofInt (-9223372036854775808)) (t := 225) (pc1 := 207) (pc' := 210) dm_X12_through_206 rfl dm_X12_through_207 rfl rfl (fun hb22 => ?_) (fun hb22 => ?_)
                          · have hb22i := congrArg Int64.toInt hb22
                            have hoT6 : (outT (vbo vb) z0 v (lkV z0 v) k).1 = 6 := by have h9 : (outF (vbo vb) (vk z0) (vk v) (vnum z0 ((k : Nat) : Int)) (vnum v ((k : Nat) : Int))).1 = 6 := (by rw [hout]; exact if_pos ⟨by omega, hb22⟩); rw [outT_1 (fun z => by rw [h9] at z; exact absurd z.1 (by decide)), h9]
                            refine me1 (pc' := 226) (L' := [(8, .long (trn vb (vn v k))), (0, .ref 102), (1, ii vb), (2, ii (hd : Int)), (3, ii place), (4, ii (vk v : Int)), (5, ii (vm v : Int)), (6, ii (q : Int)), (7, ii ((k : Nat) : Int))]) (S' := [.ref 102]) dm_X12_through_225 rfl rfl rfl rfl ?_
                            refine me0 (pc' := 228) (S' := [ii 6, .ref 102]) dm_X12_through_226 rfl rfl rfl rfl ?_
                            refine me1 (pc' := 229) (L' := [(8, .long (trn vb (vn v k))), (0, .ref 102), (1, ii vb), (2, ii (hd : Int)), (3, ii place), (4, ii (vk v : Int)), (5, ii (vm v : Int)), (6, ii (q : Int)), (7, ii ((k : Nat) : Int))]) (S' := [ii place, ii 6, .ref 102]) dm_X12_through_228 rfl rfl rfl rfl ?_
                            refine x_cv (pc' := 232) (rest := []) dm_X12_through_229 rfl (q_inv (As := [ii 6, ii place]) (S := []) hm rfl rfl rfl) rfl rfl rfl (r_fail_ (s := (fillS (rowS s q b 0 (vm v : Int)) b k (flG (vbo vb) z0 v))) hm (by omega) he0 hca.1 hca.2) ?_
                            rintro _ _ ⟨rfl, rfl⟩
                            refine y_ret (r := some (ii (-1))) dm_X12_through_232 rfl rfl rfl ?_
                            rw [pfl_e (n := 6) haz hes (by omega) hoT6 rfl (by decide)]
                            exact ⟨_, rfl, rresN_f (rext_fail (rext_fill hxT (by omega) _) _ _) (rfr_fail (rfr_tr (rfr_row s q b _ _) (rfr_fill _ _ _ _)) _ _) (by show (b : Int) + (vm v : Int) ≤ _; omega) (by show (q : Int) + 1 ≤ _; omega) rfl rfl (by decide)⟩
                          · have hb22i : ¬ (trn vb (vn v k)).toInt = (Int64.ofInt (-9223372036854775808)).toInt := fun z => hb22 (Int64.toInt_inj.mp z)
                            have hof : (outF (vbo vb) (vk z0) (vk v) (vnum z0 ((k : Nat) : Int)) (vnum v ((k : Nat) : Int))).1 = 0 := by rw [hout]; exact if_neg (fun z => hb22 z.2)
                            refine me1 (pc' := 212) (L' := [(8, .long (trn vb (vn v k))), (0, .ref 102), (1, ii vb), (2, ii (hd : Int)), (3, ii place), (4, ii (vk v : Int)), (5, ii (vm v : Int)), (6, ii (q : Int)), (7, ii ((k : Nat) : Int))]) (S' := [ii (vk v : Int)]) dm_X12_through_210 rfl rfl rfl rfl ?_
                            refine me0 (pc' := 214) (S' := [ii 6, ii (vk v : Int)]) dm_X12_through_212 rfl rfl rfl rfl ?_
                            refine y_2ne (a := (vk v : Int)) (b := 6) (t := 233) (pc' := 217) dm_X12_through_214 rfl rfl (by omega) (fun hb23 => ?_) (fun hb23 => ?_)
                            · have hoT : (outT (vbo vb) z0 v (lkV z0 v) k).1 = 0 := (outT_1 (fun z => by have z2 := z.2.1; rw [hlk] at z2; omega)).trans hof
                              refine me1 (pc' := 234) (L' := [(8, .long (trn vb (vn v k))), (0, .ref 102), (1, ii vb), (2, ii (hd : Int)), (3, ii place), (4, ii (vk v : Int)), (5, ii (vm v : Int)), (6, ii (q : Int)), (7, ii ((k : Nat) : Int))]) (S' := [.ref 102]) dm_X12_through_233 rfl rfl rfl rfl ?_
                              refine me3 (pc' := 237) (S' := [.ref (102 + 1)]) dm_X12_through_234 (q_getr hm rfl (fun m i l => rg_0 m i l)) rfl rfl rfl ?_
                              refine me1 (pc' := 238) (L' := [(8, .long (trn vb (vn v k))), (0, .ref 102), (1, ii vb), (2, ii (hd : Int)), (3, ii place), (4, ii (vk v : Int)), (5, ii (vm v : Int)), (6, ii (q : Int)), (7, ii ((k : Nat) : Int))]) (S' := [.ref 102, .ref (102 + 1)]) dm_X12_through_237 rfl rfl rfl rfl ?_
                              refine me3 (pc' := 241) (S' := [.ref (102 + 2), .ref (102 + 1)]) dm_X12_through_238 (q_getr hm rfl (fun m i l => rg_1 m i l)) rfl rfl rfl ?_
                              refine me1 (pc' := 243) (L' := [(8, .long (trn vb (vn v k))), (0, .ref 102), (1, ii vb), (2, ii (hd : Int)), (3, ii place), (4, ii (vk v : Int)), (5, ii (vm v : Int)), (6, ii (q : Int)), (7, ii ((k : Nat) : Int))]) (S' := [ii (q : Int), .ref (102 + 2), .ref (102 + 1)]) dm_X12_through_241 rfl rfl rfl rfl ?_
                              refine me3 (pc' := 244) (S' := [ii ((((fillS (rowS s q b 0 (vm v : Int)) b k (flG (vbo vb) z0 v)).2.2.1) 1) q), .ref (102 + 1)]) dm_X12_through_243 (q_iald (v := (((fillS (rowS s q b 0 (vm v : Int)) b k (flG (vbo vb) z0 v)).2.2.1) 1) q) (k := 1) (n := 310000) hm (fun m i l I J => rc_1 m i l I J) (by omega) (by omega) (by decide) rfl) rfl rfl rfl ?_
                              refine pg_st (S' := [ii (b : Int), .ref (102 + 1)]) (congrArg (fun z => ii z :: [.ref (102 + 1)]) (up_eq _ _ _)) ?_
                              refine me1 (pc' := 246) (L' := [(8, .long (trn vb (vn v k))), (0, .ref 102), (1, ii vb), (2, ii (hd : Int)), (3, ii place), (4, ii (vk v : Int)), (5, ii (vm v : Int)), (6, ii (q : Int)), (7, ii ((k : Nat) : Int))]) (S' := [ii ((k : Nat) : Int), ii (b : Int), .ref (102 + 1)]) dm_X12_through_244 rfl rfl rfl rfl ?_
                              refine y_iadd (a := (b : Int)) (b := ((k : Nat) : Int)) dm_X12_through_246 (pc' := 247) rfl ?_
                              refine me1 (pc' := 249) (L' := [(8, .long (trn vb (vn v k))), (0, .ref 102), (1, ii vb), (2, ii (hd : Int)), (3, ii place), (4, ii (vk v : Int)), (5, ii (vm v : Int)), (6, ii (q : Int)), (7, ii ((k : Nat) : Int))]) (S' := [.long (trn vb (vn v k)), ii ((b : Int) + ((k : Nat) : Int)), .ref (102 + 1)]) dm_X12_through_247 rfl rfl rfl rfl ?_
                              refine pg_st (S' := [.long ((flG (vbo vb) z0 v) k), ii ((b : Int) + ((k : Nat) : Int)), .ref (102 + 1)]) (congrArg (fun z => Value.long z :: [ii ((b : Int) + ((k : Nat) : Int)), .ref (102 + 1)]) (by show _ = (outT (vbo vb) z0 v (lkV z0 v) k).2; rw [outT_2, hout])) ?_
                              refine me3 (pc' := 250) (S' := []) (h1 := rI pre post ((fillS (rowS s q b 0 (vm v : Int)) b k (flG (vbo vb) z0 v)).1) ((fillS (rowS s q b 0 (vm v : Int)) b k (flG (vbo vb) z0 v)).2.1) ((fillS (rowS s q b 0 (vm v : Int)) b k (flG (vbo vb) z0 v)).2.2.1) (va_up ((fillS (rowS s q b 0 (vm v : Int)) b k (flG (vbo vb) z0 v)).2.2.2) 0 (va_up (((fillS (rowS s q b 0 (vm v : Int)) b k (flG (vbo vb) z0 v)).2.2.2) 0) (b + k) ((flG (vbo vb) z0 v) k)))) dm_X12_through_249 (q_last (j := (b : Int) + ((k : Nat) : Int)) (k := 0) (n := 820000) hm (fun m i l I J => rc_0 m i l I J) (fun m i l I J f => rs_0 m i l I J f) (by omega) (by omega) (by decide)) rfl rfl rfl ?_
                              refine y_iinc (pc' := 253) (L' := [(7, ii (((k : Nat) : Int) + 1)), (8, .long (trn vb (vn v k))), (0, .ref 102), (1, ii vb), (2, ii (hd : Int)), (3, ii place), (4, ii (vk v : Int)), (5, ii (vm v : Int)), (6, ii (q : Int))]) dm_X12_through_250 (y_incp (a := ((k : Nat) : Int)) (c := 1) rfl rfl (by decide)) rfl ?_
                              refine me2 (pc' := 129) (S' := []) dm_X12_through_253 rfl rfl rfl ?_
                              refine pg_cast (h2 := rI pre post ((fillS (rowS s q b 0 (vm v : Int)) b (k + 1) (flG (vbo vb) z0 v)).1) ((fillS (rowS s q b 0 (vm v : Int)) b (k + 1) (flG (vbo vb) z0 v)).2.1) ((fillS (rowS s q b 0 (vm v : Int)) b (k + 1) (flG (vbo vb) z0 v)).2.2.1) ((fillS (rowS s q b 0 (vm v : Int)) b (k + 1) (flG (vbo vb) z0 v)).2.2.2)) (fill_s (rowS s q b 0 (vm v : Int)) b k (flG (vbo vb) z0 v)) ?_
                              exact pg_sub (L := [(0, .ref 102), (1, ii vb), (2, ii (hd : Int)), (3, ii place), (4, ii (vk v : Int)), (5, ii (vm v : Int)), (6, ii (q : Int)), (7, ii (((k + 1) : Nat) : Int))]) rfl rfl rfl (ih129 ((vm v) - (k + 1)) (by omega) (k + 1) rfl (by omega) ((errs_s0 hes).trans hoT))
                            · exfalso; omega
                      · exfalso; omega
                refine pg_cast (h2 := rI pre post ((fillS (rowS s q b 0 (vm v : Int)) b 0 (flG (vbo vb) z0 v)).1) ((fillS (rowS s q b 0 (vm v : Int)) b 0 (flG (vbo vb) z0 v)).2.1) ((fillS (rowS s q b 0 (vm v : Int)) b 0 (flG (vbo vb) z0 v)).2.2.1) ((fillS (rowS s q b 0 (vm v : Int)) b 0 (flG (vbo vb) z0 v)).2.2.2)) (fill_0 (rowS s q b 0 (vm v : Int)) b (flG (vbo vb) z0 v)) ?_
                exact pg_sub (L := [(0, .ref 102), (1, ii vb), (2, ii (hd : Int)), (3, ii place), (4, ii (vk v : Int)), (5, ii (vm v : Int)), (6, ii (q : Int)), (7, ii ((0 : Nat) : Int))]) rfl rfl rfl (lp129 _ 0 rfl (Nat.zero_le _) rfl)
            · exfalso; omega
          · exfalso; omega
        · exfalso; omega
      · exfalso; omega
theorem dm_X12_through_108 : mj_dec prog_14_method_31_code 108 = some (.iload_n 1, 1) := by decide +kernel
theorem dm_X12_through_109 : mj_dec prog_14_method_31_code 109 = some (.bipush 126, 2) := by decide +kernel
theorem dm_X12_through_111 : mj_dec prog_14_method_31_code 111 = some (.if_icmp .ne 7, 3) := by decide +kernel
theorem dm_X12_through_114 : mj_dec prog_14_method_31_code 114 = some (.iconst 2, 1) := by decide +kernel
theorem dm_X12_through_115 : mj_dec prog_14_method_31_code 115 = some (.goto 4, 3) := by decide +kernel
theorem r_thrB {vb : Int} {xt : mj_X} {d e hd q b : Nat} {pre post : mj_H} {s : RS} {v : VV} {place : Int} (hm : pre.length = 102) (hd1 : 6 ≤ d) (hB : rB s) (hv : rv s (e + 1) hd v) (hh3 : 3 ≤ hd) (hq : s.1 4 = (q : Int)) (hb : s.1 3 = (b : Int)) (hq3 : 3 ≤ q) (hV2 : q < 310000) (he0 : s.1 5 = 0) (hca : 0 ≤ s.1 10 ∧ s.1 10 ≤ 100) (hC : b + 300 ≤ 820000) (hvb : vb = 45 ∨ vb = 37 ∨ vb = 126) (hf2 : 2 ≤ vk v ∧ vk v ≤ 5) (hcm : vb = 126) (hs3 : vk v = 3 → vm v = 0) : pgV xt d 283 [.ref 102, ii vb, ii (hd : Int), ii place] (rS pre post s) (rresN pre post s (e + 1) (pfl (vbo vb) z0 v) place (vq v) 1) := by
  have hB0 := hB
  obtain ⟨hB1, hB2, hB3, hB4⟩ := hB
  obtain ⟨fr, hfr, hsh, hlt, hcl, hvk, hvm, hvc, hvq, hvcl⟩ := rv_val hv
  have hcv := vw1_c hv.1
  have hlk : lkV z0 v = v := by unfold lkV; exact if_pos (by show 0 ≤ 1; omega)
  have hlq : vq (lkV z0 v) = (vm v) := by rw [hlk]; exact vq_m (by omega)
  have hqL : vq v = (vm v) := by rw [← hlq, hlk]
  have haz : askF z0 v = 0 := by unfold askF; exact if_pos (Or.inl (by show 0 ≤ 1; omega))
  refine x_enter pm_X12_through (L0 := [(0, .ref 102), (1, ii vb), (2, ii (hd : Int)), (3, ii place)]) rfl (Nat.le_of_ble_eq_true rfl) (by omega) ?_
  refine me1 (pc' := 1) (L' := [(0, .ref 102), (1, ii vb), (2, ii (hd : Int)), (3, ii place)]) (S' := [.ref 102]) dm_X12_through_0 rfl rfl rfl rfl ?_
  refine me1 (pc' := 2) (L' := [(0, .ref 102), (1, ii vb), (2, ii (hd : Int)), (3, ii place)]) (S' := [ii (hd : Int), .ref 102]) dm_X12_through_1 rfl rfl rfl rfl ?_
  refine x_cp (pc' := 5) (v := ii (vk v : Int)) (rest := []) dm_X12_through_2 rfl (q_inv (As := [ii (hd : Int)]) (S := []) hm rfl rfl rfl) rfl rfl rfl (r_kindOf_ hm (by omega) hB0 hv) ?_
  refine me1 (pc' := 7) (L' := [(4, ii (vk v : Int)), (0, .ref 102), (1, ii vb), (2, ii (hd : Int)), (3, ii place)]) (S' := []) dm_X12_through_5 rfl rfl rfl rfl ?_
  refine me1 (pc' := 9) (L' := [(4, ii (vk v : Int)), (0, .ref 102), (1, ii vb), (2, ii (hd : Int)), (3, ii place)]) (S' := [ii (vk v : Int)]) dm_X12_through_7 rfl rfl rfl rfl ?_
  refine me0 (pc' := 10) (S' := [ii 1, ii (vk v : Int)]) dm_X12_through_9 rfl rfl rfl rfl ?_
  refine y_2eq (a := (vk v : Int)) (b := 1) (t := 27) (pc' := 13) dm_X12_through_10 rfl rfl (by omega) (fun hb1 => ?_) (fun hb1 => ?_)
  · exfalso; omega
  · refine me1 (pc' := 15) (L' := [(4, ii (vk v : Int)), (0, .ref 102), (1, ii vb), (2, ii (hd : Int)), (3, ii place)]) (S' := [ii (vk v : Int)]) dm_X12_through_13 rfl rfl rfl rfl ?_
    refine me0 (pc' := 16) (S' := [ii 3, ii (vk v : Int)]) dm_X12_through_15 rfl rfl rfl rfl ?_
    refine y_2ne (a := (vk v : Int)) (b := 3) (t := 34) (pc' := 19) dm_X12_through_16 rfl rfl (by omega) (fun hb2 => ?_) (fun hb2 => ?_)
    · refine me1 (pc' := 36) (L' := [(4, ii (vk v : Int)), (0, .ref 102), (1, ii vb), (2, ii (hd : Int)), (3, ii place)]) (S' := [ii (vk v : Int)]) dm_X12_through_34 rfl rfl rfl rfl ?_
      refine me0 (pc' := 38) (S' := [ii 6, ii (vk v : Int)]) dm_X12_through_36 rfl rfl rfl rfl ?_
      refine y_2ne (a := (vk v : Int)) (b := 6) (t := 55) (pc' := 41) dm_X12_through_38 rfl rfl (by omega) (fun hb3 => ?_) (fun hb3 => ?_)
      · refine me1 (pc' := 56) (L' := [(4, ii (vk v : Int)), (0, .ref 102), (1, ii vb), (2, ii (hd : Int)), (3, ii place)]) (S' := [.ref 102]) dm_X12_through_55 rfl rfl rfl rfl ?_
        refine me1 (pc' := 57) (L' := [(4, ii (vk v : Int)), (0, .ref 102), (1, ii vb), (2, ii (hd : Int)), (3, ii place)]) (S' := [ii (hd : Int), .ref 102]) dm_X12_through_56 rfl rfl rfl rfl ?_
        refine x_cp (pc' := 60) (v := ii (vm v : Int)) (rest := []) dm_X12_through_57 rfl (q_inv (As := [ii (hd : Int)]) (S := []) hm rfl rfl rfl) rfl rfl rfl (r_many_ hm (by omega) hB0 hv) ?_
        refine me1 (pc' := 62) (L' := [(5, ii (vm v : Int)), (4, ii (vk v : Int)), (0, .ref 102), (1, ii vb), (2, ii (hd : Int)), (3, ii place)]) (S' := []) dm_X12_through_60 rfl rfl rfl rfl ?_
        refine me1 (pc' := 64) (L' := [(5, ii (vm v : Int)), (4, ii (vk v : Int)), (0, .ref 102), (1, ii vb), (2, ii (hd : Int)), (3, ii place)]) (S' := [ii (vk v : Int)]) dm_X12_through_62 rfl rfl rfl rfl ?_
        refine me0 (pc' := 66) (S' := [ii 6, ii (vk v : Int)]) dm_X12_through_64 rfl rfl rfl rfl ?_
        refine y_2ne (a := (vk v : Int)) (b := 6) (t := 86) (pc' := 69) dm_X12_through_66 rfl rfl (by omega) (fun hb4 => ?_) (fun hb4 => ?_)
        · refine me1 (pc' := 87) (L' := [(5, ii (vm v : Int)), (4, ii (vk v : Int)), (0, .ref 102), (1, ii vb), (2, ii (hd : Int)), (3, ii place)]) (S' := [.ref 102]) dm_X12_through_86 rfl rfl rfl rfl ?_
          refine me1 (pc' := 89) (L' := [(5, ii (vm v : Int)), (4, ii (vk v : Int)), (0, .ref 102), (1, ii vb), (2, ii (hd : Int)), (3, ii place)]) (S' := [ii (vk v : Int), .ref 102]) dm_X12_through_87 rfl rfl rfl rfl ?_
          refine me0 (pc' := 91) (S' := [ii 7, ii (vk v : Int), .ref 102]) dm_X12_through_89 rfl rfl rfl rfl ?_
          refine y_2ne (a := (vk v : Int)) (b := 7) (t := 99) (pc' := 94) dm_X12_through_91 rfl rfl (by omega) (fun hb5 => ?_) (fun hb5 => ?_)
          · refine me1 (pc' := 101) (L' := [(5, ii (vm v : Int)), (4, ii (vk v : Int)), (0, .ref 102), (1, ii vb), (2, ii (hd : Int)), (3, ii place)]) (S' := [ii (vk v : Int), .ref 102]) dm_X12_through_99 rfl rfl rfl rfl ?_
            refine y_1ne (a := (vk v : Int)) (t := 108) (pc' := 104) dm_X12_through_101 rfl rfl (by omega) (fun hb6 => ?_) (fun hb6 => ?_)
            · refine me1 (pc' := 109) (L' := [(5, ii (vm v : Int)), (4, ii (vk v : Int)), (0, .ref 102), (1, ii vb), (2, ii (hd : Int)), (3, ii place)]) (S' := [ii vb, .ref 102]) dm_X12_through_108 rfl rfl rfl rfl ?_
              refine me0 (pc' := 111) (S' := [ii 126, ii vb, .ref 102]) dm_X12_through_109 rfl rfl rfl rfl ?_
              refine y_2ne (a := vb) (b := 126) (t := 118) (pc' := 114) dm_X12_through_111 rfl rfl (by omega) (fun hb7 => ?_) (fun hb7 => ?_)
              · exfalso; omega
              · refine me0 (pc' := 115) (S' := [ii 2, .ref 102]) dm_X12_through_114 rfl rfl rfl rfl ?_
                refine me2 (pc' := 119) (S' := [ii 2, .ref 102]) dm_X12_through_115 rfl rfl rfl ?_
                refine me1 (pc' := 121) (L' := [(5, ii (vm v : Int)), (4, ii (vk v : Int)), (0, .ref 102), (1, ii vb), (2, ii (hd : Int)), (3, ii place)]) (S' := [ii (vm v : Int), ii 2, .ref 102]) dm_X12_through_119 rfl rfl rfl rfl ?_
                refine x_cv (pc' := 124) (rest := []) dm_X12_through_121 rfl (q_inv (As := [ii 2, ii (vm v : Int)]) (S := []) hm rfl rfl rfl) rfl rfl rfl (r_row_ (q := q) (b := b) (s := s) hm (by omega) hq hb (by omega) (by omega) (by omega)) ?_
                rintro _ _ ⟨rfl, rfl⟩
                refine me1 (pc' := 126) (L' := [(6, ii (q : Int)), (5, ii (vm v : Int)), (4, ii (vk v : Int)), (0, .ref 102), (1, ii vb), (2, ii (hd : Int)), (3, ii place)]) (S' := []) dm_X12_through_124 rfl rfl rfl rfl ?_
                have hxT : rext s (rowS s q b 2 (vm v : Int)) := rext_row hq hb _ (by omega)
                have hBT : rB (rowS s q b 2 (vm v : Int)) := ⟨by show 3 ≤ (q : Int) + 1; omega, by show (q : Int) + 1 ≤ 310000; omega, by show 0 ≤ (b : Int) + (vm v : Int); omega, by show (b : Int) + (vm v : Int) ≤ 820000; omega⟩
                have hvT : ∀ (k : Nat) (F : Nat → Int64), rv (fillS (rowS s q b 2 (vm v : Int)) b k F) (e + 1) hd v := fun k F => rv_ext (rext_fill hxT (by omega) F) hh3 hv
                refine me0 (pc' := 127) (S' := [ii 0]) dm_X12_through_126 rfl rfl rfl rfl ?_
                refine me1 (pc' := 129) (L' := [(7, ii 0), (6, ii (q : Int)), (5, ii (vm v : Int)), (4, ii (vk v : Int)), (0, .ref 102), (1, ii vb), (2, ii (hd : Int)), (3, ii place)]) (S' := []) dm_X12_through_127 rfl rfl rfl rfl ?_
                have lp129 : ∀ (n129 : Nat) (k : Nat), (vm v) - k = n129 → (k ≤ (vm v)) → (errs (fun j => (outT (vbo vb) z0 v (lkV z0 v) j).1) k = 0) → pgE xt (d - 1) 12 10 false (Option.some Jvm.ClassFile.FieldType.int) (mj_dec prog_14_method_31_code) 129 [(0, .ref 102), (1, ii vb), (2, ii (hd : Int)), (3, ii place), (4, ii (vk v : Int)), (5, ii (vm v : Int)), (6, ii (q : Int)), (7, ii ((k : Nat) : Int))] [] (rI pre post ((fillS (rowS s q b 2 (vm v : Int)) b k (flG (vbo vb) z0 v)).1) ((fillS (rowS s q b 2 (vm v : Int)) b k (flG (vbo vb) z0 v)).2.1) ((fillS (rowS s q b 2 (vm v : Int)) b k (flG (vbo vb) z0 v)).2.2.1) ((fillS (rowS s q b 2 (vm v : Int)) b k (flG (vbo vb) z0 v)).2.2.2)) (fun r h' => ∃ x, r = some x ∧ rresN pre post s (e + 1) (pfl (vbo vb) z0 v) place (vq v) 1 x h') := by
                  intro n129
                  induction n129 using Nat.strongRecOn with
                  | ind n129 ih129 =>
                    intro k hm129 hk hes
                    refine me1 (pc' := 131) (L' := [(0, .ref 102), (1, ii vb), (2, ii (hd : Int)), (3, ii place), (4, ii (vk v : Int)), (5, ii (vm v : Int)), (6, ii (q : Int)), (7, ii ((k : Nat) : Int))]) (S' := [ii ((k : Nat) : Int)]) dm_X12_through_129 rfl rfl rfl rfl ?_
                    refine me1 (pc' := 133) (L' := [(0, .ref 102), (1, ii vb), (2, ii (hd : Int)), (3, ii place), (4, ii (vk v : Int)), (5, ii (vm v : Int)), (6, ii (q : Int)), (7, ii ((k : Nat) : Int))]) (S' := [ii (vm v : Int), ii ((k : Nat) : Int)]) dm_X12_through_131 rfl rfl rfl rfl ?_
                    refine y_2ge (a := ((k : Nat) : Int)) (b := (vm v : Int)) (t := 256) (pc' := 136) dm_X12_through_133 rfl rfl (by omega) (fun hb8 => ?_) (fun hb8 => ?_)
                    · refine me1 (pc' := 257) (L' := [(0, .ref 102), (1, ii vb), (2, ii (hd : Int)), (3, ii place), (4, ii (vk v : Int)), (5, ii (vm v : Int)), (6, ii (q : Int)), (7, ii ((k : Nat) : Int))]) (S' := [.ref 102]) dm_X12_through_256 rfl rfl rfl rfl ?_
                      refine me1 (pc' := 259) (L' := [(0, .ref 102), (1, ii vb), (2, ii (hd : Int)), (3, ii place), (4, ii (vk v : Int)), (5, ii (vm v : Int)), (6, ii (q : Int)), (7, ii ((k : Nat) : Int))]) (S' := [ii (q : Int), .ref 102]) dm_X12_through_257 rfl rfl rfl rfl ?_
                      refine x_cp (pc' := 262) (v := ii 2) (rest := []) dm_X12_through_259 rfl (q_inv (As := [ii (q : Int)]) (S := []) hm rfl rfl rfl) rfl rfl rfl (r_kindRaw_ (s := (fillS (rowS s q b 2 (vm v : Int)) b k (flG (vbo vb) z0 v))) (kd := 2) (z := (vm v : Int)) hm (by omega) (by omega) (by show va_up (s.2.2.1 2) q (2 + (vm v : Int) * 8) q = _; rw [up_eq]; omega) (by decide) (by omega)) ?_
                      refine me0 (pc' := 263) (S' := [ii 5, ii 2]) dm_X12_through_262 rfl rfl rfl rfl ?_
                      refine me_2t (pc' := 275) dm_X12_through_263 rfl (by decide) ?_
                      refine me1 (pc' := 277) (L' := [(0, .ref 102), (1, ii vb), (2, ii (hd : Int)), (3, ii place), (4, ii (vk v : Int)), (5, ii (vm v : Int)), (6, ii (q : Int)), (7, ii ((k : Nat) : Int))]) (S' := [ii (q : Int)]) dm_X12_through_275 rfl rfl rfl rfl ?_
                      refine y_ret (r := some (ii (q : Int))) dm_X12_through_277 rfl rfl rfl ?_
                      have hkN : k = (vm v) := by omega
                      rw [hkN] at hes
                      rw [hkN]
                      have hall := errs_all hes
                      rw [pfl_v haz (by rw [hlq]; exact hes)]
                      rw [show flV (vbo vb) z0 v = vrow 2 (vm v) (flG (vbo vb) z0 v) by unfold flV; rw [hlk, if_neg (by omega), if_neg (by omega), if_pos (show bitV (vbo vb) by unfold bitV vbo; rw [if_neg (by omega)]; omega)]]
                      exact ⟨_, rfl, rresN_mk (rext_fill hxT (by omega) _) (rfr_tr (rfr_row s q b _ _) (rfr_fill _ _ _ _)) (by show (b : Int) + (vm v : Int) ≤ _; omega) (by show (q : Int) + 1 ≤ _; omega) he0 rfl hq3 (by rw [hb]; exact rvN_rowS (kind := 2) hq3 (vw1_bits (by omega) (fun j hj => outF_bits (show bitV (vbo vb) by unfold bitV vbo; rw [if_neg (by omega)]; omega))) (by show ¬ 2 = 7; omega) (by show ¬ 2 = 6; omega) rfl rfl rfl (fun _ _ => rfl))⟩
                    · refine me1 (pc' := 137) (L' := [(0, .ref 102), (1, ii vb), (2, ii (hd : Int)), (3, ii place), (4, ii (vk v : Int)), (5, ii (vm v : Int)), (6, ii (q : Int)), (7, ii ((k : Nat) : Int))]) (S' := [.ref 102]) dm_X12_through_136 rfl rfl rfl rfl ?_
                      refine me3 (pc' := 140) (S' := [ii (((fillS (rowS s q b 2 (vm v : Int)) b k (flG (vbo vb) z0 v)).1) 5)]) dm_X12_through_137 (q_geti (v := ((fillS (rowS s q b 2 (vm v : Int)) b k (flG (vbo vb) z0 v)).1) 5) hm rfl (fun m i l => rg_5 m i l) rfl) rfl rfl rfl ?_
                      refine pg_st (S' := [ii 0]) (congrArg (fun z => ii z :: []) (he0)) ?_
                      refine me_1f (pc' := 143) dm_X12_through_140 rfl (by decide) rfl ?_
                      refine me1 (pc' := 145) (L' := [(0, .ref 102), (1, ii vb), (2, ii (hd : Int)), (3, ii place), (4, ii (vk v : Int)), (5, ii (vm v : Int)), (6, ii (q : Int)), (7, ii ((k : Nat) : Int))]) (S' := [ii (vk v : Int)]) dm_X12_through_143 rfl rfl rfl rfl ?_
                      refine me0 (pc' := 147) (S' := [ii 7, ii (vk v : Int)]) dm_X12_through_145 rfl rfl rfl rfl ?_
                      refine y_2ne (a := (vk v : Int)) (b := 7) (t := 182) (pc' := 150) dm_X12_through_147 rfl rfl (by omega) (fun hb9 => ?_) (fun hb9 => ?_)
                      · have hns : ¬ (vk v = 1 ∨ vk v = 3) := by omega
                        refine me1 (pc' := 183) (L' := [(0, .ref 102), (1, ii vb), (2, ii (hd : Int)), (3, ii place), (4, ii (vk v : Int)), (5, ii (vm v : Int)), (6, ii (q : Int)), (7, ii ((k : Nat) : Int))]) (S' := [ii vb]) dm_X12_through_182 rfl rfl rfl rfl ?_
                        refine me1 (pc' := 184) (L' := [(0, .ref 102), (1, ii vb), (2, ii (hd : Int)), (3, ii place), (4, ii (vk v : Int)), (5, ii (vm v : Int)), (6, ii (q : Int)), (7, ii ((k : Nat) : Int))]) (S' := [.ref 102, ii vb]) dm_X12_through_183 rfl rfl rfl rfl ?_
                        refine me1 (pc' := 185) (L' := [(0, .ref 102), (1, ii vb), (2, ii (hd : Int)), (3, ii place), (4, ii (vk v : Int)), (5, ii (vm v : Int)), (6, ii (q : Int)), (7, ii ((k : Nat) : Int))]) (S' := [ii (hd : Int), .ref 102, ii vb]) dm_X12_through_184 rfl rfl rfl rfl ?_
                        refine me1 (pc' := 187) (L' := [(0, .ref 102), (1, ii vb), (2, ii (hd : Int)), (3, ii place), (4, ii (vk v : Int)), (5, ii (vm v : Int)), (6, ii (q : Int)), (7, ii ((k : Nat) : Int))]) (S' := [ii ((k : Nat) : Int), ii (hd : Int), .ref 102, ii vb]) dm_X12_through_185 rfl rfl rfl rfl ?_
                        refine x_cp (pc' := 190) (v := .long (vn v k)) (rest := [ii vb]) dm_X12_through_187 rfl (q_inv (As := [ii (hd : Int), ii ((k : Nat) : Int)]) (S := [ii vb]) hm rfl rfl rfl) rfl rfl rfl (r_number_ (k := k) hm (by omega) hBT (hvT _ _) (by omega) (by omega)) ?_
                        refine x_cp (pc' := 193) (v := .long (trn vb (vn v k))) (rest := []) dm_X12_through_190 rfl (g_invs (As := [ii vb, .long (vn v k)]) (S := []) rfl rfl rfl) rfl rfl rfl (r_turned_ (by omega) hvb) ?_
                        refine me1 (pc' := 195) (L' := [(8, .long (trn vb (vn v k))), (0, .ref 102), (1, ii vb), (2, ii (hd : Int)), (3, ii place), (4, ii (vk v : Int)), (5, ii (vm v : Int)), (6, ii (q : Int)), (7, ii ((k : Nat) : Int))]) (S' := []) dm_X12_through_193 rfl rfl rfl rfl ?_
                        have hvk9 : vnum v ((k : Nat) : Int) = vn v k := vnum_q hv.1 (by omega) (by omega)
                        have hout : outF (vbo vb) (vk z0) (vk v) (vnum z0 ((k : Nat) : Int)) (vnum v ((k : Nat) : Int)) = (if vb = 45 ∧ trn vb (vn v k) = Int64.ofInt (-9223372036854775808) then 6 else 0, trn vb (vn v k)) := by rw [vnum_z, hvk9]; exact trn_o hvb hns
                        refine me1 (pc' := 196) (L' := [(8, .long (trn vb (vn v k))), (0, .ref 102), (1, ii vb), (2, ii (hd : Int)), (3, ii place), (4, ii (vk v : Int)), (5, ii (vm v : Int)), (6, ii (q : Int)), (7, ii ((k : Nat) : Int))]) (S' := [ii vb]) dm_X12_through_195 rfl rfl rfl rfl ?_
                        refine me0 (pc' := 198) (S' := [ii 45, ii vb]) dm_X12_through_196 rfl rfl rfl rfl ?_
                        refine y_2ne (a := vb) (b := 45) (t := 210) (pc' := 201) dm_X12_through_198 rfl rfl (by omega) (fun hb10 => ?_) (fun hb10 => ?_)
                        · have hof : (outF (vbo vb) (vk z0) (vk v) (vnum z0 ((k : Nat) : Int)) (vnum v ((k : Nat) : Int))).1 = 0 := by rw [hout]; exact if_neg (fun z => by have z1 := z.1; omega)
                          refine me1 (pc' := 212) (L' := [(8, .long (trn vb (vn v k))), (0, .ref 102), (1, ii vb), (2, ii (hd : Int)), (3, ii place), (4, ii (vk v : Int)), (5, ii (vm v : Int)), (6, ii (q : Int)), (7, ii ((k : Nat) : Int))]) (S' := [ii (vk v : Int)]) dm_X12_through_210 rfl rfl rfl rfl ?_
                          refine me0 (pc' := 214) (S' := [ii 6, ii (vk v : Int)]) dm_X12_through_212 rfl rfl rfl rfl ?_
                          refine y_2ne (a := (vk v : Int)) (b := 6) (t := 233) (pc' := 217) dm_X12_through_214 rfl rfl (by omega) (fun hb11 => ?_) (fun hb11 => ?_)
                          · have hoT : (outT (vbo vb) z0 v (lkV z0 v) k).1 = 0 := (outT_1 (fun z => by have z2 := z.2.1; rw [hlk] at z2; omega)).trans hof
                            refine me1 (pc' := 234) (L' := [(8, .long (trn vb (vn v k))), (0, .ref 102), (1, ii vb), (2, ii (hd : Int)), (3, ii place), (4, ii (vk v : Int)), (5, ii (vm v : Int)), (6, ii (q : Int)), (7, ii ((k : Nat) : Int))]) (S' := [.ref 102]) dm_X12_through_233 rfl rfl rfl rfl ?_
                            refine me3 (pc' := 237) (S' := [.ref (102 + 1)]) dm_X12_through_234 (q_getr hm rfl (fun m i l => rg_0 m i l)) rfl rfl rfl ?_
                            refine me1 (pc' := 238) (L' := [(8, .long (trn vb (vn v k))), (0, .ref 102), (1, ii vb), (2, ii (hd : Int)), (3, ii place), (4, ii (vk v : Int)), (5, ii (vm v : Int)), (6, ii (q : Int)), (7, ii ((k : Nat) : Int))]) (S' := [.ref 102, .ref (102 + 1)]) dm_X12_through_237 rfl rfl rfl rfl ?_
                            refine me3 (pc' := 241) (S' := [.ref (102 + 2), .ref (102 + 1)]) dm_X12_through_238 (q_getr hm rfl (fun m i l => rg_1 m i l)) rfl rfl rfl ?_
                            refine me1 (pc' := 243) (L' := [(8, .long (trn vb (vn v k))), (0, .ref 102), (1, ii vb), (2, ii (hd : Int)), (3, ii place), (4, ii (vk v : Int)), (5, ii (vm v : Int)), (6, ii (q : Int)), (7, ii ((k : Nat) : Int))]) (S' := [ii (q : Int), .ref (102 + 2), .ref (102 + 1)]) dm_X12_through_241 rfl rfl rfl rfl ?_
                            refine me3 (pc' := 244) (S' := [ii ((((fillS (rowS s q b 2 (vm v : Int)) b k (flG (vbo vb) z0 v)).2.2.1) 1) q), .ref (102 + 1)]) dm_X12_through_243 (q_iald (v := (((fillS (rowS s q b 2 (vm v : Int)) b k (flG (vbo vb) z0 v)).2.2.1) 1) q) (k := 1) (n := 310000) hm (fun m i l I J => rc_1 m i l I J) (by omega) (by omega) (by decide) rfl) rfl rfl rfl ?_
                            refine pg_st (S' := [ii (b : Int), .ref (102 + 1)]) (congrArg (fun z => ii z :: [.ref (102 + 1)]) (up_eq _ _ _)) ?_
                            refine me1 (pc' := 246) (L' := [(8, .long (trn vb (vn v k))), (0, .ref 102), (1, ii vb), (2, ii (hd : Int)), (3, ii place), (4, ii (vk v : Int)), (5, ii (vm v : Int)), (6, ii (q : Int)), (7, ii ((k : Nat) : Int))]) (S' := [ii ((k : Nat) : Int), ii (b : Int), .ref (102 + 1)]) dm_X12_through_244 rfl rfl rfl rfl ?_
                            refine y_iadd (a := (b : Int)) (b := ((k : Nat) : Int)) dm_X12_through_246 (pc' := 247) rfl ?_
                            refine me1 (pc' := 249) (L' := [(8, .long (trn vb (vn v k))), (0, .ref 102), (1, ii vb), (2, ii (hd : Int)), (3, ii place), (4, ii (vk v : Int)), (5, ii (vm v : Int)), (6, ii (q : Int)), (7, ii ((k : Nat) : Int))]) (S' := [.long (trn vb (vn v k)), ii ((b : Int) + ((k : Nat) : Int)), .ref (102 + 1)]) dm_X12_through_247 rfl rfl rfl rfl ?_
                            refine pg_st (S' := [.long ((flG (vbo vb) z0 v) k), ii ((b : Int) + ((k : Nat) : Int)), .ref (102 + 1)]) (congrArg (fun z => Value.long z :: [ii ((b : Int) + ((k : Nat) : Int)), .ref (102 + 1)]) (by show _ = (outT (vbo vb) z0 v (lkV z0 v) k).2; rw [outT_2, hout])) ?_
                            refine me3 (pc' := 250) (S' := []) (h1 := rI pre post ((fillS (rowS s q b 2 (vm v : Int)) b k (flG (vbo vb) z0 v)).1) ((fillS (rowS s q b 2 (vm v : Int)) b k (flG (vbo vb) z0 v)).2.1) ((fillS (rowS s q b 2 (vm v : Int)) b k (flG (vbo vb) z0 v)).2.2.1) (va_up ((fillS (rowS s q b 2 (vm v : Int)) b k (flG (vbo vb) z0 v)).2.2.2) 0 (va_up (((fillS (rowS s q b 2 (vm v : Int)) b k (flG (vbo vb) z0 v)).2.2.2) 0) (b + k) ((flG (vbo vb) z0 v) k)))) dm_X12_through_249 (q_last (j := (b : Int) + ((k : Nat) : Int)) (k := 0) (n := 820000) hm (fun m i l I J => rc_0 m i l I J) (fun m i l I J f => rs_0 m i l I J f) (by omega) (by omega) (by decide)) rfl rfl rfl ?_
                            refine y_iinc (pc' := 253) (L' := [(7, ii (((k : Nat) : Int) + 1)), (8, .long (trn vb (vn v k))), (0, .ref 102), (1, ii vb), (2, ii (hd : Int)), (3, ii place), (4, ii (vk v : Int)), (5, ii (vm v : Int)), (6, ii (q : Int))]) dm_X12_through_250 (y_incp (a := ((k : Nat) : Int)) (c := 1) rfl rfl (by decide)) rfl ?_
                            refine me2 (pc' := 129) (S' := []) dm_X12_through_253 rfl rfl rfl ?_
                            refine pg_cast (h2 := rI pre post ((fillS (rowS s q b 2 (vm v : Int)) b (k + 1) (flG (vbo vb) z0 v)).1) ((fillS (rowS s q b 2 (vm v : Int)) b (k + 1) (flG (vbo vb) z0 v)).2.1) ((fillS (rowS s q b 2 (vm v : Int)) b (k + 1) (flG (vbo vb) z0 v)).2.2.1) ((fillS (rowS s q b 2 (vm v : Int)) b (k + 1) (flG (vbo vb) z0 v)).2.2.2)) (fill_s (rowS s q b 2 (vm v : Int)) b k (flG (vbo vb) z0 v)) ?_
                            exact pg_sub (L := [(0, .ref 102), (1, ii vb), (2, ii (hd : Int)), (3, ii place), (4, ii (vk v : Int)), (5, ii (vm v : Int)), (6, ii (q : Int)), (7, ii (((k + 1) : Nat) : Int))]) rfl rfl rfl (ih129 ((vm v) - (k + 1)) (by omega) (k + 1) rfl (by omega) ((errs_s0 hes).trans hoT))
                          · exfalso; omega
                        · refine me1 (pc' := 203) (L' := [(8, .long (trn vb (vn v k))), (0, .ref 102), (1, ii vb), (2, ii (hd : Int)), (3, ii place), (4, ii (vk v : Int)), (5, ii (vm v : Int)), (6, ii (q : Int)), (7, ii ((k : Nat) : Int))]) (S' := [.long (trn vb (vn v k))]) dm_X12_through_201 rfl rfl rfl rfl ?_
                          refine me3 (pc' := 206) (S' := [.long (Int64.ofInt (-9223372036854775808)), .long (trn vb (vn v k))]) dm_X12_through_203 rfl rfl rfl rfl ?_
                          refine y_leq (x := trn vb (vn v k)) (y := Int64.ofInt (-9223372036854775808)) (t := 225) (pc1 := 207) (pc' := 210) dm_X12_through_206 rfl dm_X12_through_207 rfl rfl (fun hb12 => ?_) (fun hb12 => ?_)
                          · have hb12i := congrArg Int64.toInt hb12
                            have hoT6 : (outT (vbo vb) z0 v (lkV z0 v) k).1 = 6 := by have h9 : (outF (vbo vb) (vk z0) (vk v) (vnum z0 ((k : Nat) : Int)) (vnum v ((k : Nat) : Int))).1 = 6 := (by rw [hout]; exact if_pos ⟨by omega, hb12⟩); rw [outT_1 (fun z => by rw [h9] at z; exact absurd z.1 (by decide)), h9]
                            refine me1 (pc' := 226) (L' := [(8, .long (trn vb (vn v k))), (0, .ref 102), (1, ii vb), (2, ii (hd : Int)), (3, ii place), (4, ii (vk v : Int)), (5, ii (vm v : Int)), (6, ii (q : Int)), (7, ii ((k : Nat) : Int))]) (S' := [.ref 102]) dm_X12_through_225 rfl rfl rfl rfl ?_
                            refine me0 (pc' := 228) (S' := [ii 6, .ref 102]) dm_X12_through_226 rfl rfl rfl rfl ?_
                            refine me1 (pc' := 229) (L' := [(8, .long (trn vb (vn v k))), (0, .ref 102), (1, ii vb), (2, ii (hd : Int)), (3, ii place), (4, ii (vk v : Int)), (5, ii (vm v : Int)), (6, ii (q : Int)), (7, ii ((k : Nat) : Int))]) (S' := [ii place, ii 6, .ref 102]) dm_X12_through_228 rfl rfl rfl rfl ?_
                            refine x_cv (pc' := 232) (rest := []) dm_X12_through_229 rfl (q_inv (As := [ii 6, ii place]) (S := []) hm rfl rfl rfl) rfl rfl rfl (r_fail_ (s := (fillS (rowS s q b 2 (vm v : Int)) b k (flG (vbo vb) z0 v))) hm (by omega) he0 hca.1 hca.2) ?_
                            rintro _ _ ⟨rfl, rfl⟩
                            refine y_ret (r := some (ii (-1))) dm_X12_through_232 rfl rfl rfl ?_
                            rw [pfl_e (n := 6) haz hes (by omega) hoT6 rfl (by decide)]
                            exact ⟨_, rfl, rresN_f (rext_fail (rext_fill hxT (by omega) _) _ _) (rfr_fail (rfr_tr (rfr_row s q b _ _) (rfr_fill _ _ _ _)) _ _) (by show (b : Int) + (vm v : Int) ≤ _; omega) (by show (q : Int) + 1 ≤ _; omega) rfl rfl (by decide)⟩
                          · have hb12i : ¬ (trn vb (vn v k)).toInt = (Int64.ofInt (-9223372036854775808)).toInt := fun z => hb12 (Int64.toInt_inj.mp z)
                            have hof : (outF (vbo vb) (vk z0) (vk v) (vnum z0 ((k : Nat) : Int)) (vnum v ((k : Nat) : Int))).1 = 0 := by rw [hout]; exact if_neg (fun z => hb12 z.2)
                            refine me1 (pc' := 212) (L' := [(8, .long (trn vb (vn v k))), (0, .ref 102), (1, ii vb), (2, ii (hd : Int)), (3, ii place), (4, ii (vk v : Int)), (5, ii (vm v : Int)), (6, ii (q : Int)), (7, ii ((k : Nat) : Int))]) (S' := [ii (vk v : Int)]) dm_X12_through_210 rfl rfl rfl rfl ?_
                            refine me0 (pc' := 214) (S' := [ii 6, ii (vk v : Int)]) dm_X12_through_212 rfl rfl rfl rfl ?_
                            refine y_2ne (a := (vk v : Int)) (b := 6) (t := 233) (pc' := 217) dm_X12_through_214 rfl rfl (by omega) (fun hb13 => ?_) (fun hb13 => ?_)
                            · have hoT : (outT (vbo vb) z0 v (lkV z0 v) k).1 = 0 := (outT_1 (fun z => by have z2 := z.2.1; rw [hlk] at z2; omega)).trans hof
                              refine me1 (pc' := 234) (L' := [(8, .long (trn vb (vn v k))), (0, .ref 102), (1, ii vb), (2, ii (hd : Int)), (3, ii place), (4, ii (vk v : Int)), (5, ii (vm v : Int)), (6, ii (q : Int)), (7, ii ((k : Nat) : Int))]) (S' := [.ref 102]) dm_X12_through_233 rfl rfl rfl rfl ?_
                              refine me3 (pc' := 237) (S' := [.ref (102 + 1)]) dm_X12_through_234 (q_getr hm rfl (fun m i l => rg_0 m i l)) rfl rfl rfl ?_
                              refine me1 (pc' := 238) (L' := [(8, .long (trn vb (vn v k))), (0, .ref 102), (1, ii vb), (2, ii (hd : Int)), (3, ii place), (4, ii (vk v : Int)), (5, ii (vm v : Int)), (6, ii (q : Int)), (7, ii ((k : Nat) : Int))]) (S' := [.ref 102, .ref (102 + 1)]) dm_X12_through_237 rfl rfl rfl rfl ?_
                              refine me3 (pc' := 241) (S' := [.ref (102 + 2), .ref (102 + 1)]) dm_X12_through_238 (q_getr hm rfl (fun m i l => rg_1 m i l)) rfl rfl rfl ?_
                              refine me1 (pc' := 243) (L' := [(8, .long (trn vb (vn v k))), (0, .ref 102), (1, ii vb), (2, ii (hd : Int)), (3, ii place), (4, ii (vk v : Int)), (5, ii (vm v : Int)), (6, ii (q : Int)), (7, ii ((k : Nat) : Int))]) (S' := [ii (q : Int), .ref (102 + 2), .ref (102 + 1)]) dm_X12_through_241 rfl rfl rfl rfl ?_
                              refine me3 (pc' := 244) (S' := [ii ((((fillS (rowS s q b 2 (vm v : Int)) b k (flG (vbo vb) z0 v)).2.2.1) 1) q), .ref (102 + 1)]) dm_X12_through_243 (q_iald (v := (((fillS (rowS s q b 2 (vm v : Int)) b k (flG (vbo vb) z0 v)).2.2.1) 1) q) (k := 1) (n := 310000) hm (fun m i l I J => rc_1 m i l I J) (by omega) (by omega) (by decide) rfl) rfl rfl rfl ?_
                              refine pg_st (S' := [ii (b : Int), .ref (102 + 1)]) (congrArg (fun z => ii z :: [.ref (102 + 1)]) (up_eq _ _ _)) ?_
                              refine me1 (pc' := 246) (L' := [(8, .long (trn vb (vn v k))), (0, .ref 102), (1, ii vb), (2, ii (hd : Int)), (3, ii place), (4, ii (vk v : Int)), (5, ii (vm v : Int)), (6, ii (q : Int)), (7, ii ((k : Nat) : Int))]) (S' := [ii ((k : Nat) : Int), ii (b : Int), .ref (102 + 1)]) dm_X12_through_244 rfl rfl rfl rfl ?_
                              refine y_iadd (a := (b : Int)) (b := ((k : Nat) : Int)) dm_X12_through_246 (pc' := 247) rfl ?_
                              refine me1 (pc' := 249) (L' := [(8, .long (trn vb (vn v k))), (0, .ref 102), (1, ii vb), (2, ii (hd : Int)), (3, ii place), (4, ii (vk v : Int)), (5, ii (vm v : Int)), (6, ii (q : Int)), (7, ii ((k : Nat) : Int))]) (S' := [.long (trn vb (vn v k)), ii ((b : Int) + ((k : Nat) : Int)), .ref (102 + 1)]) dm_X12_through_247 rfl rfl rfl rfl ?_
                              refine pg_st (S' := [.long ((flG (vbo vb) z0 v) k), ii ((b : Int) + ((k : Nat) : Int)), .ref (102 + 1)]) (congrArg (fun z => Value.long z :: [ii ((b : Int) + ((k : Nat) : Int)), .ref (102 + 1)]) (by show _ = (outT (vbo vb) z0 v (lkV z0 v) k).2; rw [outT_2, hout])) ?_
                              refine me3 (pc' := 250) (S' := []) (h1 := rI pre post ((fillS (rowS s q b 2 (vm v : Int)) b k (flG (vbo vb) z0 v)).1) ((fillS (rowS s q b 2 (vm v : Int)) b k (flG (vbo vb) z0 v)).2.1) ((fillS (rowS s q b 2 (vm v : Int)) b k (flG (vbo vb) z0 v)).2.2.1) (va_up ((fillS (rowS s q b 2 (vm v : Int)) b k (flG (vbo vb) z0 v)).2.2.2) 0 (va_up (((fillS (rowS s q b 2 (vm v : Int)) b k (flG (vbo vb) z0 v)).2.2.2) 0) (b + k) ((flG (vbo vb) z0 v) k)))) dm_X12_through_249 (q_last (j := (b : Int) + ((k : Nat) : Int)) (k := 0) (n := 820000) hm (fun m i l I J => rc_0 m i l I J) (fun m i l I J f => rs_0 m i l I J f) (by omega) (by omega) (by decide)) rfl rfl rfl ?_
                              refine y_iinc (pc' := 253) (L' := [(7, ii (((k : Nat) : Int) + 1)), (8, .long (trn vb (vn v k))), (0, .ref 102), (1, ii vb), (2, ii (hd : Int)), (3, ii place), (4, ii (vk v : Int)), (5, ii (vm v : Int)), (6, ii (q : Int))]) dm_X12_through_250 (y_incp (a := ((k : Nat) : Int)) (c := 1) rfl rfl (by decide)) rfl ?_
                              refine me2 (pc' := 129) (S' := []) dm_X12_through_253 rfl rfl rfl ?_
                              refine pg_cast (h2 := rI pre post ((fillS (rowS s q b 2 (vm v : Int)) b (k + 1) (flG (vbo vb) z0 v)).1) ((fillS (rowS s q b 2 (vm v : Int)) b (k + 1) (flG (vbo vb) z0 v)).2.1) ((fillS (rowS s q b 2 (vm v : Int)) b (k + 1) (flG (vbo vb) z0 v)).2.2.1) ((fillS (rowS s q b 2 (vm v : Int)) b (k + 1) (flG (vbo vb) z0 v)).2.2.2)) (fill_s (rowS s q b 2 (vm v : Int)) b k (flG (vbo vb) z0 v)) ?_
                              exact pg_sub (L := [(0, .ref 102), (1, ii vb), (2, ii (hd : Int)), (3, ii place), (4, ii (vk v : Int)), (5, ii (vm v : Int)), (6, ii (q : Int)), (7, ii (((k + 1) : Nat) : Int))]) rfl rfl rfl (ih129 ((vm v) - (k + 1)) (by omega) (k + 1) rfl (by omega) ((errs_s0 hes).trans hoT))
                            · exfalso; omega
                      · exfalso; omega
                refine pg_cast (h2 := rI pre post ((fillS (rowS s q b 2 (vm v : Int)) b 0 (flG (vbo vb) z0 v)).1) ((fillS (rowS s q b 2 (vm v : Int)) b 0 (flG (vbo vb) z0 v)).2.1) ((fillS (rowS s q b 2 (vm v : Int)) b 0 (flG (vbo vb) z0 v)).2.2.1) ((fillS (rowS s q b 2 (vm v : Int)) b 0 (flG (vbo vb) z0 v)).2.2.2)) (fill_0 (rowS s q b 2 (vm v : Int)) b (flG (vbo vb) z0 v)) ?_
                exact pg_sub (L := [(0, .ref 102), (1, ii vb), (2, ii (hd : Int)), (3, ii place), (4, ii (vk v : Int)), (5, ii (vm v : Int)), (6, ii (q : Int)), (7, ii ((0 : Nat) : Int))]) rfl rfl rfl (lp129 _ 0 rfl (Nat.zero_le _) rfl)
            · exfalso; omega
          · exfalso; omega
        · exfalso; omega
      · exfalso; omega
    · refine me1 (pc' := 20) (L' := [(4, ii (vk v : Int)), (0, .ref 102), (1, ii vb), (2, ii (hd : Int)), (3, ii place)]) (S' := [.ref 102]) dm_X12_through_19 rfl rfl rfl rfl ?_
      refine me1 (pc' := 21) (L' := [(4, ii (vk v : Int)), (0, .ref 102), (1, ii vb), (2, ii (hd : Int)), (3, ii place)]) (S' := [ii (hd : Int), .ref 102]) dm_X12_through_20 rfl rfl rfl rfl ?_
      refine x_cp (pc' := 24) (v := ii (vm v : Int)) (rest := []) dm_X12_through_21 rfl (q_inv (As := [ii (hd : Int)]) (S := []) hm rfl rfl rfl) rfl rfl rfl (r_many_ hm (by omega) hB0 hv) ?_
      refine y_1le (a := (vm v : Int)) (t := 34) (pc' := 27) dm_X12_through_24 rfl rfl (by omega) (fun hb14 => ?_) (fun hb14 => ?_)
      · refine me1 (pc' := 36) (L' := [(4, ii (vk v : Int)), (0, .ref 102), (1, ii vb), (2, ii (hd : Int)), (3, ii place)]) (S' := [ii (vk v : Int)]) dm_X12_through_34 rfl rfl rfl rfl ?_
        refine me0 (pc' := 38) (S' := [ii 6, ii (vk v : Int)]) dm_X12_through_36 rfl rfl rfl rfl ?_
        refine y_2ne (a := (vk v : Int)) (b := 6) (t := 55) (pc' := 41) dm_X12_through_38 rfl rfl (by omega) (fun hb15 => ?_) (fun hb15 => ?_)
        · refine me1 (pc' := 56) (L' := [(4, ii (vk v : Int)), (0, .ref 102), (1, ii vb), (2, ii (hd : Int)), (3, ii place)]) (S' := [.ref 102]) dm_X12_through_55 rfl rfl rfl rfl ?_
          refine me1 (pc' := 57) (L' := [(4, ii (vk v : Int)), (0, .ref 102), (1, ii vb), (2, ii (hd : Int)), (3, ii place)]) (S' := [ii (hd : Int), .ref 102]) dm_X12_through_56 rfl rfl rfl rfl ?_
          refine x_cp (pc' := 60) (v := ii (vm v : Int)) (rest := []) dm_X12_through_57 rfl (q_inv (As := [ii (hd : Int)]) (S := []) hm rfl rfl rfl) rfl rfl rfl (r_many_ hm (by omega) hB0 hv) ?_
          refine me1 (pc' := 62) (L' := [(5, ii (vm v : Int)), (4, ii (vk v : Int)), (0, .ref 102), (1, ii vb), (2, ii (hd : Int)), (3, ii place)]) (S' := []) dm_X12_through_60 rfl rfl rfl rfl ?_
          refine me1 (pc' := 64) (L' := [(5, ii (vm v : Int)), (4, ii (vk v : Int)), (0, .ref 102), (1, ii vb), (2, ii (hd : Int)), (3, ii place)]) (S' := [ii (vk v : Int)]) dm_X12_through_62 rfl rfl rfl rfl ?_
          refine me0 (pc' := 66) (S' := [ii 6, ii (vk v : Int)]) dm_X12_through_64 rfl rfl rfl rfl ?_
          refine y_2ne (a := (vk v : Int)) (b := 6) (t := 86) (pc' := 69) dm_X12_through_66 rfl rfl (by omega) (fun hb16 => ?_) (fun hb16 => ?_)
          · refine me1 (pc' := 87) (L' := [(5, ii (vm v : Int)), (4, ii (vk v : Int)), (0, .ref 102), (1, ii vb), (2, ii (hd : Int)), (3, ii place)]) (S' := [.ref 102]) dm_X12_through_86 rfl rfl rfl rfl ?_
            refine me1 (pc' := 89) (L' := [(5, ii (vm v : Int)), (4, ii (vk v : Int)), (0, .ref 102), (1, ii vb), (2, ii (hd : Int)), (3, ii place)]) (S' := [ii (vk v : Int), .ref 102]) dm_X12_through_87 rfl rfl rfl rfl ?_
            refine me0 (pc' := 91) (S' := [ii 7, ii (vk v : Int), .ref 102]) dm_X12_through_89 rfl rfl rfl rfl ?_
            refine y_2ne (a := (vk v : Int)) (b := 7) (t := 99) (pc' := 94) dm_X12_through_91 rfl rfl (by omega) (fun hb17 => ?_) (fun hb17 => ?_)
            · refine me1 (pc' := 101) (L' := [(5, ii (vm v : Int)), (4, ii (vk v : Int)), (0, .ref 102), (1, ii vb), (2, ii (hd : Int)), (3, ii place)]) (S' := [ii (vk v : Int), .ref 102]) dm_X12_through_99 rfl rfl rfl rfl ?_
              refine y_1ne (a := (vk v : Int)) (t := 108) (pc' := 104) dm_X12_through_101 rfl rfl (by omega) (fun hb18 => ?_) (fun hb18 => ?_)
              · refine me1 (pc' := 109) (L' := [(5, ii (vm v : Int)), (4, ii (vk v : Int)), (0, .ref 102), (1, ii vb), (2, ii (hd : Int)), (3, ii place)]) (S' := [ii vb, .ref 102]) dm_X12_through_108 rfl rfl rfl rfl ?_
                refine me0 (pc' := 111) (S' := [ii 126, ii vb, .ref 102]) dm_X12_through_109 rfl rfl rfl rfl ?_
                refine y_2ne (a := vb) (b := 126) (t := 118) (pc' := 114) dm_X12_through_111 rfl rfl (by omega) (fun hb19 => ?_) (fun hb19 => ?_)
                · exfalso; omega
                · refine me0 (pc' := 115) (S' := [ii 2, .ref 102]) dm_X12_through_114 rfl rfl rfl rfl ?_
                  refine me2 (pc' := 119) (S' := [ii 2, .ref 102]) dm_X12_through_115 rfl rfl rfl ?_
                  refine me1 (pc' := 121) (L' := [(5, ii (vm v : Int)), (4, ii (vk v : Int)), (0, .ref 102), (1, ii vb), (2, ii (hd : Int)), (3, ii place)]) (S' := [ii (vm v : Int), ii 2, .ref 102]) dm_X12_through_119 rfl rfl rfl rfl ?_
                  refine x_cv (pc' := 124) (rest := []) dm_X12_through_121 rfl (q_inv (As := [ii 2, ii (vm v : Int)]) (S := []) hm rfl rfl rfl) rfl rfl rfl (r_row_ (q := q) (b := b) (s := s) hm (by omega) hq hb (by omega) (by omega) (by omega)) ?_
                  rintro _ _ ⟨rfl, rfl⟩
                  refine me1 (pc' := 126) (L' := [(6, ii (q : Int)), (5, ii (vm v : Int)), (4, ii (vk v : Int)), (0, .ref 102), (1, ii vb), (2, ii (hd : Int)), (3, ii place)]) (S' := []) dm_X12_through_124 rfl rfl rfl rfl ?_
                  have hxT : rext s (rowS s q b 2 (vm v : Int)) := rext_row hq hb _ (by omega)
                  have hBT : rB (rowS s q b 2 (vm v : Int)) := ⟨by show 3 ≤ (q : Int) + 1; omega, by show (q : Int) + 1 ≤ 310000; omega, by show 0 ≤ (b : Int) + (vm v : Int); omega, by show (b : Int) + (vm v : Int) ≤ 820000; omega⟩
                  have hvT : ∀ (k : Nat) (F : Nat → Int64), rv (fillS (rowS s q b 2 (vm v : Int)) b k F) (e + 1) hd v := fun k F => rv_ext (rext_fill hxT (by omega) F) hh3 hv
                  refine me0 (pc' := 127) (S' := [ii 0]) dm_X12_through_126 rfl rfl rfl rfl ?_
                  refine me1 (pc' := 129) (L' := [(7, ii 0), (6, ii (q : Int)), (5, ii (vm v : Int)), (4, ii (vk v : Int)), (0, .ref 102), (1, ii vb), (2, ii (hd : Int)), (3, ii place)]) (S' := []) dm_X12_through_127 rfl rfl rfl rfl ?_
                  have lp129 : ∀ (n129 : Nat) (k : Nat), (vm v) - k = n129 → (k ≤ (vm v)) → (errs (fun j => (outT (vbo vb) z0 v (lkV z0 v) j).1) k = 0) → pgE xt (d - 1) 12 10 false (Option.some Jvm.ClassFile.FieldType.int) (mj_dec prog_14_method_31_code) 129 [(0, .ref 102), (1, ii vb), (2, ii (hd : Int)), (3, ii place), (4, ii (vk v : Int)), (5, ii (vm v : Int)), (6, ii (q : Int)), (7, ii ((k : Nat) : Int))] [] (rI pre post ((fillS (rowS s q b 2 (vm v : Int)) b k (flG (vbo vb) z0 v)).1) ((fillS (rowS s q b 2 (vm v : Int)) b k (flG (vbo vb) z0 v)).2.1) ((fillS (rowS s q b 2 (vm v : Int)) b k (flG (vbo vb) z0 v)).2.2.1) ((fillS (rowS s q b 2 (vm v : Int)) b k (flG (vbo vb) z0 v)).2.2.2)) (fun r h' => ∃ x, r = some x ∧ rresN pre post s (e + 1) (pfl (vbo vb) z0 v) place (vq v) 1 x h') := by
                    intro n129
                    induction n129 using Nat.strongRecOn with
                    | ind n129 ih129 =>
                      intro k hm129 hk hes
                      refine me1 (pc' := 131) (L' := [(0, .ref 102), (1, ii vb), (2, ii (hd : Int)), (3, ii place), (4, ii (vk v : Int)), (5, ii (vm v : Int)), (6, ii (q : Int)), (7, ii ((k : Nat) : Int))]) (S' := [ii ((k : Nat) : Int)]) dm_X12_through_129 rfl rfl rfl rfl ?_
                      refine me1 (pc' := 133) (L' := [(0, .ref 102), (1, ii vb), (2, ii (hd : Int)), (3, ii place), (4, ii (vk v : Int)), (5, ii (vm v : Int)), (6, ii (q : Int)), (7, ii ((k : Nat) : Int))]) (S' := [ii (vm v : Int), ii ((k : Nat) : Int)]) dm_X12_through_131 rfl rfl rfl rfl ?_
                      refine y_2ge (a := ((k : Nat) : Int)) (b := (vm v : Int)) (t := 256) (pc' := 136) dm_X12_through_133 rfl rfl (by omega) (fun hb20 => ?_) (fun hb20 => ?_)
                      · refine me1 (pc' := 257) (L' := [(0, .ref 102), (1, ii vb), (2, ii (hd : Int)), (3, ii place), (4, ii (vk v : Int)), (5, ii (vm v : Int)), (6, ii (q : Int)), (7, ii ((k : Nat) : Int))]) (S' := [.ref 102]) dm_X12_through_256 rfl rfl rfl rfl ?_
                        refine me1 (pc' := 259) (L' := [(0, .ref 102), (1, ii vb), (2, ii (hd : Int)), (3, ii place), (4, ii (vk v : Int)), (5, ii (vm v : Int)), (6, ii (q : Int)), (7, ii ((k : Nat) : Int))]) (S' := [ii (q : Int), .ref 102]) dm_X12_through_257 rfl rfl rfl rfl ?_
                        refine x_cp (pc' := 262) (v := ii 2) (rest := []) dm_X12_through_259 rfl (q_inv (As := [ii (q : Int)]) (S := []) hm rfl rfl rfl) rfl rfl rfl (r_kindRaw_ (s := (fillS (rowS s q b 2 (vm v : Int)) b k (flG (vbo vb) z0 v))) (kd := 2) (z := (vm v : Int)) hm (by omega) (by omega) (by show va_up (s.2.2.1 2) q (2 + (vm v : Int) * 8) q = _; rw [up_eq]; omega) (by decide) (by omega)) ?_
                        refine me0 (pc' := 263) (S' := [ii 5, ii 2]) dm_X12_through_262 rfl rfl rfl rfl ?_
                        refine me_2t (pc' := 275) dm_X12_through_263 rfl (by decide) ?_
                        refine me1 (pc' := 277) (L' := [(0, .ref 102), (1, ii vb), (2, ii (hd : Int)), (3, ii place), (4, ii (vk v : Int)), (5, ii (vm v : Int)), (6, ii (q : Int)), (7, ii ((k : Nat) : Int))]) (S' := [ii (q : Int)]) dm_X12_through_275 rfl rfl rfl rfl ?_
                        refine y_ret (r := some (ii (q : Int))) dm_X12_through_277 rfl rfl rfl ?_
                        have hkN : k = (vm v) := by omega
                        rw [hkN] at hes
                        rw [hkN]
                        have hall := errs_all hes
                        rw [pfl_v haz (by rw [hlq]; exact hes)]
                        rw [show flV (vbo vb) z0 v = vrow 2 (vm v) (flG (vbo vb) z0 v) by unfold flV; rw [hlk, if_neg (by omega), if_neg (by omega), if_pos (show bitV (vbo vb) by unfold bitV vbo; rw [if_neg (by omega)]; omega)]]
                        exact ⟨_, rfl, rresN_mk (rext_fill hxT (by omega) _) (rfr_tr (rfr_row s q b _ _) (rfr_fill _ _ _ _)) (by show (b : Int) + (vm v : Int) ≤ _; omega) (by show (q : Int) + 1 ≤ _; omega) he0 rfl hq3 (by rw [hb]; exact rvN_rowS (kind := 2) hq3 (vw1_bits (by omega) (fun j hj => outF_bits (show bitV (vbo vb) by unfold bitV vbo; rw [if_neg (by omega)]; omega))) (by show ¬ 2 = 7; omega) (by show ¬ 2 = 6; omega) rfl rfl rfl (fun _ _ => rfl))⟩
                      · refine me1 (pc' := 137) (L' := [(0, .ref 102), (1, ii vb), (2, ii (hd : Int)), (3, ii place), (4, ii (vk v : Int)), (5, ii (vm v : Int)), (6, ii (q : Int)), (7, ii ((k : Nat) : Int))]) (S' := [.ref 102]) dm_X12_through_136 rfl rfl rfl rfl ?_
                        refine me3 (pc' := 140) (S' := [ii (((fillS (rowS s q b 2 (vm v : Int)) b k (flG (vbo vb) z0 v)).1) 5)]) dm_X12_through_137 (q_geti (v := ((fillS (rowS s q b 2 (vm v : Int)) b k (flG (vbo vb) z0 v)).1) 5) hm rfl (fun m i l => rg_5 m i l) rfl) rfl rfl rfl ?_
                        refine pg_st (S' := [ii 0]) (congrArg (fun z => ii z :: []) (he0)) ?_
                        refine me_1f (pc' := 143) dm_X12_through_140 rfl (by decide) rfl ?_
                        refine me1 (pc' := 145) (L' := [(0, .ref 102), (1, ii vb), (2, ii (hd : Int)), (3, ii place), (4, ii (vk v : Int)), (5, ii (vm v : Int)), (6, ii (q : Int)), (7, ii ((k : Nat) : Int))]) (S' := [ii (vk v : Int)]) dm_X12_through_143 rfl rfl rfl rfl ?_
                        refine me0 (pc' := 147) (S' := [ii 7, ii (vk v : Int)]) dm_X12_through_145 rfl rfl rfl rfl ?_
                        refine y_2ne (a := (vk v : Int)) (b := 7) (t := 182) (pc' := 150) dm_X12_through_147 rfl rfl (by omega) (fun hb21 => ?_) (fun hb21 => ?_)
                        · have hns : ¬ (vk v = 1 ∨ vk v = 3) := by omega
                          refine me1 (pc' := 183) (L' := [(0, .ref 102), (1, ii vb), (2, ii (hd : Int)), (3, ii place), (4, ii (vk v : Int)), (5, ii (vm v : Int)), (6, ii (q : Int)), (7, ii ((k : Nat) : Int))]) (S' := [ii vb]) dm_X12_through_182 rfl rfl rfl rfl ?_
                          refine me1 (pc' := 184) (L' := [(0, .ref 102), (1, ii vb), (2, ii (hd : Int)), (3, ii place), (4, ii (vk v : Int)), (5, ii (vm v : Int)), (6, ii (q : Int)), (7, ii ((k : Nat) : Int))]) (S' := [.ref 102, ii vb]) dm_X12_through_183 rfl rfl rfl rfl ?_
                          refine me1 (pc' := 185) (L' := [(0, .ref 102), (1, ii vb), (2, ii (hd : Int)), (3, ii place), (4, ii (vk v : Int)), (5, ii (vm v : Int)), (6, ii (q : Int)), (7, ii ((k : Nat) : Int))]) (S' := [ii (hd : Int), .ref 102, ii vb]) dm_X12_through_184 rfl rfl rfl rfl ?_
                          refine me1 (pc' := 187) (L' := [(0, .ref 102), (1, ii vb), (2, ii (hd : Int)), (3, ii place), (4, ii (vk v : Int)), (5, ii (vm v : Int)), (6, ii (q : Int)), (7, ii ((k : Nat) : Int))]) (S' := [ii ((k : Nat) : Int), ii (hd : Int), .ref 102, ii vb]) dm_X12_through_185 rfl rfl rfl rfl ?_
                          refine x_cp (pc' := 190) (v := .long (vn v k)) (rest := [ii vb]) dm_X12_through_187 rfl (q_inv (As := [ii (hd : Int), ii ((k : Nat) : Int)]) (S := [ii vb]) hm rfl rfl rfl) rfl rfl rfl (r_number_ (k := k) hm (by omega) hBT (hvT _ _) (by omega) (by omega)) ?_
                          refine x_cp (pc' := 193) (v := .long (trn vb (vn v k))) (rest := []) dm_X12_through_190 rfl (g_invs (As := [ii vb, .long (vn v k)]) (S := []) rfl rfl rfl) rfl rfl rfl (r_turned_ (by omega) hvb) ?_
                          refine me1 (pc' := 195) (L' := [(8, .long (trn vb (vn v k))), (0, .ref 102), (1, ii vb), (2, ii (hd : Int)), (3, ii place), (4, ii (vk v : Int)), (5, ii (vm v : Int)), (6, ii (q : Int)), (7, ii ((k : Nat) : Int))]) (S' := []) dm_X12_through_193 rfl rfl rfl rfl ?_
                          have hvk9 : vnum v ((k : Nat) : Int) = vn v k := vnum_q hv.1 (by omega) (by omega)
                          have hout : outF (vbo vb) (vk z0) (vk v) (vnum z0 ((k : Nat) : Int)) (vnum v ((k : Nat) : Int)) = (if vb = 45 ∧ trn vb (vn v k) = Int64.ofInt (-9223372036854775808) then 6 else 0, trn vb (vn v k)) := by rw [vnum_z, hvk9]; exact trn_o hvb hns
                          refine me1 (pc' := 196) (L' := [(8, .long (trn vb (vn v k))), (0, .ref 102), (1, ii vb), (2, ii (hd : Int)), (3, ii place), (4, ii (vk v : Int)), (5, ii (vm v : Int)), (6, ii (q : Int)), (7, ii ((k : Nat) : Int))]) (S' := [ii vb]) dm_X12_through_195 rfl rfl rfl rfl ?_
                          refine me0 (pc' := 198) (S' := [ii 45, ii vb]) dm_X12_through_196 rfl rfl rfl rfl ?_
                          refine y_2ne (a := vb) (b := 45) (t := 210) (pc' := 201) dm_X12_through_198 rfl rfl (by omega) (fun hb22 => ?_) (fun hb22 => ?_)
                          · have hof : (outF (vbo vb) (vk z0) (vk v) (vnum z0 ((k : Nat) : Int)) (vnum v ((k : Nat) : Int))).1 = 0 := by rw [hout]; exact if_neg (fun z => by have z1 := z.1; omega)
                            refine me1 (pc' := 212) (L' := [(8, .long (trn vb (vn v k))), (0, .ref 102), (1, ii vb), (2, ii (hd : Int)), (3, ii place), (4, ii (vk v : Int)), (5, ii (vm v : Int)), (6, ii (q : Int)), (7, ii ((k : Nat) : Int))]) (S' := [ii (vk v : Int)]) dm_X12_through_210 rfl rfl rfl rfl ?_
                            refine me0 (pc' := 214) (S' := [ii 6, ii (vk v : Int)]) dm_X12_through_212 rfl rfl rfl rfl ?_
                            refine y_2ne (a := (vk v : Int)) (b := 6) (t := 233) (pc' := 217) dm_X12_through_214 rfl rfl (by omega) (fun hb23 => ?_) (fun hb23 => ?_)
                            · have hoT : (outT (vbo vb) z0 v (lkV z0 v) k).1 = 0 := (outT_1 (fun z => by have z2 := z.2.1; rw [hlk] at z2; omega)).trans hof
                              refine me1 (pc' := 234) (L' := [(8, .long (trn vb (vn v k))), (0, .ref 102), (1, ii vb), (2, ii (hd : Int)), (3, ii place), (4, ii (vk v : Int)), (5, ii (vm v : Int)), (6, ii (q : Int)), (7, ii ((k : Nat) : Int))]) (S' := [.ref 102]) dm_X12_through_233 rfl rfl rfl rfl ?_
                              refine me3 (pc' := 237) (S' := [.ref (102 + 1)]) dm_X12_through_234 (q_getr hm rfl (fun m i l => rg_0 m i l)) rfl rfl rfl ?_
                              refine me1 (pc' := 238) (L' := [(8, .long (trn vb (vn v k))), (0, .ref 102), (1, ii vb), (2, ii (hd : Int)), (3, ii place), (4, ii (vk v : Int)), (5, ii (vm v : Int)), (6, ii (q : Int)), (7, ii ((k : Nat) : Int))]) (S' := [.ref 102, .ref (102 + 1)]) dm_X12_through_237 rfl rfl rfl rfl ?_
                              refine me3 (pc' := 241) (S' := [.ref (102 + 2), .ref (102 + 1)]) dm_X12_through_238 (q_getr hm rfl (fun m i l => rg_1 m i l)) rfl rfl rfl ?_
                              refine me1 (pc' := 243) (L' := [(8, .long (trn vb (vn v k))), (0, .ref 102), (1, ii vb), (2, ii (hd : Int)), (3, ii place), (4, ii (vk v : Int)), (5, ii (vm v : Int)), (6, ii (q : Int)), (7, ii ((k : Nat) : Int))]) (S' := [ii (q : Int), .ref (102 + 2), .ref (102 + 1)]) dm_X12_through_241 rfl rfl rfl rfl ?_
                              refine me3 (pc' := 244) (S' := [ii ((((fillS (rowS s q b 2 (vm v : Int)) b k (flG (vbo vb) z0 v)).2.2.1) 1) q), .ref (102 + 1)]) dm_X12_through_243 (q_iald (v := (((fillS (rowS s q b 2 (vm v : Int)) b k (flG (vbo vb) z0 v)).2.2.1) 1) q) (k := 1) (n := 310000) hm (fun m i l I J => rc_1 m i l I J) (by omega) (by omega) (by decide) rfl) rfl rfl rfl ?_
                              refine pg_st (S' := [ii (b : Int), .ref (102 + 1)]) (congrArg (fun z => ii z :: [.ref (102 + 1)]) (up_eq _ _ _)) ?_
                              refine me1 (pc' := 246) (L' := [(8, .long (trn vb (vn v k))), (0, .ref 102), (1, ii vb), (2, ii (hd : Int)), (3, ii place), (4, ii (vk v : Int)), (5, ii (vm v : Int)), (6, ii (q : Int)), (7, ii ((k : Nat) : Int))]) (S' := [ii ((k : Nat) : Int), ii (b : Int), .ref (102 + 1)]) dm_X12_through_244 rfl rfl rfl rfl ?_
                              refine y_iadd (a := (b : Int)) (b := ((k : Nat) : Int)) dm_X12_through_246 (pc' := 247) rfl ?_
                              refine me1 (pc' := 249) (L' := [(8, .long (trn vb (vn v k))), (0, .ref 102), (1, ii vb), (2, ii (hd : Int)), (3, ii place), (4, ii (vk v : Int)), (5, ii (vm v : Int)), (6, ii (q : Int)), (7, ii ((k : Nat) : Int))]) (S' := [.long (trn vb (vn v k)), ii ((b : Int) + ((k : Nat) : Int)), .ref (102 + 1)]) dm_X12_through_247 rfl rfl rfl rfl ?_
                              refine pg_st (S' := [.long ((flG (vbo vb) z0 v) k), ii ((b : Int) + ((k : Nat) : Int)), .ref (102 + 1)]) (congrArg (fun z => Value.long z :: [ii ((b : Int) + ((k : Nat) : Int)), .ref (102 + 1)]) (by show _ = (outT (vbo vb) z0 v (lkV z0 v) k).2; rw [outT_2, hout])) ?_
                              refine me3 (pc' := 250) (S' := []) (h1 := rI pre post ((fillS (rowS s q b 2 (vm v : Int)) b k (flG (vbo vb) z0 v)).1) ((fillS (rowS s q b 2 (vm v : Int)) b k (flG (vbo vb) z0 v)).2.1) ((fillS (rowS s q b 2 (vm v : Int)) b k (flG (vbo vb) z0 v)).2.2.1) (va_up ((fillS (rowS s q b 2 (vm v : Int)) b k (flG (vbo vb) z0 v)).2.2.2) 0 (va_up (((fillS (rowS s q b 2 (vm v : Int)) b k (flG (vbo vb) z0 v)).2.2.2) 0) (b + k) ((flG (vbo vb) z0 v) k)))) dm_X12_through_249 (q_last (j := (b : Int) + ((k : Nat) : Int)) (k := 0) (n := 820000) hm (fun m i l I J => rc_0 m i l I J) (fun m i l I J f => rs_0 m i l I J f) (by omega) (by omega) (by decide)) rfl rfl rfl ?_
                              refine y_iinc (pc' := 253) (L' := [(7, ii (((k : Nat) : Int) + 1)), (8, .long (trn vb (vn v k))), (0, .ref 102), (1, ii vb), (2, ii (hd : Int)), (3, ii place), (4, ii (vk v : Int)), (5, ii (vm v : Int)), (6, ii (q : Int))]) dm_X12_through_250 (y_incp (a := ((k : Nat) : Int)) (c := 1) rfl rfl (by decide)) rfl ?_
                              refine me2 (pc' := 129) (S' := []) dm_X12_through_253 rfl rfl rfl ?_
                              refine pg_cast (h2 := rI pre post ((fillS (rowS s q b 2 (vm v : Int)) b (k + 1) (flG (vbo vb) z0 v)).1) ((fillS (rowS s q b 2 (vm v : Int)) b (k + 1) (flG (vbo vb) z0 v)).2.1) ((fillS (rowS s q b 2 (vm v : Int)) b (k + 1) (flG (vbo vb) z0 v)).2.2.1) ((fillS (rowS s q b 2 (vm v : Int)) b (k + 1) (flG (vbo vb) z0 v)).2.2.2)) (fill_s (rowS s q b 2 (vm v : Int)) b k (flG (vbo vb) z0 v)) ?_
                              exact pg_sub (L := [(0, .ref 102), (1, ii vb), (2, ii (hd : Int)), (3, ii place), (4, ii (vk v : Int)), (5, ii (vm v : Int)), (6, ii (q : Int)), (7, ii (((k + 1) : Nat) : Int))]) rfl rfl rfl (ih129 ((vm v) - (k + 1)) (by omega) (k + 1) rfl (by omega) ((errs_s0 hes).trans hoT))
                            · exfalso; omega
                          · refine me1 (pc' := 203) (L' := [(8, .long (trn vb (vn v k))), (0, .ref 102), (1, ii vb), (2, ii (hd : Int)), (3, ii place), (4, ii (vk v : Int)), (5, ii (vm v : Int)), (6, ii (q : Int)), (7, ii ((k : Nat) : Int))]) (S' := [.long (trn vb (vn v k))]) dm_X12_through_201 rfl rfl rfl rfl ?_
                            refine me3 (pc' := 206) (S' := [.long (Int64.ofInt (-9223372036854775808)), .long (trn vb (vn v k))]) dm_X12_through_203 rfl rfl rfl rfl ?_
                            refine y_leq (x := trn vb (vn v k)) (y := Int64.ofInt (-9223372036854775808)) (t := 225) (pc1 := 207) (pc' := 210) dm_X12_through_206 rfl dm_X12_through_207 rfl rfl (fun hb24 => ?_) (fun hb24 => ?_)
                            · have hb24i := congrArg Int64.toInt hb24
                              have hoT6 : (outT (vbo vb) z0 v (lkV z0 v) k).1 = 6 := by have h9 : (outF (vbo vb) (vk z0) (vk v) (vnum z0 ((k : Nat) : Int)) (vnum v ((k : Nat) : Int))).1 = 6 := (by rw [hout]; exact if_pos ⟨by omega, hb24⟩); rw [outT_1 (fun z => by rw [h9] at z; exact absurd z.1 (by decide)), h9]
                              refine me1 (pc' := 226) (L' := [(8, .long (trn vb (vn v k))), (0, .ref 102), (1, ii vb), (2, ii (hd : Int)), (3, ii place), (4, ii (vk v : Int)), (5, ii (vm v : Int)), (6, ii (q : Int)), (7, ii ((k : Nat) : Int))]) (S' := [.ref 102]) dm_X12_through_225 rfl rfl rfl rfl ?_
                              refine me0 (pc' := 228) (S' := [ii 6, .ref 102]) dm_X12_through_226 rfl rfl rfl rfl ?_
                              refine me1 (pc' := 229) (L' := [(8, .long (trn vb (vn v k))), (0, .ref 102), (1, ii vb), (2, ii (hd : Int)), (3, ii place), (4, ii (vk v : Int)), (5, ii (vm v : Int)), (6, ii (q : Int)), (7, ii ((k : Nat) : Int))]) (S' := [ii place, ii 6, .ref 102]) dm_X12_through_228 rfl rfl rfl rfl ?_
                              refine x_cv (pc' := 232) (rest := []) dm_X12_through_229 rfl (q_inv (As := [ii 6, ii place]) (S := []) hm rfl rfl rfl) rfl rfl rfl (r_fail_ (s := (fillS (rowS s q b 2 (vm v : Int)) b k (flG (vbo vb) z0 v))) hm (by omega) he0 hca.1 hca.2) ?_
                              rintro _ _ ⟨rfl, rfl⟩
                              refine y_ret (r := some (ii (-1))) dm_X12_through_232 rfl rfl rfl ?_
                              rw [pfl_e (n := 6) haz hes (by omega) hoT6 rfl (by decide)]
                              exact ⟨_, rfl, rresN_f (rext_fail (rext_fill hxT (by omega) _) _ _) (rfr_fail (rfr_tr (rfr_row s q b _ _) (rfr_fill _ _ _ _)) _ _) (by show (b : Int) + (vm v : Int) ≤ _; omega) (by show (q : Int) + 1 ≤ _; omega) rfl rfl (by decide)⟩
                            · have hb24i : ¬ (trn vb (vn v k)).toInt = (Int64.ofInt (-9223372036854775808)).toInt := fun z => hb24 (Int64.toInt_inj.mp z)
                              have hof : (outF (vbo vb) (vk z0) (vk v) (vnum z0 ((k : Nat) : Int)) (vnum v ((k : Nat) : Int))).1 = 0 := by rw [hout]; exact if_neg (fun z => hb24 z.2)
                              refine me1 (pc' := 212) (L' := [(8, .long (trn vb (vn v k))), (0, .ref 102), (1, ii vb), (2, ii (hd : Int)), (3, ii place), (4, ii (vk v : Int)), (5, ii (vm v : Int)), (6, ii (q : Int)), (7, ii ((k : Nat) : Int))]) (S' := [ii (vk v : Int)]) dm_X12_through_210 rfl rfl rfl rfl ?_
                              refine me0 (pc' := 214) (S' := [ii 6, ii (vk v : Int)]) dm_X12_through_212 rfl rfl rfl rfl ?_
                              refine y_2ne (a := (vk v : Int)) (b := 6) (t := 233) (pc' := 217) dm_X12_through_214 rfl rfl (by omega) (fun hb25 => ?_) (fun hb25 => ?_)
                              · have hoT : (outT (vbo vb) z0 v (lkV z0 v) k).1 = 0 := (outT_1 (fun z => by have z2 := z.2.1; rw [hlk] at z2; omega)).trans hof
                                refine me1 (pc' := 234) (L' := [(8, .long (trn vb (vn v k))), (0, .ref 102), (1, ii vb), (2, ii (hd : Int)), (3, ii place), (4, ii (vk v : Int)), (5, ii (vm v : Int)), (6, ii (q : Int)), (7, ii ((k : Nat) : Int))]) (S' := [.ref 102]) dm_X12_through_233 rfl rfl rfl rfl ?_
                                refine me3 (pc' := 237) (S' := [.ref (102 + 1)]) dm_X12_through_234 (q_getr hm rfl (fun m i l => rg_0 m i l)) rfl rfl rfl ?_
                                refine me1 (pc' := 238) (L' := [(8, .long (trn vb (vn v k))), (0, .ref 102), (1, ii vb), (2, ii (hd : Int)), (3, ii place), (4, ii (vk v : Int)), (5, ii (vm v : Int)), (6, ii (q : Int)), (7, ii ((k : Nat) : Int))]) (S' := [.ref 102, .ref (102 + 1)]) dm_X12_through_237 rfl rfl rfl rfl ?_
                                refine me3 (pc' := 241) (S' := [.ref (102 + 2), .ref (102 + 1)]) dm_X12_through_238 (q_getr hm rfl (fun m i l => rg_1 m i l)) rfl rfl rfl ?_
                                refine me1 (pc' := 243) (L' := [(8, .long (trn vb (vn v k))), (0, .ref 102), (1, ii vb), (2, ii (hd : Int)), (3, ii place), (4, ii (vk v : Int)), (5, ii (vm v : Int)), (6, ii (q : Int)), (7, ii ((k : Nat) : Int))]) (S' := [ii (q : Int), .ref (102 + 2), .ref (102 + 1)]) dm_X12_through_241 rfl rfl rfl rfl ?_
                                refine me3 (pc' := 244) (S' := [ii ((((fillS (rowS s q b 2 (vm v : Int)) b k (flG (vbo vb) z0 v)).2.2.1) 1) q), .ref (102 + 1)]) dm_X12_through_243 (q_iald (v := (((fillS (rowS s q b 2 (vm v : Int)) b k (flG (vbo vb) z0 v)).2.2.1) 1) q) (k := 1) (n := 310000) hm (fun m i l I J => rc_1 m i l I J) (by omega) (by omega) (by decide) rfl) rfl rfl rfl ?_
                                refine pg_st (S' := [ii (b : Int), .ref (102 + 1)]) (congrArg (fun z => ii z :: [.ref (102 + 1)]) (up_eq _ _ _)) ?_
                                refine me1 (pc' := 246) (L' := [(8, .long (trn vb (vn v k))), (0, .ref 102), (1, ii vb), (2, ii (hd : Int)), (3, ii place), (4, ii (vk v : Int)), (5, ii (vm v : Int)), (6, ii (q : Int)), (7, ii ((k : Nat) : Int))]) (S' := [ii ((k : Nat) : Int), ii (b : Int), .ref (102 + 1)]) dm_X12_through_244 rfl rfl rfl rfl ?_
                                refine y_iadd (a := (b : Int)) (b := ((k : Nat) : Int)) dm_X12_through_246 (pc' := 247) rfl ?_
                                refine me1 (pc' := 249) (L' := [(8, .long (trn vb (vn v k))), (0, .ref 102), (1, ii vb), (2, ii (hd : Int)), (3, ii place), (4, ii (vk v : Int)), (5, ii (vm v : Int)), (6, ii (q : Int)), (7, ii ((k : Nat) : Int))]) (S' := [.long (trn vb (vn v k)), ii ((b : Int) + ((k : Nat) : Int)), .ref (102 + 1)]) dm_X12_through_247 rfl rfl rfl rfl ?_
                                refine pg_st (S' := [.long ((flG (vbo vb) z0 v) k), ii ((b : Int) + ((k : Nat) : Int)), .ref (102 + 1)]) (congrArg (fun z => Value.long z :: [ii ((b : Int) + ((k : Nat) : Int)), .ref (102 + 1)]) (by show _ = (outT (vbo vb) z0 v (lkV z0 v) k).2; rw [outT_2, hout])) ?_
                                refine me3 (pc' := 250) (S' := []) (h1 := rI pre post ((fillS (rowS s q b 2 (vm v : Int)) b k (flG (vbo vb) z0 v)).1) ((fillS (rowS s q b 2 (vm v : Int)) b k (flG (vbo vb) z0 v)).2.1) ((fillS (rowS s q b 2 (vm v : Int)) b k (flG (vbo vb) z0 v)).2.2.1) (va_up ((fillS (rowS s q b 2 (vm v : Int)) b k (flG (vbo vb) z0 v)).2.2.2) 0 (va_up (((fillS (rowS s q b 2 (vm v : Int)) b k (flG (vbo vb) z0 v)).2.2.2) 0) (b + k) ((flG (vbo vb) z0 v) k)))) dm_X12_through_249 (q_last (j := (b : Int) + ((k : Nat) : Int)) (k := 0) (n := 820000) hm (fun m i l I J => rc_0 m i l I J) (fun m i l I J f => rs_0 m i l I J f) (by omega) (by omega) (by decide)) rfl rfl rfl ?_
                                refine y_iinc (pc' := 253) (L' := [(7, ii (((k : Nat) : Int) + 1)), (8, .long (trn vb (vn v k))), (0, .ref 102), (1, ii vb), (2, ii (hd : Int)), (3, ii place), (4, ii (vk v : Int)), (5, ii (vm v : Int)), (6, ii (q : Int))]) dm_X12_through_250 (y_incp (a := ((k : Nat) : Int)) (c := 1) rfl rfl (by decide)) rfl ?_
                                refine me2 (pc' := 129) (S' := []) dm_X12_through_253 rfl rfl rfl ?_
                                refine pg_cast (h2 := rI pre post ((fillS (rowS s q b 2 (vm v : Int)) b (k + 1) (flG (vbo vb) z0 v)).1) ((fillS (rowS s q b 2 (vm v : Int)) b (k + 1) (flG (vbo vb) z0 v)).2.1) ((fillS (rowS s q b 2 (vm v : Int)) b (k + 1) (flG (vbo vb) z0 v)).2.2.1) ((fillS (rowS s q b 2 (vm v : Int)) b (k + 1) (flG (vbo vb) z0 v)).2.2.2)) (fill_s (rowS s q b 2 (vm v : Int)) b k (flG (vbo vb) z0 v)) ?_
                                exact pg_sub (L := [(0, .ref 102), (1, ii vb), (2, ii (hd : Int)), (3, ii place), (4, ii (vk v : Int)), (5, ii (vm v : Int)), (6, ii (q : Int)), (7, ii (((k + 1) : Nat) : Int))]) rfl rfl rfl (ih129 ((vm v) - (k + 1)) (by omega) (k + 1) rfl (by omega) ((errs_s0 hes).trans hoT))
                              · exfalso; omega
                        · exfalso; omega
                  refine pg_cast (h2 := rI pre post ((fillS (rowS s q b 2 (vm v : Int)) b 0 (flG (vbo vb) z0 v)).1) ((fillS (rowS s q b 2 (vm v : Int)) b 0 (flG (vbo vb) z0 v)).2.1) ((fillS (rowS s q b 2 (vm v : Int)) b 0 (flG (vbo vb) z0 v)).2.2.1) ((fillS (rowS s q b 2 (vm v : Int)) b 0 (flG (vbo vb) z0 v)).2.2.2)) (fill_0 (rowS s q b 2 (vm v : Int)) b (flG (vbo vb) z0 v)) ?_
                  exact pg_sub (L := [(0, .ref 102), (1, ii vb), (2, ii (hd : Int)), (3, ii place), (4, ii (vk v : Int)), (5, ii (vm v : Int)), (6, ii (q : Int)), (7, ii ((0 : Nat) : Int))]) rfl rfl rfl (lp129 _ 0 rfl (Nat.zero_le _) rfl)
              · exfalso; omega
            · exfalso; omega
          · exfalso; omega
        · exfalso; omega
      · exfalso; omega
theorem dm_X12_through_118 : mj_dec prog_14_method_31_code 118 = some (.iconst 5, 1) := by decide +kernel
theorem dm_X12_through_266 : mj_dec prog_14_method_31_code 266 = some (.aload_n 0, 1) := by decide +kernel
theorem dm_X12_through_267 : mj_dec prog_14_method_31_code 267 = some (.iload 6, 2) := by decide +kernel
theorem dm_X12_through_269 : mj_dec prog_14_method_31_code 269 = some (.invokevirtual 205, 3) := by decide +kernel
theorem dm_X12_through_272 : mj_dec prog_14_method_31_code 272 = some (.goto 5, 3) := by decide +kernel
theorem r_thrL {vb : Int} {xt : mj_X} {d e hd q b : Nat} {pre post : mj_H} {s : RS} {v : VV} {place : Int} (hm : pre.length = 102) (hd1 : 6 ≤ d) (hB : rB s) (hv : rv s (e + 1) hd v) (hh3 : 3 ≤ hd) (hq : s.1 4 = (q : Int)) (hb : s.1 3 = (b : Int)) (hq3 : 3 ≤ q) (hV2 : q < 310000) (he0 : s.1 5 = 0) (hca : 0 ≤ s.1 10 ∧ s.1 10 ≤ 100) (hC : b + 300 ≤ 820000) (hvb : vb = 45 ∨ vb = 37 ∨ vb = 126) (hf2 : 2 ≤ vk v ∧ vk v ≤ 5) (hcm : ¬ vb = 126) (hs3 : vk v = 3 → vm v = 0) : pgV xt d 283 [.ref 102, ii vb, ii (hd : Int), ii place] (rS pre post s) (rresN pre post s (e + 1) (pfl (vbo vb) z0 v) place (vq v) 1) := by
  have hB0 := hB
  obtain ⟨hB1, hB2, hB3, hB4⟩ := hB
  obtain ⟨fr, hfr, hsh, hlt, hcl, hvk, hvm, hvc, hvq, hvcl⟩ := rv_val hv
  have hcv := vw1_c hv.1
  have hlk : lkV z0 v = v := by unfold lkV; exact if_pos (by show 0 ≤ 1; omega)
  have hlq : vq (lkV z0 v) = (vm v) := by rw [hlk]; exact vq_m (by omega)
  have hqL : vq v = (vm v) := by rw [← hlq, hlk]
  have haz : askF z0 v = 0 := by unfold askF; exact if_pos (Or.inl (by show 0 ≤ 1; omega))
  refine x_enter pm_X12_through (L0 := [(0, .ref 102), (1, ii vb), (2, ii (hd : Int)), (3, ii place)]) rfl (Nat.le_of_ble_eq_true rfl) (by omega) ?_
  refine me1 (pc' := 1) (L' := [(0, .ref 102), (1, ii vb), (2, ii (hd : Int)), (3, ii place)]) (S' := [.ref 102]) dm_X12_through_0 rfl rfl rfl rfl ?_
  refine me1 (pc' := 2) (L' := [(0, .ref 102), (1, ii vb), (2, ii (hd : Int)), (3, ii place)]) (S' := [ii (hd : Int), .ref 102]) dm_X12_through_1 rfl rfl rfl rfl ?_
  refine x_cp (pc' := 5) (v := ii (vk v : Int)) (rest := []) dm_X12_through_2 rfl (q_inv (As := [ii (hd : Int)]) (S := []) hm rfl rfl rfl) rfl rfl rfl (r_kindOf_ hm (by omega) hB0 hv) ?_
  refine me1 (pc' := 7) (L' := [(4, ii (vk v : Int)), (0, .ref 102), (1, ii vb), (2, ii (hd : Int)), (3, ii place)]) (S' := []) dm_X12_through_5 rfl rfl rfl rfl ?_
  refine me1 (pc' := 9) (L' := [(4, ii (vk v : Int)), (0, .ref 102), (1, ii vb), (2, ii (hd : Int)), (3, ii place)]) (S' := [ii (vk v : Int)]) dm_X12_through_7 rfl rfl rfl rfl ?_
  refine me0 (pc' := 10) (S' := [ii 1, ii (vk v : Int)]) dm_X12_through_9 rfl rfl rfl rfl ?_
  refine y_2eq (a := (vk v : Int)) (b := 1) (t := 27) (pc' := 13) dm_X12_through_10 rfl rfl (by omega) (fun hb1 => ?_) (fun hb1 => ?_)
  · exfalso; omega
  · refine me1 (pc' := 15) (L' := [(4, ii (vk v : Int)), (0, .ref 102), (1, ii vb), (2, ii (hd : Int)), (3, ii place)]) (S' := [ii (vk v : Int)]) dm_X12_through_13 rfl rfl rfl rfl ?_
    refine me0 (pc' := 16) (S' := [ii 3, ii (vk v : Int)]) dm_X12_through_15 rfl rfl rfl rfl ?_
    refine y_2ne (a := (vk v : Int)) (b := 3) (t := 34) (pc' := 19) dm_X12_through_16 rfl rfl (by omega) (fun hb2 => ?_) (fun hb2 => ?_)
    · refine me1 (pc' := 36) (L' := [(4, ii (vk v : Int)), (0, .ref 102), (1, ii vb), (2, ii (hd : Int)), (3, ii place)]) (S' := [ii (vk v : Int)]) dm_X12_through_34 rfl rfl rfl rfl ?_
      refine me0 (pc' := 38) (S' := [ii 6, ii (vk v : Int)]) dm_X12_through_36 rfl rfl rfl rfl ?_
      refine y_2ne (a := (vk v : Int)) (b := 6) (t := 55) (pc' := 41) dm_X12_through_38 rfl rfl (by omega) (fun hb3 => ?_) (fun hb3 => ?_)
      · refine me1 (pc' := 56) (L' := [(4, ii (vk v : Int)), (0, .ref 102), (1, ii vb), (2, ii (hd : Int)), (3, ii place)]) (S' := [.ref 102]) dm_X12_through_55 rfl rfl rfl rfl ?_
        refine me1 (pc' := 57) (L' := [(4, ii (vk v : Int)), (0, .ref 102), (1, ii vb), (2, ii (hd : Int)), (3, ii place)]) (S' := [ii (hd : Int), .ref 102]) dm_X12_through_56 rfl rfl rfl rfl ?_
        refine x_cp (pc' := 60) (v := ii (vm v : Int)) (rest := []) dm_X12_through_57 rfl (q_inv (As := [ii (hd : Int)]) (S := []) hm rfl rfl rfl) rfl rfl rfl (r_many_ hm (by omega) hB0 hv) ?_
        refine me1 (pc' := 62) (L' := [(5, ii (vm v : Int)), (4, ii (vk v : Int)), (0, .ref 102), (1, ii vb), (2, ii (hd : Int)), (3, ii place)]) (S' := []) dm_X12_through_60 rfl rfl rfl rfl ?_
        refine me1 (pc' := 64) (L' := [(5, ii (vm v : Int)), (4, ii (vk v : Int)), (0, .ref 102), (1, ii vb), (2, ii (hd : Int)), (3, ii place)]) (S' := [ii (vk v : Int)]) dm_X12_through_62 rfl rfl rfl rfl ?_
        refine me0 (pc' := 66) (S' := [ii 6, ii (vk v : Int)]) dm_X12_through_64 rfl rfl rfl rfl ?_
        refine y_2ne (a := (vk v : Int)) (b := 6) (t := 86) (pc' := 69) dm_X12_through_66 rfl rfl (by omega) (fun hb4 => ?_) (fun hb4 => ?_)
        · refine me1 (pc' := 87) (L' := [(5, ii (vm v : Int)), (4, ii (vk v : Int)), (0, .ref 102), (1, ii vb), (2, ii (hd : Int)), (3, ii place)]) (S' := [.ref 102]) dm_X12_through_86 rfl rfl rfl rfl ?_
          refine me1 (pc' := 89) (L' := [(5, ii (vm v : Int)), (4, ii (vk v : Int)), (0, .ref 102), (1, ii vb), (2, ii (hd : Int)), (3, ii place)]) (S' := [ii (vk v : Int), .ref 102]) dm_X12_through_87 rfl rfl rfl rfl ?_
          refine me0 (pc' := 91) (S' := [ii 7, ii (vk v : Int), .ref 102]) dm_X12_through_89 rfl rfl rfl rfl ?_
          refine y_2ne (a := (vk v : Int)) (b := 7) (t := 99) (pc' := 94) dm_X12_through_91 rfl rfl (by omega) (fun hb5 => ?_) (fun hb5 => ?_)
          · refine me1 (pc' := 101) (L' := [(5, ii (vm v : Int)), (4, ii (vk v : Int)), (0, .ref 102), (1, ii vb), (2, ii (hd : Int)), (3, ii place)]) (S' := [ii (vk v : Int), .ref 102]) dm_X12_through_99 rfl rfl rfl rfl ?_
            refine y_1ne (a := (vk v : Int)) (t := 108) (pc' := 104) dm_X12_through_101 rfl rfl (by omega) (fun hb6 => ?_) (fun hb6 => ?_)
            · refine me1 (pc' := 109) (L' := [(5, ii (vm v : Int)), (4, ii (vk v : Int)), (0, .ref 102), (1, ii vb), (2, ii (hd : Int)), (3, ii place)]) (S' := [ii vb, .ref 102]) dm_X12_through_108 rfl rfl rfl rfl ?_
              refine me0 (pc' := 111) (S' := [ii 126, ii vb, .ref 102]) dm_X12_through_109 rfl rfl rfl rfl ?_
              refine y_2ne (a := vb) (b := 126) (t := 118) (pc' := 114) dm_X12_through_111 rfl rfl (by omega) (fun hb7 => ?_) (fun hb7 => ?_)
              · refine me0 (pc' := 119) (S' := [ii 5, .ref 102]) dm_X12_through_118 rfl rfl rfl rfl ?_
                refine me1 (pc' := 121) (L' := [(5, ii (vm v : Int)), (4, ii (vk v : Int)), (0, .ref 102), (1, ii vb), (2, ii (hd : Int)), (3, ii place)]) (S' := [ii (vm v : Int), ii 5, .ref 102]) dm_X12_through_119 rfl rfl rfl rfl ?_
                refine x_cv (pc' := 124) (rest := []) dm_X12_through_121 rfl (q_inv (As := [ii 5, ii (vm v : Int)]) (S := []) hm rfl rfl rfl) rfl rfl rfl (r_row_ (q := q) (b := b) (s := s) hm (by omega) hq hb (by omega) (by omega) (by omega)) ?_
                rintro _ _ ⟨rfl, rfl⟩
                refine me1 (pc' := 126) (L' := [(6, ii (q : Int)), (5, ii (vm v : Int)), (4, ii (vk v : Int)), (0, .ref 102), (1, ii vb), (2, ii (hd : Int)), (3, ii place)]) (S' := []) dm_X12_through_124 rfl rfl rfl rfl ?_
                have hxT : rext s (rowS s q b 5 (vm v : Int)) := rext_row hq hb _ (by omega)
                have hBT : rB (rowS s q b 5 (vm v : Int)) := ⟨by show 3 ≤ (q : Int) + 1; omega, by show (q : Int) + 1 ≤ 310000; omega, by show 0 ≤ (b : Int) + (vm v : Int); omega, by show (b : Int) + (vm v : Int) ≤ 820000; omega⟩
                have hvT : ∀ (k : Nat) (F : Nat → Int64), rv (fillS (rowS s q b 5 (vm v : Int)) b k F) (e + 1) hd v := fun k F => rv_ext (rext_fill hxT (by omega) F) hh3 hv
                refine me0 (pc' := 127) (S' := [ii 0]) dm_X12_through_126 rfl rfl rfl rfl ?_
                refine me1 (pc' := 129) (L' := [(7, ii 0), (6, ii (q : Int)), (5, ii (vm v : Int)), (4, ii (vk v : Int)), (0, .ref 102), (1, ii vb), (2, ii (hd : Int)), (3, ii place)]) (S' := []) dm_X12_through_127 rfl rfl rfl rfl ?_
                have lp129 : ∀ (n129 : Nat) (k : Nat), (vm v) - k = n129 → (k ≤ (vm v)) → (errs (fun j => (outT (vbo vb) z0 v (lkV z0 v) j).1) k = 0) → pgE xt (d - 1) 12 10 false (Option.some Jvm.ClassFile.FieldType.int) (mj_dec prog_14_method_31_code) 129 [(0, .ref 102), (1, ii vb), (2, ii (hd : Int)), (3, ii place), (4, ii (vk v : Int)), (5, ii (vm v : Int)), (6, ii (q : Int)), (7, ii ((k : Nat) : Int))] [] (rI pre post ((fillS (rowS s q b 5 (vm v : Int)) b k (flG (vbo vb) z0 v)).1) ((fillS (rowS s q b 5 (vm v : Int)) b k (flG (vbo vb) z0 v)).2.1) ((fillS (rowS s q b 5 (vm v : Int)) b k (flG (vbo vb) z0 v)).2.2.1) ((fillS (rowS s q b 5 (vm v : Int)) b k (flG (vbo vb) z0 v)).2.2.2)) (fun r h' => ∃ x, r = some x ∧ rresN pre post s (e + 1) (pfl (vbo vb) z0 v) place (vq v) 1 x h') := by
                  intro n129
                  induction n129 using Nat.strongRecOn with
                  | ind n129 ih129 =>
                    intro k hm129 hk hes
                    refine me1 (pc' := 131) (L' := [(0, .ref 102), (1, ii vb), (2, ii (hd : Int)), (3, ii place), (4, ii (vk v : Int)), (5, ii (vm v : Int)), (6, ii (q : Int)), (7, ii ((k : Nat) : Int))]) (S' := [ii ((k : Nat) : Int)]) dm_X12_through_129 rfl rfl rfl rfl ?_
                    refine me1 (pc' := 133) (L' := [(0, .ref 102), (1, ii vb), (2, ii (hd : Int)), (3, ii place), (4, ii (vk v : Int)), (5, ii (vm v : Int)), (6, ii (q : Int)), (7, ii ((k : Nat) : Int))]) (S' := [ii (vm v : Int), ii ((k : Nat) : Int)]) dm_X12_through_131 rfl rfl rfl rfl ?_
                    refine y_2ge (a := ((k : Nat) : Int)) (b := (vm v : Int)) (t := 256) (pc' := 136) dm_X12_through_133 rfl rfl (by omega) (fun hb8 => ?_) (fun hb8 => ?_)
                    · refine me1 (pc' := 257) (L' := [(0, .ref 102), (1, ii vb), (2, ii (hd : Int)), (3, ii place), (4, ii (vk v : Int)), (5, ii (vm v : Int)), (6, ii (q : Int)), (7, ii ((k : Nat) : Int))]) (S' := [.ref 102]) dm_X12_through_256 rfl rfl rfl rfl ?_
                      refine me1 (pc' := 259) (L' := [(0, .ref 102), (1, ii vb), (2, ii (hd : Int)), (3, ii place), (4, ii (vk v : Int)), (5, ii (vm v : Int)), (6, ii (q : Int)), (7, ii ((k : Nat) : Int))]) (S' := [ii (q : Int), .ref 102]) dm_X12_through_257 rfl rfl rfl rfl ?_
                      refine x_cp (pc' := 262) (v := ii 5) (rest := []) dm_X12_through_259 rfl (q_inv (As := [ii (q : Int)]) (S := []) hm rfl rfl rfl) rfl rfl rfl (r_kindRaw_ (s := (fillS (rowS s q b 5 (vm v : Int)) b k (flG (vbo vb) z0 v))) (kd := 5) (z := (vm v : Int)) hm (by omega) (by omega) (by show va_up (s.2.2.1 2) q (5 + (vm v : Int) * 8) q = _; rw [up_eq]; omega) (by decide) (by omega)) ?_
                      refine me0 (pc' := 263) (S' := [ii 5, ii 5]) dm_X12_through_262 rfl rfl rfl rfl ?_
                      refine me_2f (pc' := 266) dm_X12_through_263 rfl (by decide) rfl ?_
                      refine me1 (pc' := 267) (L' := [(0, .ref 102), (1, ii vb), (2, ii (hd : Int)), (3, ii place), (4, ii (vk v : Int)), (5, ii (vm v : Int)), (6, ii (q : Int)), (7, ii ((k : Nat) : Int))]) (S' := [.ref 102]) dm_X12_through_266 rfl rfl rfl rfl ?_
                      refine me1 (pc' := 269) (L' := [(0, .ref 102), (1, ii vb), (2, ii (hd : Int)), (3, ii place), (4, ii (vk v : Int)), (5, ii (vm v : Int)), (6, ii (q : Int)), (7, ii ((k : Nat) : Int))]) (S' := [ii (q : Int), .ref 102]) dm_X12_through_267 rfl rfl rfl rfl ?_
                      have hkN : k = (vm v) := by omega
                      have hvZ : rv (fillS (rowS s q b 5 (vm v : Int)) b k (flG (vbo vb) z0 v)) (e + 1) q (vrow 5 (vm v) (flG (vbo vb) z0 v)) := by rw [hkN]; exact rv_rowS (kind := 5) (vw1_row (by omega) (by omega) (by omega)) (by show ¬ 5 = 7; omega) (by show ¬ 5 = 6; omega) rfl rfl rfl (fun _ _ => rfl)
                      refine x_cv (pc' := 272) (rest := []) dm_X12_through_269 rfl (q_inv (As := [ii (q : Int)]) (S := []) hm rfl rfl rfl) rfl rfl rfl (r_settled_ (s := (fillS (rowS s q b 5 (vm v : Int)) b k (flG (vbo vb) z0 v))) (fr0 := b) hm (by omega) hBT hvZ (up_eq _ _ _)) ?_
                      rintro _ _ ⟨rfl, rfl⟩
                      refine me2 (pc' := 277) (S' := [ii (q : Int)]) dm_X12_through_272 rfl rfl rfl ?_
                      refine y_ret (r := some (ii (q : Int))) dm_X12_through_277 rfl rfl rfl ?_
                      rw [hkN] at hes
                      rw [hkN]
                      have hall := errs_all hes
                      rw [pfl_v haz (by rw [hlq]; exact hes)]
                      have hvf := vform_le (m := (vm v)) (f := (flG (vbo vb) z0 v))
                      rw [show flV (vbo vb) z0 v = vrow (vform (vm v) (flG (vbo vb) z0 v)) (vm v) (flG (vbo vb) z0 v) by unfold flV; rw [hlk, if_neg (by omega), if_neg (by omega), if_neg (show ¬ bitV (vbo vb) by unfold bitV vbo; split <;> omega)]]
                      have hst := setS_row s q b (vform (vm v) (flG (vbo vb) z0 v)) (vm v) (vm v) 5 (flG (vbo vb) z0 v)
                      rw [show rS pre post (setS (fillS (rowS s q b 5 (vm v : Int)) b (vm v) (flG (vbo vb) z0 v)) q b (vform (vm v) (flG (vbo vb) z0 v)) (vm v)) = rS pre post (fillS (rowS s q b ((vform (vm v) (flG (vbo vb) z0 v) : Nat) : Int) (vm v : Int)) b (vm v) (flG (vbo vb) z0 v)) from congrArg (rS pre post) hst]
                      exact ⟨_, rfl, rresN_mk (rext_fill (rext_row hq hb _ (by omega)) (by omega) _) (rfr_tr (rfr_row s q b _ _) (rfr_fill _ _ _ _)) (by show (b : Int) + (vm v : Int) ≤ _; omega) (by show (q : Int) + 1 ≤ _; omega) he0 rfl hq3 (by rw [hb]; exact rvN_rowS (kind := vform (vm v) (flG (vbo vb) z0 v)) hq3 (vw1_row (by omega) (by omega) (by omega)) (by show ¬ vform (vm v) (flG (vbo vb) z0 v) = 7; omega) (by show ¬ vform (vm v) (flG (vbo vb) z0 v) = 6; omega) rfl rfl rfl (fun _ _ => rfl))⟩
                    · refine me1 (pc' := 137) (L' := [(0, .ref 102), (1, ii vb), (2, ii (hd : Int)), (3, ii place), (4, ii (vk v : Int)), (5, ii (vm v : Int)), (6, ii (q : Int)), (7, ii ((k : Nat) : Int))]) (S' := [.ref 102]) dm_X12_through_136 rfl rfl rfl rfl ?_
                      refine me3 (pc' := 140) (S' := [ii (((fillS (rowS s q b 5 (vm v : Int)) b k (flG (vbo vb) z0 v)).1) 5)]) dm_X12_through_137 (q_geti (v := ((fillS (rowS s q b 5 (vm v : Int)) b k (flG (vbo vb) z0 v)).1) 5) hm rfl (fun m i l => rg_5 m i l) rfl) rfl rfl rfl ?_
                      refine pg_st (S' := [ii 0]) (congrArg (fun z => ii z :: []) (he0)) ?_
                      refine me_1f (pc' := 143) dm_X12_through_140 rfl (by decide) rfl ?_
                      refine me1 (pc' := 145) (L' := [(0, .ref 102), (1, ii vb), (2, ii (hd : Int)), (3, ii place), (4, ii (vk v : Int)), (5, ii (vm v : Int)), (6, ii (q : Int)), (7, ii ((k : Nat) : Int))]) (S' := [ii (vk v : Int)]) dm_X12_through_143 rfl rfl rfl rfl ?_
                      refine me0 (pc' := 147) (S' := [ii 7, ii (vk v : Int)]) dm_X12_through_145 rfl rfl rfl rfl ?_
                      refine y_2ne (a := (vk v : Int)) (b := 7) (t := 182) (pc' := 150) dm_X12_through_147 rfl rfl (by omega) (fun hb9 => ?_) (fun hb9 => ?_)
                      · have hns : ¬ (vk v = 1 ∨ vk v = 3) := by omega
                        refine me1 (pc' := 183) (L' := [(0, .ref 102), (1, ii vb), (2, ii (hd : Int)), (3, ii place), (4, ii (vk v : Int)), (5, ii (vm v : Int)), (6, ii (q : Int)), (7, ii ((k : Nat) : Int))]) (S' := [ii vb]) dm_X12_through_182 rfl rfl rfl rfl ?_
                        refine me1 (pc' := 184) (L' := [(0, .ref 102), (1, ii vb), (2, ii (hd : Int)), (3, ii place), (4, ii (vk v : Int)), (5, ii (vm v : Int)), (6, ii (q : Int)), (7, ii ((k : Nat) : Int))]) (S' := [.ref 102, ii vb]) dm_X12_through_183 rfl rfl rfl rfl ?_
                        refine me1 (pc' := 185) (L' := [(0, .ref 102), (1, ii vb), (2, ii (hd : Int)), (3, ii place), (4, ii (vk v : Int)), (5, ii (vm v : Int)), (6, ii (q : Int)), (7, ii ((k : Nat) : Int))]) (S' := [ii (hd : Int), .ref 102, ii vb]) dm_X12_through_184 rfl rfl rfl rfl ?_
                        refine me1 (pc' := 187) (L' := [(0, .ref 102), (1, ii vb), (2, ii (hd : Int)), (3, ii place), (4, ii (vk v : Int)), (5, ii (vm v : Int)), (6, ii (q : Int)), (7, ii ((k : Nat) : Int))]) (S' := [ii ((k : Nat) : Int), ii (hd : Int), .ref 102, ii vb]) dm_X12_through_185 rfl rfl rfl rfl ?_
                        refine x_cp (pc' := 190) (v := .long (vn v k)) (rest := [ii vb]) dm_X12_through_187 rfl (q_inv (As := [ii (hd : Int), ii ((k : Nat) : Int)]) (S := [ii vb]) hm rfl rfl rfl) rfl rfl rfl (r_number_ (k := k) hm (by omega) hBT (hvT _ _) (by omega) (by omega)) ?_
                        refine x_cp (pc' := 193) (v := .long (trn vb (vn v k))) (rest := []) dm_X12_through_190 rfl (g_invs (As := [ii vb, .long (vn v k)]) (S := []) rfl rfl rfl) rfl rfl rfl (r_turned_ (by omega) hvb) ?_
                        refine me1 (pc' := 195) (L' := [(8, .long (trn vb (vn v k))), (0, .ref 102), (1, ii vb), (2, ii (hd : Int)), (3, ii place), (4, ii (vk v : Int)), (5, ii (vm v : Int)), (6, ii (q : Int)), (7, ii ((k : Nat) : Int))]) (S' := []) dm_X12_through_193 rfl rfl rfl rfl ?_
                        have hvk9 : vnum v ((k : Nat) : Int) = vn v k := vnum_q hv.1 (by omega) (by omega)
                        have hout : outF (vbo vb) (vk z0) (vk v) (vnum z0 ((k : Nat) : Int)) (vnum v ((k : Nat) : Int)) = (if vb = 45 ∧ trn vb (vn v k) = Int64.ofInt (-9223372036854775808) then 6 else 0, trn vb (vn v k)) := by rw [vnum_z, hvk9]; exact trn_o hvb hns
                        refine me1 (pc' := 196) (L' := [(8, .long (trn vb (vn v k))), (0, .ref 102), (1, ii vb), (2, ii (hd : Int)), (3, ii place), (4, ii (vk v : Int)), (5, ii (vm v : Int)), (6, ii (q : Int)), (7, ii ((k : Nat) : Int))]) (S' := [ii vb]) dm_X12_through_195 rfl rfl rfl rfl ?_
                        refine me0 (pc' := 198) (S' := [ii 45, ii vb]) dm_X12_through_196 rfl rfl rfl rfl ?_
                        refine y_2ne (a := vb) (b := 45) (t := 210) (pc' := 201) dm_X12_through_198 rfl rfl (by omega) (fun hb10 => ?_) (fun hb10 => ?_)
                        · have hof : (outF (vbo vb) (vk z0) (vk v) (vnum z0 ((k : Nat) : Int)) (vnum v ((k : Nat) : Int))).1 = 0 := by rw [hout]; exact if_neg (fun z => by have z1 := z.1; omega)
                          refine me1 (pc' := 212) (L' := [(8, .long (trn vb (vn v k))), (0, .ref 102), (1, ii vb), (2, ii (hd : Int)), (3, ii place), (4, ii (vk v : Int)), (5, ii (vm v : Int)), (6, ii (q : Int)), (7, ii ((k : Nat) : Int))]) (S' := [ii (vk v : Int)]) dm_X12_through_210 rfl rfl rfl rfl ?_
                          refine me0 (pc' := 214) (S' := [ii 6, ii (vk v : Int)]) dm_X12_through_212 rfl rfl rfl rfl ?_
                          refine y_2ne (a := (vk v : Int)) (b := 6) (t := 233) (pc' := 217) dm_X12_through_214 rfl rfl (by omega) (fun hb11 => ?_) (fun hb11 => ?_)
                          · have hoT : (outT (vbo vb) z0 v (lkV z0 v) k).1 = 0 := (outT_1 (fun z => by have z2 := z.2.1; rw [hlk] at z2; omega)).trans hof
                            refine me1 (pc' := 234) (L' := [(8, .long (trn vb (vn v k))), (0, .ref 102), (1, ii vb), (2, ii (hd : Int)), (3, ii place), (4, ii (vk v : Int)), (5, ii (vm v : Int)), (6, ii (q : Int)), (7, ii ((k : Nat) : Int))]) (S' := [.ref 102]) dm_X12_through_233 rfl rfl rfl rfl ?_
                            refine me3 (pc' := 237) (S' := [.ref (102 + 1)]) dm_X12_through_234 (q_getr hm rfl (fun m i l => rg_0 m i l)) rfl rfl rfl ?_
                            refine me1 (pc' := 238) (L' := [(8, .long (trn vb (vn v k))), (0, .ref 102), (1, ii vb), (2, ii (hd : Int)), (3, ii place), (4, ii (vk v : Int)), (5, ii (vm v : Int)), (6, ii (q : Int)), (7, ii ((k : Nat) : Int))]) (S' := [.ref 102, .ref (102 + 1)]) dm_X12_through_237 rfl rfl rfl rfl ?_
                            refine me3 (pc' := 241) (S' := [.ref (102 + 2), .ref (102 + 1)]) dm_X12_through_238 (q_getr hm rfl (fun m i l => rg_1 m i l)) rfl rfl rfl ?_
                            refine me1 (pc' := 243) (L' := [(8, .long (trn vb (vn v k))), (0, .ref 102), (1, ii vb), (2, ii (hd : Int)), (3, ii place), (4, ii (vk v : Int)), (5, ii (vm v : Int)), (6, ii (q : Int)), (7, ii ((k : Nat) : Int))]) (S' := [ii (q : Int), .ref (102 + 2), .ref (102 + 1)]) dm_X12_through_241 rfl rfl rfl rfl ?_
                            refine me3 (pc' := 244) (S' := [ii ((((fillS (rowS s q b 5 (vm v : Int)) b k (flG (vbo vb) z0 v)).2.2.1) 1) q), .ref (102 + 1)]) dm_X12_through_243 (q_iald (v := (((fillS (rowS s q b 5 (vm v : Int)) b k (flG (vbo vb) z0 v)).2.2.1) 1) q) (k := 1) (n := 310000) hm (fun m i l I J => rc_1 m i l I J) (by omega) (by omega) (by decide) rfl) rfl rfl rfl ?_
                            refine pg_st (S' := [ii (b : Int), .ref (102 + 1)]) (congrArg (fun z => ii z :: [.ref (102 + 1)]) (up_eq _ _ _)) ?_
                            refine me1 (pc' := 246) (L' := [(8, .long (trn vb (vn v k))), (0, .ref 102), (1, ii vb), (2, ii (hd : Int)), (3, ii place), (4, ii (vk v : Int)), (5, ii (vm v : Int)), (6, ii (q : Int)), (7, ii ((k : Nat) : Int))]) (S' := [ii ((k : Nat) : Int), ii (b : Int), .ref (102 + 1)]) dm_X12_through_244 rfl rfl rfl rfl ?_
                            refine y_iadd (a := (b : Int)) (b := ((k : Nat) : Int)) dm_X12_through_246 (pc' := 247) rfl ?_
                            refine me1 (pc' := 249) (L' := [(8, .long (trn vb (vn v k))), (0, .ref 102), (1, ii vb), (2, ii (hd : Int)), (3, ii place), (4, ii (vk v : Int)), (5, ii (vm v : Int)), (6, ii (q : Int)), (7, ii ((k : Nat) : Int))]) (S' := [.long (trn vb (vn v k)), ii ((b : Int) + ((k : Nat) : Int)), .ref (102 + 1)]) dm_X12_through_247 rfl rfl rfl rfl ?_
                            refine pg_st (S' := [.long ((flG (vbo vb) z0 v) k), ii ((b : Int) + ((k : Nat) : Int)), .ref (102 + 1)]) (congrArg (fun z => Value.long z :: [ii ((b : Int) + ((k : Nat) : Int)), .ref (102 + 1)]) (by show _ = (outT (vbo vb) z0 v (lkV z0 v) k).2; rw [outT_2, hout])) ?_
                            refine me3 (pc' := 250) (S' := []) (h1 := rI pre post ((fillS (rowS s q b 5 (vm v : Int)) b k (flG (vbo vb) z0 v)).1) ((fillS (rowS s q b 5 (vm v : Int)) b k (flG (vbo vb) z0 v)).2.1) ((fillS (rowS s q b 5 (vm v : Int)) b k (flG (vbo vb) z0 v)).2.2.1) (va_up ((fillS (rowS s q b 5 (vm v : Int)) b k (flG (vbo vb) z0 v)).2.2.2) 0 (va_up (((fillS (rowS s q b 5 (vm v : Int)) b k (flG (vbo vb) z0 v)).2.2.2) 0) (b + k) ((flG (vbo vb) z0 v) k)))) dm_X12_through_249 (q_last (j := (b : Int) + ((k : Nat) : Int)) (k := 0) (n := 820000) hm (fun m i l I J => rc_0 m i l I J) (fun m i l I J f => rs_0 m i l I J f) (by omega) (by omega) (by decide)) rfl rfl rfl ?_
                            refine y_iinc (pc' := 253) (L' := [(7, ii (((k : Nat) : Int) + 1)), (8, .long (trn vb (vn v k))), (0, .ref 102), (1, ii vb), (2, ii (hd : Int)), (3, ii place), (4, ii (vk v : Int)), (5, ii (vm v : Int)), (6, ii (q : Int))]) dm_X12_through_250 (y_incp (a := ((k : Nat) : Int)) (c := 1) rfl rfl (by decide)) rfl ?_
                            refine me2 (pc' := 129) (S' := []) dm_X12_through_253 rfl rfl rfl ?_
                            refine pg_cast (h2 := rI pre post ((fillS (rowS s q b 5 (vm v : Int)) b (k + 1) (flG (vbo vb) z0 v)).1) ((fillS (rowS s q b 5 (vm v : Int)) b (k + 1) (flG (vbo vb) z0 v)).2.1) ((fillS (rowS s q b 5 (vm v : Int)) b (k + 1) (flG (vbo vb) z0 v)).2.2.1) ((fillS (rowS s q b 5 (vm v : Int)) b (k + 1) (flG (vbo vb) z0 v)).2.2.2)) (fill_s (rowS s q b 5 (vm v : Int)) b k (flG (vbo vb) z0 v)) ?_
                            exact pg_sub (L := [(0, .ref 102), (1, ii vb), (2, ii (hd : Int)), (3, ii place), (4, ii (vk v : Int)), (5, ii (vm v : Int)), (6, ii (q : Int)), (7, ii (((k + 1) : Nat) : Int))]) rfl rfl rfl (ih129 ((vm v) - (k + 1)) (by omega) (k + 1) rfl (by omega) ((errs_s0 hes).trans hoT))
                          · exfalso; omega
                        · refine me1 (pc' := 203) (L' := [(8, .long (trn vb (vn v k))), (0, .ref 102), (1, ii vb), (2, ii (hd : Int)), (3, ii place), (4, ii (vk v : Int)), (5, ii (vm v : Int)), (6, ii (q : Int)), (7, ii ((k : Nat) : Int))]) (S' := [.long (trn vb (vn v k))]) dm_X12_through_201 rfl rfl rfl rfl ?_
                          refine me3 (pc' := 206) (S' := [.long (Int64.ofInt (-9223372036854775808)), .long (trn vb (vn v k))]) dm_X12_through_203 rfl rfl rfl rfl ?_
                          refine y_leq (x := trn vb (vn v k)) (y := Int64.ofInt (-9223372036854775808)) (t := 225) (pc1 := 207) (pc' := 210) dm_X12_through_206 rfl dm_X12_through_207 rfl rfl (fun hb12 => ?_) (fun hb12 => ?_)
                          · have hb12i := congrArg Int64.toInt hb12
                            have hoT6 : (outT (vbo vb) z0 v (lkV z0 v) k).1 = 6 := by have h9 : (outF (vbo vb) (vk z0) (vk v) (vnum z0 ((k : Nat) : Int)) (vnum v ((k : Nat) : Int))).1 = 6 := (by rw [hout]; exact if_pos ⟨by omega, hb12⟩); rw [outT_1 (fun z => by rw [h9] at z; exact absurd z.1 (by decide)), h9]
                            refine me1 (pc' := 226) (L' := [(8, .long (trn vb (vn v k))), (0, .ref 102), (1, ii vb), (2, ii (hd : Int)), (3, ii place), (4, ii (vk v : Int)), (5, ii (vm v : Int)), (6, ii (q : Int)), (7, ii ((k : Nat) : Int))]) (S' := [.ref 102]) dm_X12_through_225 rfl rfl rfl rfl ?_
                            refine me0 (pc' := 228) (S' := [ii 6, .ref 102]) dm_X12_through_226 rfl rfl rfl rfl ?_
                            refine me1 (pc' := 229) (L' := [(8, .long (trn vb (vn v k))), (0, .ref 102), (1, ii vb), (2, ii (hd : Int)), (3, ii place), (4, ii (vk v : Int)), (5, ii (vm v : Int)), (6, ii (q : Int)), (7, ii ((k : Nat) : Int))]) (S' := [ii place, ii 6, .ref 102]) dm_X12_through_228 rfl rfl rfl rfl ?_
                            refine x_cv (pc' := 232) (rest := []) dm_X12_through_229 rfl (q_inv (As := [ii 6, ii place]) (S := []) hm rfl rfl rfl) rfl rfl rfl (r_fail_ (s := (fillS (rowS s q b 5 (vm v : Int)) b k (flG (vbo vb) z0 v))) hm (by omega) he0 hca.1 hca.2) ?_
                            rintro _ _ ⟨rfl, rfl⟩
                            refine y_ret (r := some (ii (-1))) dm_X12_through_232 rfl rfl rfl ?_
                            rw [pfl_e (n := 6) haz hes (by omega) hoT6 rfl (by decide)]
                            exact ⟨_, rfl, rresN_f (rext_fail (rext_fill hxT (by omega) _) _ _) (rfr_fail (rfr_tr (rfr_row s q b _ _) (rfr_fill _ _ _ _)) _ _) (by show (b : Int) + (vm v : Int) ≤ _; omega) (by show (q : Int) + 1 ≤ _; omega) rfl rfl (by decide)⟩
                          · have hb12i : ¬ (trn vb (vn v k)).toInt = (Int64.ofInt (-9223372036854775808)).toInt := fun z => hb12 (Int64.toInt_inj.mp z)
                            have hof : (outF (vbo vb) (vk z0) (vk v) (vnum z0 ((k : Nat) : Int)) (vnum v ((k : Nat) : Int))).1 = 0 := by rw [hout]; exact if_neg (fun z => hb12 z.2)
                            refine me1 (pc' := 212) (L' := [(8, .long (trn vb (vn v k))), (0, .ref 102), (1, ii vb), (2, ii (hd : Int)), (3, ii place), (4, ii (vk v : Int)), (5, ii (vm v : Int)), (6, ii (q : Int)), (7, ii ((k : Nat) : Int))]) (S' := [ii (vk v : Int)]) dm_X12_through_210 rfl rfl rfl rfl ?_
                            refine me0 (pc' := 214) (S' := [ii 6, ii (vk v : Int)]) dm_X12_through_212 rfl rfl rfl rfl ?_
                            refine y_2ne (a := (vk v : Int)) (b := 6) (t := 233) (pc' := 217) dm_X12_through_214 rfl rfl (by omega) (fun hb13 => ?_) (fun hb13 => ?_)
                            · have hoT : (outT (vbo vb) z0 v (lkV z0 v) k).1 = 0 := (outT_1 (fun z => by have z2 := z.2.1; rw [hlk] at z2; omega)).trans hof
                              refine me1 (pc' := 234) (L' := [(8, .long (trn vb (vn v k))), (0, .ref 102), (1, ii vb), (2, ii (hd : Int)), (3, ii place), (4, ii (vk v : Int)), (5, ii (vm v : Int)), (6, ii (q : Int)), (7, ii ((k : Nat) : Int))]) (S' := [.ref 102]) dm_X12_through_233 rfl rfl rfl rfl ?_
                              refine me3 (pc' := 237) (S' := [.ref (102 + 1)]) dm_X12_through_234 (q_getr hm rfl (fun m i l => rg_0 m i l)) rfl rfl rfl ?_
                              refine me1 (pc' := 238) (L' := [(8, .long (trn vb (vn v k))), (0, .ref 102), (1, ii vb), (2, ii (hd : Int)), (3, ii place), (4, ii (vk v : Int)), (5, ii (vm v : Int)), (6, ii (q : Int)), (7, ii ((k : Nat) : Int))]) (S' := [.ref 102, .ref (102 + 1)]) dm_X12_through_237 rfl rfl rfl rfl ?_
                              refine me3 (pc' := 241) (S' := [.ref (102 + 2), .ref (102 + 1)]) dm_X12_through_238 (q_getr hm rfl (fun m i l => rg_1 m i l)) rfl rfl rfl ?_
                              refine me1 (pc' := 243) (L' := [(8, .long (trn vb (vn v k))), (0, .ref 102), (1, ii vb), (2, ii (hd : Int)), (3, ii place), (4, ii (vk v : Int)), (5, ii (vm v : Int)), (6, ii (q : Int)), (7, ii ((k : Nat) : Int))]) (S' := [ii (q : Int), .ref (102 + 2), .ref (102 + 1)]) dm_X12_through_241 rfl rfl rfl rfl ?_
                              refine me3 (pc' := 244) (S' := [ii ((((fillS (rowS s q b 5 (vm v : Int)) b k (flG (vbo vb) z0 v)).2.2.1) 1) q), .ref (102 + 1)]) dm_X12_through_243 (q_iald (v := (((fillS (rowS s q b 5 (vm v : Int)) b k (flG (vbo vb) z0 v)).2.2.1) 1) q) (k := 1) (n := 310000) hm (fun m i l I J => rc_1 m i l I J) (by omega) (by omega) (by decide) rfl) rfl rfl rfl ?_
                              refine pg_st (S' := [ii (b : Int), .ref (102 + 1)]) (congrArg (fun z => ii z :: [.ref (102 + 1)]) (up_eq _ _ _)) ?_
                              refine me1 (pc' := 246) (L' := [(8, .long (trn vb (vn v k))), (0, .ref 102), (1, ii vb), (2, ii (hd : Int)), (3, ii place), (4, ii (vk v : Int)), (5, ii (vm v : Int)), (6, ii (q : Int)), (7, ii ((k : Nat) : Int))]) (S' := [ii ((k : Nat) : Int), ii (b : Int), .ref (102 + 1)]) dm_X12_through_244 rfl rfl rfl rfl ?_
                              refine y_iadd (a := (b : Int)) (b := ((k : Nat) : Int)) dm_X12_through_246 (pc' := 247) rfl ?_
                              refine me1 (pc' := 249) (L' := [(8, .long (trn vb (vn v k))), (0, .ref 102), (1, ii vb), (2, ii (hd : Int)), (3, ii place), (4, ii (vk v : Int)), (5, ii (vm v : Int)), (6, ii (q : Int)), (7, ii ((k : Nat) : Int))]) (S' := [.long (trn vb (vn v k)), ii ((b : Int) + ((k : Nat) : Int)), .ref (102 + 1)]) dm_X12_through_247 rfl rfl rfl rfl ?_
                              refine pg_st (S' := [.long ((flG (vbo vb) z0 v) k), ii ((b : Int) + ((k : Nat) : Int)), .ref (102 + 1)]) (congrArg (fun z => Value.long z :: [ii ((b : Int) + ((k : Nat) : Int)), .ref (102 + 1)]) (by show _ = (outT (vbo vb) z0 v (lkV z0 v) k).2; rw [outT_2, hout])) ?_
                              refine me3 (pc' := 250) (S' := []) (h1 := rI pre post ((fillS (rowS s q b 5 (vm v : Int)) b k (flG (vbo vb) z0 v)).1) ((fillS (rowS s q b 5 (vm v : Int)) b k (flG (vbo vb) z0 v)).2.1) ((fillS (rowS s q b 5 (vm v : Int)) b k (flG (vbo vb) z0 v)).2.2.1) (va_up ((fillS (rowS s q b 5 (vm v : Int)) b k (flG (vbo vb) z0 v)).2.2.2) 0 (va_up (((fillS (rowS s q b 5 (vm v : Int)) b k (flG (vbo vb) z0 v)).2.2.2) 0) (b + k) ((flG (vbo vb) z0 v) k)))) dm_X12_through_249 (q_last (j := (b : Int) + ((k : Nat) : Int)) (k := 0) (n := 820000) hm (fun m i l I J => rc_0 m i l I J) (fun m i l I J f => rs_0 m i l I J f) (by omega) (by omega) (by decide)) rfl rfl rfl ?_
                              refine y_iinc (pc' := 253) (L' := [(7, ii (((k : Nat) : Int) + 1)), (8, .long (trn vb (vn v k))), (0, .ref 102), (1, ii vb), (2, ii (hd : Int)), (3, ii place), (4, ii (vk v : Int)), (5, ii (vm v : Int)), (6, ii (q : Int))]) dm_X12_through_250 (y_incp (a := ((k : Nat) : Int)) (c := 1) rfl rfl (by decide)) rfl ?_
                              refine me2 (pc' := 129) (S' := []) dm_X12_through_253 rfl rfl rfl ?_
                              refine pg_cast (h2 := rI pre post ((fillS (rowS s q b 5 (vm v : Int)) b (k + 1) (flG (vbo vb) z0 v)).1) ((fillS (rowS s q b 5 (vm v : Int)) b (k + 1) (flG (vbo vb) z0 v)).2.1) ((fillS (rowS s q b 5 (vm v : Int)) b (k + 1) (flG (vbo vb) z0 v)).2.2.1) ((fillS (rowS s q b 5 (vm v : Int)) b (k + 1) (flG (vbo vb) z0 v)).2.2.2)) (fill_s (rowS s q b 5 (vm v : Int)) b k (flG (vbo vb) z0 v)) ?_
                              exact pg_sub (L := [(0, .ref 102), (1, ii vb), (2, ii (hd : Int)), (3, ii place), (4, ii (vk v : Int)), (5, ii (vm v : Int)), (6, ii (q : Int)), (7, ii (((k + 1) : Nat) : Int))]) rfl rfl rfl (ih129 ((vm v) - (k + 1)) (by omega) (k + 1) rfl (by omega) ((errs_s0 hes).trans hoT))
                            · exfalso; omega
                      · exfalso; omega
                refine pg_cast (h2 := rI pre post ((fillS (rowS s q b 5 (vm v : Int)) b 0 (flG (vbo vb) z0 v)).1) ((fillS (rowS s q b 5 (vm v : Int)) b 0 (flG (vbo vb) z0 v)).2.1) ((fillS (rowS s q b 5 (vm v : Int)) b 0 (flG (vbo vb) z0 v)).2.2.1) ((fillS (rowS s q b 5 (vm v : Int)) b 0 (flG (vbo vb) z0 v)).2.2.2)) (fill_0 (rowS s q b 5 (vm v : Int)) b (flG (vbo vb) z0 v)) ?_
                exact pg_sub (L := [(0, .ref 102), (1, ii vb), (2, ii (hd : Int)), (3, ii place), (4, ii (vk v : Int)), (5, ii (vm v : Int)), (6, ii (q : Int)), (7, ii ((0 : Nat) : Int))]) rfl rfl rfl (lp129 _ 0 rfl (Nat.zero_le _) rfl)
              · exfalso; omega
            · exfalso; omega
          · exfalso; omega
        · exfalso; omega
      · exfalso; omega
    · refine me1 (pc' := 20) (L' := [(4, ii (vk v : Int)), (0, .ref 102), (1, ii vb), (2, ii (hd : Int)), (3, ii place)]) (S' := [.ref 102]) dm_X12_through_19 rfl rfl rfl rfl ?_
      refine me1 (pc' := 21) (L' := [(4, ii (vk v : Int)), (0, .ref 102), (1, ii vb), (2, ii (hd : Int)), (3, ii place)]) (S' := [ii (hd : Int), .ref 102]) dm_X12_through_20 rfl rfl rfl rfl ?_
      refine x_cp (pc' := 24) (v := ii (vm v : Int)) (rest := []) dm_X12_through_21 rfl (q_inv (As := [ii (hd : Int)]) (S := []) hm rfl rfl rfl) rfl rfl rfl (r_many_ hm (by omega) hB0 hv) ?_
      refine y_1le (a := (vm v : Int)) (t := 34) (pc' := 27) dm_X12_through_24 rfl rfl (by omega) (fun hb14 => ?_) (fun hb14 => ?_)
      · refine me1 (pc' := 36) (L' := [(4, ii (vk v : Int)), (0, .ref 102), (1, ii vb), (2, ii (hd : Int)), (3, ii place)]) (S' := [ii (vk v : Int)]) dm_X12_through_34 rfl rfl rfl rfl ?_
        refine me0 (pc' := 38) (S' := [ii 6, ii (vk v : Int)]) dm_X12_through_36 rfl rfl rfl rfl ?_
        refine y_2ne (a := (vk v : Int)) (b := 6) (t := 55) (pc' := 41) dm_X12_through_38 rfl rfl (by omega) (fun hb15 => ?_) (fun hb15 => ?_)
        · refine me1 (pc' := 56) (L' := [(4, ii (vk v : Int)), (0, .ref 102), (1, ii vb), (2, ii (hd : Int)), (3, ii place)]) (S' := [.ref 102]) dm_X12_through_55 rfl rfl rfl rfl ?_
          refine me1 (pc' := 57) (L' := [(4, ii (vk v : Int)), (0, .ref 102), (1, ii vb), (2, ii (hd : Int)), (3, ii place)]) (S' := [ii (hd : Int), .ref 102]) dm_X12_through_56 rfl rfl rfl rfl ?_
          refine x_cp (pc' := 60) (v := ii (vm v : Int)) (rest := []) dm_X12_through_57 rfl (q_inv (As := [ii (hd : Int)]) (S := []) hm rfl rfl rfl) rfl rfl rfl (r_many_ hm (by omega) hB0 hv) ?_
          refine me1 (pc' := 62) (L' := [(5, ii (vm v : Int)), (4, ii (vk v : Int)), (0, .ref 102), (1, ii vb), (2, ii (hd : Int)), (3, ii place)]) (S' := []) dm_X12_through_60 rfl rfl rfl rfl ?_
          refine me1 (pc' := 64) (L' := [(5, ii (vm v : Int)), (4, ii (vk v : Int)), (0, .ref 102), (1, ii vb), (2, ii (hd : Int)), (3, ii place)]) (S' := [ii (vk v : Int)]) dm_X12_through_62 rfl rfl rfl rfl ?_
          refine me0 (pc' := 66) (S' := [ii 6, ii (vk v : Int)]) dm_X12_through_64 rfl rfl rfl rfl ?_
          refine y_2ne (a := (vk v : Int)) (b := 6) (t := 86) (pc' := 69) dm_X12_through_66 rfl rfl (by omega) (fun hb16 => ?_) (fun hb16 => ?_)
          · refine me1 (pc' := 87) (L' := [(5, ii (vm v : Int)), (4, ii (vk v : Int)), (0, .ref 102), (1, ii vb), (2, ii (hd : Int)), (3, ii place)]) (S' := [.ref 102]) dm_X12_through_86 rfl rfl rfl rfl ?_
            refine me1 (pc' := 89) (L' := [(5, ii (vm v : Int)), (4, ii (vk v : Int)), (0, .ref 102), (1, ii vb), (2, ii (hd : Int)), (3, ii place)]) (S' := [ii (vk v : Int), .ref 102]) dm_X12_through_87 rfl rfl rfl rfl ?_
            refine me0 (pc' := 91) (S' := [ii 7, ii (vk v : Int), .ref 102]) dm_X12_through_89 rfl rfl rfl rfl ?_
            refine y_2ne (a := (vk v : Int)) (b := 7) (t := 99) (pc' := 94) dm_X12_through_91 rfl rfl (by omega) (fun hb17 => ?_) (fun hb17 => ?_)
            · refine me1 (pc' := 101) (L' := [(5, ii (vm v : Int)), (4, ii (vk v : Int)), (0, .ref 102), (1, ii vb), (2, ii (hd : Int)), (3, ii place)]) (S' := [ii (vk v : Int), .ref 102]) dm_X12_through_99 rfl rfl rfl rfl ?_
              refine y_1ne (a := (vk v : Int)) (t := 108) (pc' := 104) dm_X12_through_101 rfl rfl (by omega) (fun hb18 => ?_) (fun hb18 => ?_)
              · refine me1 (pc' := 109) (L' := [(5, ii (vm v : Int)), (4, ii (vk v : Int)), (0, .ref 102), (1, ii vb), (2, ii (hd : Int)), (3, ii place)]) (S' := [ii vb, .ref 102]) dm_X12_through_108 rfl rfl rfl rfl ?_
                refine me0 (pc' := 111) (S' := [ii 126, ii vb, .ref 102]) dm_X12_through_109 rfl rfl rfl rfl ?_
                refine y_2ne (a := vb) (b := 126) (t := 118) (pc' := 114) dm_X12_through_111 rfl rfl (by omega) (fun hb19 => ?_) (fun hb19 => ?_)
                · refine me0 (pc' := 119) (S' := [ii 5, .ref 102]) dm_X12_through_118 rfl rfl rfl rfl ?_
                  refine me1 (pc' := 121) (L' := [(5, ii (vm v : Int)), (4, ii (vk v : Int)), (0, .ref 102), (1, ii vb), (2, ii (hd : Int)), (3, ii place)]) (S' := [ii (vm v : Int), ii 5, .ref 102]) dm_X12_through_119 rfl rfl rfl rfl ?_
                  refine x_cv (pc' := 124) (rest := []) dm_X12_through_121 rfl (q_inv (As := [ii 5, ii (vm v : Int)]) (S := []) hm rfl rfl rfl) rfl rfl rfl (r_row_ (q := q) (b := b) (s := s) hm (by omega) hq hb (by omega) (by omega) (by omega)) ?_
                  rintro _ _ ⟨rfl, rfl⟩
                  refine me1 (pc' := 126) (L' := [(6, ii (q : Int)), (5, ii (vm v : Int)), (4, ii (vk v : Int)), (0, .ref 102), (1, ii vb), (2, ii (hd : Int)), (3, ii place)]) (S' := []) dm_X12_through_124 rfl rfl rfl rfl ?_
                  have hxT : rext s (rowS s q b 5 (vm v : Int)) := rext_row hq hb _ (by omega)
                  have hBT : rB (rowS s q b 5 (vm v : Int)) := ⟨by show 3 ≤ (q : Int) + 1; omega, by show (q : Int) + 1 ≤ 310000; omega, by show 0 ≤ (b : Int) + (vm v : Int); omega, by show (b : Int) + (vm v : Int) ≤ 820000; omega⟩
                  have hvT : ∀ (k : Nat) (F : Nat → Int64), rv (fillS (rowS s q b 5 (vm v : Int)) b k F) (e + 1) hd v := fun k F => rv_ext (rext_fill hxT (by omega) F) hh3 hv
                  refine me0 (pc' := 127) (S' := [ii 0]) dm_X12_through_126 rfl rfl rfl rfl ?_
                  refine me1 (pc' := 129) (L' := [(7, ii 0), (6, ii (q : Int)), (5, ii (vm v : Int)), (4, ii (vk v : Int)), (0, .ref 102), (1, ii vb), (2, ii (hd : Int)), (3, ii place)]) (S' := []) dm_X12_through_127 rfl rfl rfl rfl ?_
                  have lp129 : ∀ (n129 : Nat) (k : Nat), (vm v) - k = n129 → (k ≤ (vm v)) → (errs (fun j => (outT (vbo vb) z0 v (lkV z0 v) j).1) k = 0) → pgE xt (d - 1) 12 10 false (Option.some Jvm.ClassFile.FieldType.int) (mj_dec prog_14_method_31_code) 129 [(0, .ref 102), (1, ii vb), (2, ii (hd : Int)), (3, ii place), (4, ii (vk v : Int)), (5, ii (vm v : Int)), (6, ii (q : Int)), (7, ii ((k : Nat) : Int))] [] (rI pre post ((fillS (rowS s q b 5 (vm v : Int)) b k (flG (vbo vb) z0 v)).1) ((fillS (rowS s q b 5 (vm v : Int)) b k (flG (vbo vb) z0 v)).2.1) ((fillS (rowS s q b 5 (vm v : Int)) b k (flG (vbo vb) z0 v)).2.2.1) ((fillS (rowS s q b 5 (vm v : Int)) b k (flG (vbo vb) z0 v)).2.2.2)) (fun r h' => ∃ x, r = some x ∧ rresN pre post s (e + 1) (pfl (vbo vb) z0 v) place (vq v) 1 x h') := by
                    intro n129
                    induction n129 using Nat.strongRecOn with
                    | ind n129 ih129 =>
                      intro k hm129 hk hes
                      refine me1 (pc' := 131) (L' := [(0, .ref 102), (1, ii vb), (2, ii (hd : Int)), (3, ii place), (4, ii (vk v : Int)), (5, ii (vm v : Int)), (6, ii (q : Int)), (7, ii ((k : Nat) : Int))]) (S' := [ii ((k : Nat) : Int)]) dm_X12_through_129 rfl rfl rfl rfl ?_
                      refine me1 (pc' := 133) (L' := [(0, .ref 102), (1, ii vb), (2, ii (hd : Int)), (3, ii place), (4, ii (vk v : Int)), (5, ii (vm v : Int)), (6, ii (q : Int)), (7, ii ((k : Nat) : Int))]) (S' := [ii (vm v : Int), ii ((k : Nat) : Int)]) dm_X12_through_131 rfl rfl rfl rfl ?_
                      refine y_2ge (a := ((k : Nat) : Int)) (b := (vm v : Int)) (t := 256) (pc' := 136) dm_X12_through_133 rfl rfl (by omega) (fun hb20 => ?_) (fun hb20 => ?_)
                      · refine me1 (pc' := 257) (L' := [(0, .ref 102), (1, ii vb), (2, ii (hd : Int)), (3, ii place), (4, ii (vk v : Int)), (5, ii (vm v : Int)), (6, ii (q : Int)), (7, ii ((k : Nat) : Int))]) (S' := [.ref 102]) dm_X12_through_256 rfl rfl rfl rfl ?_
                        refine me1 (pc' := 259) (L' := [(0, .ref 102), (1, ii vb), (2, ii (hd : Int)), (3, ii place), (4, ii (vk v : Int)), (5, ii (vm v : Int)), (6, ii (q : Int)), (7, ii ((k : Nat) : Int))]) (S' := [ii (q : Int), .ref 102]) dm_X12_through_257 rfl rfl rfl rfl ?_
                        refine x_cp (pc' := 262) (v := ii 5) (rest := []) dm_X12_through_259 rfl (q_inv (As := [ii (q : Int)]) (S := []) hm rfl rfl rfl) rfl rfl rfl (r_kindRaw_ (s := (fillS (rowS s q b 5 (vm v : Int)) b k (flG (vbo vb) z0 v))) (kd := 5) (z := (vm v : Int)) hm (by omega) (by omega) (by show va_up (s.2.2.1 2) q (5 + (vm v : Int) * 8) q = _; rw [up_eq]; omega) (by decide) (by omega)) ?_
                        refine me0 (pc' := 263) (S' := [ii 5, ii 5]) dm_X12_through_262 rfl rfl rfl rfl ?_
                        refine me_2f (pc' := 266) dm_X12_through_263 rfl (by decide) rfl ?_
                        refine me1 (pc' := 267) (L' := [(0, .ref 102), (1, ii vb), (2, ii (hd : Int)), (3, ii place), (4, ii (vk v : Int)), (5, ii (vm v : Int)), (6, ii (q : Int)), (7, ii ((k : Nat) : Int))]) (S' := [.ref 102]) dm_X12_through_266 rfl rfl rfl rfl ?_
                        refine me1 (pc' := 269) (L' := [(0, .ref 102), (1, ii vb), (2, ii (hd : Int)), (3, ii place), (4, ii (vk v : Int)), (5, ii (vm v : Int)), (6, ii (q : Int)), (7, ii ((k : Nat) : Int))]) (S' := [ii (q : Int), .ref 102]) dm_X12_through_267 rfl rfl rfl rfl ?_
                        have hkN : k = (vm v) := by omega
                        have hvZ : rv (fillS (rowS s q b 5 (vm v : Int)) b k (flG (vbo vb) z0 v)) (e + 1) q (vrow 5 (vm v) (flG (vbo vb) z0 v)) := by rw [hkN]; exact rv_rowS (kind := 5) (vw1_row (by omega) (by omega) (by omega)) (by show ¬ 5 = 7; omega) (by show ¬ 5 = 6; omega) rfl rfl rfl (fun _ _ => rfl)
                        refine x_cv (pc' := 272) (rest := []) dm_X12_through_269 rfl (q_inv (As := [ii (q : Int)]) (S := []) hm rfl rfl rfl) rfl rfl rfl (r_settled_ (s := (fillS (rowS s q b 5 (vm v : Int)) b k (flG (vbo vb) z0 v))) (fr0 := b) hm (by omega) hBT hvZ (up_eq _ _ _)) ?_
                        rintro _ _ ⟨rfl, rfl⟩
                        refine me2 (pc' := 277) (S' := [ii (q : Int)]) dm_X12_through_272 rfl rfl rfl ?_
                        refine y_ret (r := some (ii (q : Int))) dm_X12_through_277 rfl rfl rfl ?_
                        rw [hkN] at hes
                        rw [hkN]
                        have hall := errs_all hes
                        rw [pfl_v haz (by rw [hlq]; exact hes)]
                        have hvf := vform_le (m := (vm v)) (f := (flG (vbo vb) z0 v))
                        rw [show flV (vbo vb) z0 v = vrow (vform (vm v) (flG (vbo vb) z0 v)) (vm v) (flG (vbo vb) z0 v) by unfold flV; rw [hlk, if_neg (by omega), if_neg (by omega), if_neg (show ¬ bitV (vbo vb) by unfold bitV vbo; split <;> omega)]]
                        have hst := setS_row s q b (vform (vm v) (flG (vbo vb) z0 v)) (vm v) (vm v) 5 (flG (vbo vb) z0 v)
                        rw [show rS pre post (setS (fillS (rowS s q b 5 (vm v : Int)) b (vm v) (flG (vbo vb) z0 v)) q b (vform (vm v) (flG (vbo vb) z0 v)) (vm v)) = rS pre post (fillS (rowS s q b ((vform (vm v) (flG (vbo vb) z0 v) : Nat) : Int) (vm v : Int)) b (vm v) (flG (vbo vb) z0 v)) from congrArg (rS pre post) hst]
                        exact ⟨_, rfl, rresN_mk (rext_fill (rext_row hq hb _ (by omega)) (by omega) _) (rfr_tr (rfr_row s q b _ _) (rfr_fill _ _ _ _)) (by show (b : Int) + (vm v : Int) ≤ _; omega) (by show (q : Int) + 1 ≤ _; omega) he0 rfl hq3 (by rw [hb]; exact rvN_rowS (kind := vform (vm v) (flG (vbo vb) z0 v)) hq3 (vw1_row (by omega) (by omega) (by omega)) (by show ¬ vform (vm v) (flG (vbo vb) z0 v) = 7; omega) (by show ¬ vform (vm v) (flG (vbo vb) z0 v) = 6; omega) rfl rfl rfl (fun _ _ => rfl))⟩
                      · refine me1 (pc' := 137) (L' := [(0, .ref 102), (1, ii vb), (2, ii (hd : Int)), (3, ii place), (4, ii (vk v : Int)), (5, ii (vm v : Int)), (6, ii (q : Int)), (7, ii ((k : Nat) : Int))]) (S' := [.ref 102]) dm_X12_through_136 rfl rfl rfl rfl ?_
                        refine me3 (pc' := 140) (S' := [ii (((fillS (rowS s q b 5 (vm v : Int)) b k (flG (vbo vb) z0 v)).1) 5)]) dm_X12_through_137 (q_geti (v := ((fillS (rowS s q b 5 (vm v : Int)) b k (flG (vbo vb) z0 v)).1) 5) hm rfl (fun m i l => rg_5 m i l) rfl) rfl rfl rfl ?_
                        refine pg_st (S' := [ii 0]) (congrArg (fun z => ii z :: []) (he0)) ?_
                        refine me_1f (pc' := 143) dm_X12_through_140 rfl (by decide) rfl ?_
                        refine me1 (pc' := 145) (L' := [(0, .ref 102), (1, ii vb), (2, ii (hd : Int)), (3, ii place), (4, ii (vk v : Int)), (5, ii (vm v : Int)), (6, ii (q : Int)), (7, ii ((k : Nat) : Int))]) (S' := [ii (vk v : Int)]) dm_X12_through_143 rfl rfl rfl rfl ?_
                        refine me0 (pc' := 147) (S' := [ii 7, ii (vk v : Int)]) dm_X12_through_145 rfl rfl rfl rfl ?_
                        refine y_2ne (a := (vk v : Int)) (b := 7) (t := 182) (pc' := 150) dm_X12_through_147 rfl rfl (by omega) (fun hb21 => ?_) (fun hb21 => ?_)
                        · have hns : ¬ (vk v = 1 ∨ vk v = 3) := by omega
                          refine me1 (pc' := 183) (L' := [(0, .ref 102), (1, ii vb), (2, ii (hd : Int)), (3, ii place), (4, ii (vk v : Int)), (5, ii (vm v : Int)), (6, ii (q : Int)), (7, ii ((k : Nat) : Int))]) (S' := [ii vb]) dm_X12_through_182 rfl rfl rfl rfl ?_
                          refine me1 (pc' := 184) (L' := [(0, .ref 102), (1, ii vb), (2, ii (hd : Int)), (3, ii place), (4, ii (vk v : Int)), (5, ii (vm v : Int)), (6, ii (q : Int)), (7, ii ((k : Nat) : Int))]) (S' := [.ref 102, ii vb]) dm_X12_through_183 rfl rfl rfl rfl ?_
                          refine me1 (pc' := 185) (L' := [(0, .ref 102), (1, ii vb), (2, ii (hd : Int)), (3, ii place), (4, ii (vk v : Int)), (5, ii (vm v : Int)), (6, ii (q : Int)), (7, ii ((k : Nat) : Int))]) (S' := [ii (hd : Int), .ref 102, ii vb]) dm_X12_through_184 rfl rfl rfl rfl ?_
                          refine me1 (pc' := 187) (L' := [(0, .ref 102), (1, ii vb), (2, ii (hd : Int)), (3, ii place), (4, ii (vk v : Int)), (5, ii (vm v : Int)), (6, ii (q : Int)), (7, ii ((k : Nat) : Int))]) (S' := [ii ((k : Nat) : Int), ii (hd : Int), .ref 102, ii vb]) dm_X12_through_185 rfl rfl rfl rfl ?_
                          refine x_cp (pc' := 190) (v := .long (vn v k)) (rest := [ii vb]) dm_X12_through_187 rfl (q_inv (As := [ii (hd : Int), ii ((k : Nat) : Int)]) (S := [ii vb]) hm rfl rfl rfl) rfl rfl rfl (r_number_ (k := k) hm (by omega) hBT (hvT _ _) (by omega) (by omega)) ?_
                          refine x_cp (pc' := 193) (v := .long (trn vb (vn v k))) (rest := []) dm_X12_through_190 rfl (g_invs (As := [ii vb, .long (vn v k)]) (S := []) rfl rfl rfl) rfl rfl rfl (r_turned_ (by omega) hvb) ?_
                          refine me1 (pc' := 195) (L' := [(8, .long (trn vb (vn v k))), (0, .ref 102), (1, ii vb), (2, ii (hd : Int)), (3, ii place), (4, ii (vk v : Int)), (5, ii (vm v : Int)), (6, ii (q : Int)), (7, ii ((k : Nat) : Int))]) (S' := []) dm_X12_through_193 rfl rfl rfl rfl ?_
                          have hvk9 : vnum v ((k : Nat) : Int) = vn v k := vnum_q hv.1 (by omega) (by omega)
                          have hout : outF (vbo vb) (vk z0) (vk v) (vnum z0 ((k : Nat) : Int)) (vnum v ((k : Nat) : Int)) = (if vb = 45 ∧ trn vb (vn v k) = Int64.ofInt (-9223372036854775808) then 6 else 0, trn vb (vn v k)) := by rw [vnum_z, hvk9]; exact trn_o hvb hns
                          refine me1 (pc' := 196) (L' := [(8, .long (trn vb (vn v k))), (0, .ref 102), (1, ii vb), (2, ii (hd : Int)), (3, ii place), (4, ii (vk v : Int)), (5, ii (vm v : Int)), (6, ii (q : Int)), (7, ii ((k : Nat) : Int))]) (S' := [ii vb]) dm_X12_through_195 rfl rfl rfl rfl ?_
                          refine me0 (pc' := 198) (S' := [ii 45, ii vb]) dm_X12_through_196 rfl rfl rfl rfl ?_
                          refine y_2ne (a := vb) (b := 45) (t := 210) (pc' := 201) dm_X12_through_198 rfl rfl (by omega) (fun hb22 => ?_) (fun hb22 => ?_)
                          · have hof : (outF (vbo vb) (vk z0) (vk v) (vnum z0 ((k : Nat) : Int)) (vnum v ((k : Nat) : Int))).1 = 0 := by rw [hout]; exact if_neg (fun z => by have z1 := z.1; omega)
                            refine me1 (pc' := 212) (L' := [(8, .long (trn vb (vn v k))), (0, .ref 102), (1, ii vb), (2, ii (hd : Int)), (3, ii place), (4, ii (vk v : Int)), (5, ii (vm v : Int)), (6, ii (q : Int)), (7, ii ((k : Nat) : Int))]) (S' := [ii (vk v : Int)]) dm_X12_through_210 rfl rfl rfl rfl ?_
                            refine me0 (pc' := 214) (S' := [ii 6, ii (vk v : Int)]) dm_X12_through_212 rfl rfl rfl rfl ?_
                            refine y_2ne (a := (vk v : Int)) (b := 6) (t := 233) (pc' := 217) dm_X12_through_214 rfl rfl (by omega) (fun hb23 => ?_) (fun hb23 => ?_)
                            · have hoT : (outT (vbo vb) z0 v (lkV z0 v) k).1 = 0 := (outT_1 (fun z => by have z2 := z.2.1; rw [hlk] at z2; omega)).trans hof
                              refine me1 (pc' := 234) (L' := [(8, .long (trn vb (vn v k))), (0, .ref 102), (1, ii vb), (2, ii (hd : Int)), (3, ii place), (4, ii (vk v : Int)), (5, ii (vm v : Int)), (6, ii (q : Int)), (7, ii ((k : Nat) : Int))]) (S' := [.ref 102]) dm_X12_through_233 rfl rfl rfl rfl ?_
                              refine me3 (pc' := 237) (S' := [.ref (102 + 1)]) dm_X12_through_234 (q_getr hm rfl (fun m i l => rg_0 m i l)) rfl rfl rfl ?_
                              refine me1 (pc' := 238) (L' := [(8, .long (trn vb (vn v k))), (0, .ref 102), (1, ii vb), (2, ii (hd : Int)), (3, ii place), (4, ii (vk v : Int)), (5, ii (vm v : Int)), (6, ii (q : Int)), (7, ii ((k : Nat) : Int))]) (S' := [.ref 102, .ref (102 + 1)]) dm_X12_through_237 rfl rfl rfl rfl ?_
                              refine me3 (pc' := 241) (S' := [.ref (102 + 2), .ref (102 + 1)]) dm_X12_through_238 (q_getr hm rfl (fun m i l => rg_1 m i l)) rfl rfl rfl ?_
                              refine me1 (pc' := 243) (L' := [(8, .long (trn vb (vn v k))), (0, .ref 102), (1, ii vb), (2, ii (hd : Int)), (3, ii place), (4, ii (vk v : Int)), (5, ii (vm v : Int)), (6, ii (q : Int)), (7, ii ((k : Nat) : Int))]) (S' := [ii (q : Int), .ref (102 + 2), .ref (102 + 1)]) dm_X12_through_241 rfl rfl rfl rfl ?_
                              refine me3 (pc' := 244) (S' := [ii ((((fillS (rowS s q b 5 (vm v : Int)) b k (flG (vbo vb) z0 v)).2.2.1) 1) q), .ref (102 + 1)]) dm_X12_through_243 (q_iald (v := (((fillS (rowS s q b 5 (vm v : Int)) b k (flG (vbo vb) z0 v)).2.2.1) 1) q) (k := 1) (n := 310000) hm (fun m i l I J => rc_1 m i l I J) (by omega) (by omega) (by decide) rfl) rfl rfl rfl ?_
                              refine pg_st (S' := [ii (b : Int), .ref (102 + 1)]) (congrArg (fun z => ii z :: [.ref (102 + 1)]) (up_eq _ _ _)) ?_
                              refine me1 (pc' := 246) (L' := [(8, .long (trn vb (vn v k))), (0, .ref 102), (1, ii vb), (2, ii (hd : Int)), (3, ii place), (4, ii (vk v : Int)), (5, ii (vm v : Int)), (6, ii (q : Int)), (7, ii ((k : Nat) : Int))]) (S' := [ii ((k : Nat) : Int), ii (b : Int), .ref (102 + 1)]) dm_X12_through_244 rfl rfl rfl rfl ?_
                              refine y_iadd (a := (b : Int)) (b := ((k : Nat) : Int)) dm_X12_through_246 (pc' := 247) rfl ?_
                              refine me1 (pc' := 249) (L' := [(8, .long (trn vb (vn v k))), (0, .ref 102), (1, ii vb), (2, ii (hd : Int)), (3, ii place), (4, ii (vk v : Int)), (5, ii (vm v : Int)), (6, ii (q : Int)), (7, ii ((k : Nat) : Int))]) (S' := [.long (trn vb (vn v k)), ii ((b : Int) + ((k : Nat) : Int)), .ref (102 + 1)]) dm_X12_through_247 rfl rfl rfl rfl ?_
                              refine pg_st (S' := [.long ((flG (vbo vb) z0 v) k), ii ((b : Int) + ((k : Nat) : Int)), .ref (102 + 1)]) (congrArg (fun z => Value.long z :: [ii ((b : Int) + ((k : Nat) : Int)), .ref (102 + 1)]) (by show _ = (outT (vbo vb) z0 v (lkV z0 v) k).2; rw [outT_2, hout])) ?_
                              refine me3 (pc' := 250) (S' := []) (h1 := rI pre post ((fillS (rowS s q b 5 (vm v : Int)) b k (flG (vbo vb) z0 v)).1) ((fillS (rowS s q b 5 (vm v : Int)) b k (flG (vbo vb) z0 v)).2.1) ((fillS (rowS s q b 5 (vm v : Int)) b k (flG (vbo vb) z0 v)).2.2.1) (va_up ((fillS (rowS s q b 5 (vm v : Int)) b k (flG (vbo vb) z0 v)).2.2.2) 0 (va_up (((fillS (rowS s q b 5 (vm v : Int)) b k (flG (vbo vb) z0 v)).2.2.2) 0) (b + k) ((flG (vbo vb) z0 v) k)))) dm_X12_through_249 (q_last (j := (b : Int) + ((k : Nat) : Int)) (k := 0) (n := 820000) hm (fun m i l I J => rc_0 m i l I J) (fun m i l I J f => rs_0 m i l I J f) (by omega) (by omega) (by decide)) rfl rfl rfl ?_
                              refine y_iinc (pc' := 253) (L' := [(7, ii (((k : Nat) : Int) + 1)), (8, .long (trn vb (vn v k))), (0, .ref 102), (1, ii vb), (2, ii (hd : Int)), (3, ii place), (4, ii (vk v : Int)), (5, ii (vm v : Int)), (6, ii (q : Int))]) dm_X12_through_250 (y_incp (a := ((k : Nat) : Int)) (c := 1) rfl rfl (by decide)) rfl ?_
                              refine me2 (pc' := 129) (S' := []) dm_X12_through_253 rfl rfl rfl ?_
                              refine pg_cast (h2 := rI pre post ((fillS (rowS s q b 5 (vm v : Int)) b (k + 1) (flG (vbo vb) z0 v)).1) ((fillS (rowS s q b 5 (vm v : Int)) b (k + 1) (flG (vbo vb) z0 v)).2.1) ((fillS (rowS s q b 5 (vm v : Int)) b (k + 1) (flG (vbo vb) z0 v)).2.2.1) ((fillS (rowS s q b 5 (vm v : Int)) b (k + 1) (flG (vbo vb) z0 v)).2.2.2)) (fill_s (rowS s q b 5 (vm v : Int)) b k (flG (vbo vb) z0 v)) ?_
                              exact pg_sub (L := [(0, .ref 102), (1, ii vb), (2, ii (hd : Int)), (3, ii place), (4, ii (vk v : Int)), (5, ii (vm v : Int)), (6, ii (q : Int)), (7, ii (((k + 1) : Nat) : Int))]) rfl rfl rfl (ih129 ((vm v) - (k + 1)) (by omega) (k + 1) rfl (by omega) ((errs_s0 hes).trans hoT))
                            · exfalso; omega
                          · refine me1 (pc' := 203) (L' := [(8, .long (trn vb (vn v k))), (0, .ref 102), (1, ii vb), (2, ii (hd : Int)), (3, ii place), (4, ii (vk v : Int)), (5, ii (vm v : Int)), (6, ii (q : Int)), (7, ii ((k : Nat) : Int))]) (S' := [.long (trn vb (vn v k))]) dm_X12_through_201 rfl rfl rfl rfl ?_
                            refine me3 (pc' := 206) (S' := [.long (Int64.ofInt (-9223372036854775808)), .long (trn vb (vn v k))]) dm_X12_through_203 rfl rfl rfl rfl ?_
                            refine y_leq (x := trn vb (vn v k)) (y := Int64.ofInt (-9223372036854775808)) (t := 225) (pc1 := 207) (pc' := 210) dm_X12_through_206 rfl dm_X12_through_207 rfl rfl (fun hb24 => ?_) (fun hb24 => ?_)
                            · have hb24i := congrArg Int64.toInt hb24
                              have hoT6 : (outT (vbo vb) z0 v (lkV z0 v) k).1 = 6 := by have h9 : (outF (vbo vb) (vk z0) (vk v) (vnum z0 ((k : Nat) : Int)) (vnum v ((k : Nat) : Int))).1 = 6 := (by rw [hout]; exact if_pos ⟨by omega, hb24⟩); rw [outT_1 (fun z => by rw [h9] at z; exact absurd z.1 (by decide)), h9]
                              refine me1 (pc' := 226) (L' := [(8, .long (trn vb (vn v k))), (0, .ref 102), (1, ii vb), (2, ii (hd : Int)), (3, ii place), (4, ii (vk v : Int)), (5, ii (vm v : Int)), (6, ii (q : Int)), (7, ii ((k : Nat) : Int))]) (S' := [.ref 102]) dm_X12_through_225 rfl rfl rfl rfl ?_
                              refine me0 (pc' := 228) (S' := [ii 6, .ref 102]) dm_X12_through_226 rfl rfl rfl rfl ?_
                              refine me1 (pc' := 229) (L' := [(8, .long (trn vb (vn v k))), (0, .ref 102), (1, ii vb), (2, ii (hd : Int)), (3, ii place), (4, ii (vk v : Int)), (5, ii (vm v : Int)), (6, ii (q : Int)), (7, ii ((k : Nat) : Int))]) (S' := [ii place, ii 6, .ref 102]) dm_X12_through_228 rfl rfl rfl rfl ?_
                              refine x_cv (pc' := 232) (rest := []) dm_X12_through_229 rfl (q_inv (As := [ii 6, ii place]) (S := []) hm rfl rfl rfl) rfl rfl rfl (r_fail_ (s := (fillS (rowS s q b 5 (vm v : Int)) b k (flG (vbo vb) z0 v))) hm (by omega) he0 hca.1 hca.2) ?_
                              rintro _ _ ⟨rfl, rfl⟩
                              refine y_ret (r := some (ii (-1))) dm_X12_through_232 rfl rfl rfl ?_
                              rw [pfl_e (n := 6) haz hes (by omega) hoT6 rfl (by decide)]
                              exact ⟨_, rfl, rresN_f (rext_fail (rext_fill hxT (by omega) _) _ _) (rfr_fail (rfr_tr (rfr_row s q b _ _) (rfr_fill _ _ _ _)) _ _) (by show (b : Int) + (vm v : Int) ≤ _; omega) (by show (q : Int) + 1 ≤ _; omega) rfl rfl (by decide)⟩
                            · have hb24i : ¬ (trn vb (vn v k)).toInt = (Int64.ofInt (-9223372036854775808)).toInt := fun z => hb24 (Int64.toInt_inj.mp z)
                              have hof : (outF (vbo vb) (vk z0) (vk v) (vnum z0 ((k : Nat) : Int)) (vnum v ((k : Nat) : Int))).1 = 0 := by rw [hout]; exact if_neg (fun z => hb24 z.2)
                              refine me1 (pc' := 212) (L' := [(8, .long (trn vb (vn v k))), (0, .ref 102), (1, ii vb), (2, ii (hd : Int)), (3, ii place), (4, ii (vk v : Int)), (5, ii (vm v : Int)), (6, ii (q : Int)), (7, ii ((k : Nat) : Int))]) (S' := [ii (vk v : Int)]) dm_X12_through_210 rfl rfl rfl rfl ?_
                              refine me0 (pc' := 214) (S' := [ii 6, ii (vk v : Int)]) dm_X12_through_212 rfl rfl rfl rfl ?_
                              refine y_2ne (a := (vk v : Int)) (b := 6) (t := 233) (pc' := 217) dm_X12_through_214 rfl rfl (by omega) (fun hb25 => ?_) (fun hb25 => ?_)
                              · have hoT : (outT (vbo vb) z0 v (lkV z0 v) k).1 = 0 := (outT_1 (fun z => by have z2 := z.2.1; rw [hlk] at z2; omega)).trans hof
                                refine me1 (pc' := 234) (L' := [(8, .long (trn vb (vn v k))), (0, .ref 102), (1, ii vb), (2, ii (hd : Int)), (3, ii place), (4, ii (vk v : Int)), (5, ii (vm v : Int)), (6, ii (q : Int)), (7, ii ((k : Nat) : Int))]) (S' := [.ref 102]) dm_X12_through_233 rfl rfl rfl rfl ?_
                                refine me3 (pc' := 237) (S' := [.ref (102 + 1)]) dm_X12_through_234 (q_getr hm rfl (fun m i l => rg_0 m i l)) rfl rfl rfl ?_
                                refine me1 (pc' := 238) (L' := [(8, .long (trn vb (vn v k))), (0, .ref 102), (1, ii vb), (2, ii (hd : Int)), (3, ii place), (4, ii (vk v : Int)), (5, ii (vm v : Int)), (6, ii (q : Int)), (7, ii ((k : Nat) : Int))]) (S' := [.ref 102, .ref (102 + 1)]) dm_X12_through_237 rfl rfl rfl rfl ?_
                                refine me3 (pc' := 241) (S' := [.ref (102 + 2), .ref (102 + 1)]) dm_X12_through_238 (q_getr hm rfl (fun m i l => rg_1 m i l)) rfl rfl rfl ?_
                                refine me1 (pc' := 243) (L' := [(8, .long (trn vb (vn v k))), (0, .ref 102), (1, ii vb), (2, ii (hd : Int)), (3, ii place), (4, ii (vk v : Int)), (5, ii (vm v : Int)), (6, ii (q : Int)), (7, ii ((k : Nat) : Int))]) (S' := [ii (q : Int), .ref (102 + 2), .ref (102 + 1)]) dm_X12_through_241 rfl rfl rfl rfl ?_
                                refine me3 (pc' := 244) (S' := [ii ((((fillS (rowS s q b 5 (vm v : Int)) b k (flG (vbo vb) z0 v)).2.2.1) 1) q), .ref (102 + 1)]) dm_X12_through_243 (q_iald (v := (((fillS (rowS s q b 5 (vm v : Int)) b k (flG (vbo vb) z0 v)).2.2.1) 1) q) (k := 1) (n := 310000) hm (fun m i l I J => rc_1 m i l I J) (by omega) (by omega) (by decide) rfl) rfl rfl rfl ?_
                                refine pg_st (S' := [ii (b : Int), .ref (102 + 1)]) (congrArg (fun z => ii z :: [.ref (102 + 1)]) (up_eq _ _ _)) ?_
                                refine me1 (pc' := 246) (L' := [(8, .long (trn vb (vn v k))), (0, .ref 102), (1, ii vb), (2, ii (hd : Int)), (3, ii place), (4, ii (vk v : Int)), (5, ii (vm v : Int)), (6, ii (q : Int)), (7, ii ((k : Nat) : Int))]) (S' := [ii ((k : Nat) : Int), ii (b : Int), .ref (102 + 1)]) dm_X12_through_244 rfl rfl rfl rfl ?_
                                refine y_iadd (a := (b : Int)) (b := ((k : Nat) : Int)) dm_X12_through_246 (pc' := 247) rfl ?_
                                refine me1 (pc' := 249) (L' := [(8, .long (trn vb (vn v k))), (0, .ref 102), (1, ii vb), (2, ii (hd : Int)), (3, ii place), (4, ii (vk v : Int)), (5, ii (vm v : Int)), (6, ii (q : Int)), (7, ii ((k : Nat) : Int))]) (S' := [.long (trn vb (vn v k)), ii ((b : Int) + ((k : Nat) : Int)), .ref (102 + 1)]) dm_X12_through_247 rfl rfl rfl rfl ?_
                                refine pg_st (S' := [.long ((flG (vbo vb) z0 v) k), ii ((b : Int) + ((k : Nat) : Int)), .ref (102 + 1)]) (congrArg (fun z => Value.long z :: [ii ((b : Int) + ((k : Nat) : Int)), .ref (102 + 1)]) (by show _ = (outT (vbo vb) z0 v (lkV z0 v) k).2; rw [outT_2, hout])) ?_
                                refine me3 (pc' := 250) (S' := []) (h1 := rI pre post ((fillS (rowS s q b 5 (vm v : Int)) b k (flG (vbo vb) z0 v)).1) ((fillS (rowS s q b 5 (vm v : Int)) b k (flG (vbo vb) z0 v)).2.1) ((fillS (rowS s q b 5 (vm v : Int)) b k (flG (vbo vb) z0 v)).2.2.1) (va_up ((fillS (rowS s q b 5 (vm v : Int)) b k (flG (vbo vb) z0 v)).2.2.2) 0 (va_up (((fillS (rowS s q b 5 (vm v : Int)) b k (flG (vbo vb) z0 v)).2.2.2) 0) (b + k) ((flG (vbo vb) z0 v) k)))) dm_X12_through_249 (q_last (j := (b : Int) + ((k : Nat) : Int)) (k := 0) (n := 820000) hm (fun m i l I J => rc_0 m i l I J) (fun m i l I J f => rs_0 m i l I J f) (by omega) (by omega) (by decide)) rfl rfl rfl ?_
                                refine y_iinc (pc' := 253) (L' := [(7, ii (((k : Nat) : Int) + 1)), (8, .long (trn vb (vn v k))), (0, .ref 102), (1, ii vb), (2, ii (hd : Int)), (3, ii place), (4, ii (vk v : Int)), (5, ii (vm v : Int)), (6, ii (q : Int))]) dm_X12_through_250 (y_incp (a := ((k : Nat) : Int)) (c := 1) rfl rfl (by decide)) rfl ?_
                                refine me2 (pc' := 129) (S' := []) dm_X12_through_253 rfl rfl rfl ?_
                                refine pg_cast (h2 := rI pre post ((fillS (rowS s q b 5 (vm v : Int)) b (k + 1) (flG (vbo vb) z0 v)).1) ((fillS (rowS s q b 5 (vm v : Int)) b (k + 1) (flG (vbo vb) z0 v)).2.1) ((fillS (rowS s q b 5 (vm v : Int)) b (k + 1) (flG (vbo vb) z0 v)).2.2.1) ((fillS (rowS s q b 5 (vm v : Int)) b (k + 1) (flG (vbo vb) z0 v)).2.2.2)) (fill_s (rowS s q b 5 (vm v : Int)) b k (flG (vbo vb) z0 v)) ?_
                                exact pg_sub (L := [(0, .ref 102), (1, ii vb), (2, ii (hd : Int)), (3, ii place), (4, ii (vk v : Int)), (5, ii (vm v : Int)), (6, ii (q : Int)), (7, ii (((k + 1) : Nat) : Int))]) rfl rfl rfl (ih129 ((vm v) - (k + 1)) (by omega) (k + 1) rfl (by omega) ((errs_s0 hes).trans hoT))
                              · exfalso; omega
                        · exfalso; omega
                  refine pg_cast (h2 := rI pre post ((fillS (rowS s q b 5 (vm v : Int)) b 0 (flG (vbo vb) z0 v)).1) ((fillS (rowS s q b 5 (vm v : Int)) b 0 (flG (vbo vb) z0 v)).2.1) ((fillS (rowS s q b 5 (vm v : Int)) b 0 (flG (vbo vb) z0 v)).2.2.1) ((fillS (rowS s q b 5 (vm v : Int)) b 0 (flG (vbo vb) z0 v)).2.2.2)) (fill_0 (rowS s q b 5 (vm v : Int)) b (flG (vbo vb) z0 v)) ?_
                  exact pg_sub (L := [(0, .ref 102), (1, ii vb), (2, ii (hd : Int)), (3, ii place), (4, ii (vk v : Int)), (5, ii (vm v : Int)), (6, ii (q : Int)), (7, ii ((0 : Nat) : Int))]) rfl rfl rfl (lp129 _ 0 rfl (Nat.zero_le _) rfl)
                · exfalso; omega
              · exfalso; omega
            · exfalso; omega
          · exfalso; omega
        · exfalso; omega
      · exfalso; omega
