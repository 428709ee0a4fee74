theorem rv_tabS {s : RS} {e q b r c : Nat} {g : Nat → Int64} {w : VV} (hw : vw1 w) (hk : vk w = 6) (hm : vm w = r) (hc : vc w = c) (hf : ∀ k, k < r * c → g k = vn w k) : rv (fillS (tabS s q b (r : Int) (c : Int)) b (r * c) g) (e + 1) q w := by
  have hqw : vq w = r * c := by unfold vq; rw [if_pos hk, hm, hc]
  have hrc : (r : Int) * (c : Int) = ((r * c : Nat) : Int) := (Int.natCast_mul r c).symm
  refine rv_flat (fr := b) hw (by omega) ?_ ?_ ?_ ?_ (fun k hk2 => ?_)
  · show (q : Int) < (q : Int) + 1; omega
  · show va_up (s.2.2.1 1) q _ q = _; rw [up_eq]
  · show va_up (s.2.2.1 2) q _ q = _; rw [up_eq, hk, hm, hc]; omega
  · show (b : Int) + (vq w : Int) ≤ (b : Int) + (r : Int) * (c : Int); omega
  · rw [fill_at (by omega), hf k (by omega)]
theorem dm_X12_joined_136 : mj_dec prog_14_method_55_code 136 = some (.iload 5, 2) := by decide +kernel
theorem dm_X12_joined_138 : mj_dec prog_14_method_55_code 138 = some (.iload 4, 2) := by decide +kernel
theorem dm_X12_joined_140 : mj_dec prog_14_method_55_code 140 = some (.iconst 3, 1) := by decide +kernel
theorem dm_X12_joined_141 : mj_dec prog_14_method_55_code 141 = some (.if_icmp .ne 8, 3) := by decide +kernel
theorem dm_X12_joined_144 : mj_dec prog_14_method_55_code 144 = some (.bipush 12, 2) := by decide +kernel
theorem dm_X12_joined_146 : mj_dec prog_14_method_55_code 146 = some (.goto 5, 3) := by decide +kernel
theorem dm_X12_joined_151 : mj_dec prog_14_method_55_code 151 = some (.if_icmp .le 11, 3) := by decide +kernel
theorem dm_X12_joined_154 : mj_dec prog_14_method_55_code 154 = some (.aload_n 0, 1) := by decide +kernel
theorem dm_X12_joined_155 : mj_dec prog_14_method_55_code 155 = some (.bipush 8, 2) := by decide +kernel
theorem dm_X12_joined_157 : mj_dec prog_14_method_55_code 157 = some (.iload_n 3, 1) := by decide +kernel
theorem dm_X12_joined_158 : mj_dec prog_14_method_55_code 158 = some (.invokevirtual 190, 3) := by decide +kernel
theorem dm_X12_joined_161 : mj_dec prog_14_method_55_code 161 = some (.ireturn, 1) := by decide +kernel
theorem dm_X12_joined_162 : mj_dec prog_14_method_55_code 162 = some (.iload 4, 2) := by decide +kernel
theorem dm_X12_joined_164 : mj_dec prog_14_method_55_code 164 = some (.iconst 3, 1) := by decide +kernel
theorem dm_X12_joined_165 : mj_dec prog_14_method_55_code 165 = some (.if_icmp .ne 17, 3) := by decide +kernel
theorem dm_X12_joined_168 : mj_dec prog_14_method_55_code 168 = some (.aload_n 0, 1) := by decide +kernel
theorem dm_X12_joined_169 : mj_dec prog_14_method_55_code 169 = some (.iload 5, 2) := by decide +kernel
theorem dm_X12_joined_171 : mj_dec prog_14_method_55_code 171 = some (.aload_n 0, 1) := by decide +kernel
theorem dm_X12_joined_172 : mj_dec prog_14_method_55_code 172 = some (.iload_n 1, 1) := by decide +kernel
theorem dm_X12_joined_173 : mj_dec prog_14_method_55_code 173 = some (.invokevirtual 156, 3) := by decide +kernel
theorem dm_X12_joined_176 : mj_dec prog_14_method_55_code 176 = some (.invokevirtual 255, 3) := by decide +kernel
theorem dm_X12_joined_179 : mj_dec prog_14_method_55_code 179 = some (.goto 42, 3) := by decide +kernel
theorem dm_X12_joined_221 : mj_dec prog_14_method_55_code 221 = some (.istore 6, 2) := by decide +kernel
theorem dm_X12_joined_223 : mj_dec prog_14_method_55_code 223 = some (.iload 4, 2) := by decide +kernel
theorem dm_X12_joined_225 : mj_dec prog_14_method_55_code 225 = some (.iconst 3, 1) := by decide +kernel
theorem dm_X12_joined_226 : mj_dec prog_14_method_55_code 226 = some (.if_icmp .ne 11, 3) := by decide +kernel
theorem dm_X12_joined_229 : mj_dec prog_14_method_55_code 229 = some (.aload_n 0, 1) := by decide +kernel
theorem dm_X12_joined_230 : mj_dec prog_14_method_55_code 230 = some (.iload_n 1, 1) := by decide +kernel
theorem dm_X12_joined_231 : mj_dec prog_14_method_55_code 231 = some (.invokevirtual 156, 3) := by decide +kernel
theorem dm_X12_joined_234 : mj_dec prog_14_method_55_code 234 = some (.goto 4, 3) := by decide +kernel
theorem dm_X12_joined_238 : mj_dec prog_14_method_55_code 238 = some (.istore 7, 2) := by decide +kernel
theorem dm_X12_joined_240 : mj_dec prog_14_method_55_code 240 = some (.aload_n 0, 1) := by decide +kernel
theorem dm_X12_joined_241 : mj_dec prog_14_method_55_code 241 = some (.iload_n 1, 1) := by decide +kernel
theorem dm_X12_joined_242 : mj_dec prog_14_method_55_code 242 = some (.invokevirtual 134, 3) := by decide +kernel
theorem dm_X12_joined_245 : mj_dec prog_14_method_55_code 245 = some (.iload 7, 2) := by decide +kernel
theorem dm_X12_joined_247 : mj_dec prog_14_method_55_code 247 = some (.imul, 1) := by decide +kernel
theorem dm_X12_joined_248 : mj_dec prog_14_method_55_code 248 = some (.istore 8, 2) := by decide +kernel
theorem dm_X12_joined_250 : mj_dec prog_14_method_55_code 250 = some (.iconst 0, 1) := by decide +kernel
theorem dm_X12_joined_251 : mj_dec prog_14_method_55_code 251 = some (.istore 9, 2) := by decide +kernel
theorem dm_X12_joined_253 : mj_dec prog_14_method_55_code 253 = some (.iload 9, 2) := by decide +kernel
theorem dm_X12_joined_255 : mj_dec prog_14_method_55_code 255 = some (.iload 5, 2) := by decide +kernel
theorem dm_X12_joined_257 : mj_dec prog_14_method_55_code 257 = some (.iload 7, 2) := by decide +kernel
theorem dm_X12_joined_259 : mj_dec prog_14_method_55_code 259 = some (.imul, 1) := by decide +kernel
theorem dm_X12_joined_260 : mj_dec prog_14_method_55_code 260 = some (.if_icmp .ge 51, 3) := by decide +kernel
theorem dm_X12_joined_263 : mj_dec prog_14_method_55_code 263 = some (.aload_n 0, 1) := by decide +kernel
theorem dm_X12_joined_264 : mj_dec prog_14_method_55_code 264 = some (.getfield 8, 3) := by decide +kernel
theorem dm_X12_joined_267 : mj_dec prog_14_method_55_code 267 = some (.aload_n 0, 1) := by decide +kernel
theorem dm_X12_joined_268 : mj_dec prog_14_method_55_code 268 = some (.getfield 15, 3) := by decide +kernel
theorem dm_X12_joined_271 : mj_dec prog_14_method_55_code 271 = some (.iload 6, 2) := by decide +kernel
theorem dm_X12_joined_273 : mj_dec prog_14_method_55_code 273 = some (.iaload, 1) := by decide +kernel
theorem dm_X12_joined_274 : mj_dec prog_14_method_55_code 274 = some (.iload 9, 2) := by decide +kernel
theorem dm_X12_joined_276 : mj_dec prog_14_method_55_code 276 = some (.iadd, 1) := by decide +kernel
theorem dm_X12_joined_277 : mj_dec prog_14_method_55_code 277 = some (.iload 9, 2) := by decide +kernel
theorem dm_X12_joined_279 : mj_dec prog_14_method_55_code 279 = some (.iload 8, 2) := by decide +kernel
theorem dm_X12_joined_281 : mj_dec prog_14_method_55_code 281 = some (.if_icmp .ge 13, 3) := by decide +kernel
theorem dm_X12_joined_284 : mj_dec prog_14_method_55_code 284 = some (.aload_n 0, 1) := by decide +kernel
theorem dm_X12_joined_285 : mj_dec prog_14_method_55_code 285 = some (.iload_n 1, 1) := by decide +kernel
theorem dm_X12_joined_286 : mj_dec prog_14_method_55_code 286 = some (.iload 9, 2) := by decide +kernel
theorem dm_X12_joined_288 : mj_dec prog_14_method_55_code 288 = some (.invokevirtual 138, 3) := by decide +kernel
theorem dm_X12_joined_291 : mj_dec prog_14_method_55_code 291 = some (.goto 13, 3) := by decide +kernel
theorem dm_X12_joined_294 : mj_dec prog_14_method_55_code 294 = some (.aload_n 0, 1) := by decide +kernel
theorem dm_X12_joined_295 : mj_dec prog_14_method_55_code 295 = some (.iload_n 2, 1) := by decide +kernel
theorem dm_X12_joined_296 : mj_dec prog_14_method_55_code 296 = some (.iload 9, 2) := by decide +kernel
theorem dm_X12_joined_298 : mj_dec prog_14_method_55_code 298 = some (.iload 8, 2) := by decide +kernel
theorem dm_X12_joined_300 : mj_dec prog_14_method_55_code 300 = some (.isub, 1) := by decide +kernel
theorem dm_X12_joined_301 : mj_dec prog_14_method_55_code 301 = some (.invokevirtual 138, 3) := by decide +kernel
theorem dm_X12_joined_304 : mj_dec prog_14_method_55_code 304 = some (.lastore, 1) := by decide +kernel
theorem dm_X12_joined_305 : mj_dec prog_14_method_55_code 305 = some (.iinc 9 1, 3) := by decide +kernel
theorem dm_X12_joined_308 : mj_dec prog_14_method_55_code 308 = some (.goto (-55), 3) := by decide +kernel
theorem dm_X12_joined_311 : mj_dec prog_14_method_55_code 311 = some (.aload_n 0, 1) := by decide +kernel
theorem dm_X12_joined_312 : mj_dec prog_14_method_55_code 312 = some (.iload 6, 2) := by decide +kernel
theorem dm_X12_joined_314 : mj_dec prog_14_method_55_code 314 = some (.invokevirtual 146, 3) := by decide +kernel
theorem dm_X12_joined_317 : mj_dec prog_14_method_55_code 317 = some (.iconst 5, 1) := by decide +kernel
theorem dm_X12_joined_318 : mj_dec prog_14_method_55_code 318 = some (.if_icmp .ne 12, 3) := by decide +kernel
theorem dm_X12_joined_330 : mj_dec prog_14_method_55_code 330 = some (.iload 6, 2) := by decide +kernel
theorem dm_X12_joined_332 : mj_dec prog_14_method_55_code 332 = some (.ireturn, 1) := by decide +kernel
theorem r_joinedT {xt : mj_X} {d e hd hd2 q b : Nat} {pre post : mj_H} {s : RS} {v w : VV} {place : Int} (hm : pre.length = 102) (hd1 : 6 ≤ d) (hB : rB s) (hv : rv s (e + 1) hd v) (hh3 : 3 ≤ hd) (hw : rv s (e + 1) hd2 w) (hh4 : 3 ≤ hd2) (hq : s.1 4 = (q : Int)) (hb : s.1 3 = (b : Int)) (hq3 : 3 ≤ q) (hV2 : q < 310000) (he0 : s.1 5 = 0) (hca : 0 ≤ s.1 10 ∧ s.1 10 ≤ 100) (hC : b + 300 ≤ 820000) (h3v : srtO v = 3) (h3w : srtO w = 3) (hcc : vc v = vc w) : pgV xt d 259 [.ref 102, ii (hd : Int), ii (hd2 : Int), ii place] (rS pre post s) (rres pre post s (e + 1) (d_join v w) place 144 1) := by
  have hB0 := hB
  obtain ⟨hB1, hB2, hB3, hB4⟩ := hB
  obtain ⟨fr, hfr, hsh, hlt, hcl, hvk, hvm, hvc, hvq, hvcl⟩ := rv_val hv
  obtain ⟨fw, hfw, hshw, hltw, hclw, hwk, hwm, hwc, hwq, hwcl⟩ := rv_val hw
  have hsv := srtO_c v hvk
  have hsw := srtO_c w hwk
  have hqv6 := vq_tb (v := v) (by omega)
  have hqw6 := vq_tb (v := w) (by omega)
  have hw6 := hv.1.2.2.2.1 (by omega)
  have hw6b := hw.1.2.2.2.1 (by omega)
  have hsum : (vm v + vm w) * vc v = vq v + vq w := by rw [hqv6, hqw6, ← hcc, Nat.add_mul]
  have hq6 : vq v = vm v * vc v := hqv6
  have hNI : ((vm v + vm w : Nat) : Int) * (vc v : Int) = (((vm v + vm w) * vc v : Nat) : Int) := by push_cast; rfl
  have hNb : (vm v + vm w) * vc v ≤ 24 * 12 := Nat.mul_le_mul (by omega) (by omega)
  refine x_enter pm_X12_joined (L0 := [(0, .ref 102), (1, ii (hd : Int)), (2, ii (hd2 : Int)), (3, ii place)]) rfl (Nat.le_of_ble_eq_true rfl) (by omega) ?_
  refine me1 (pc' := 1) (L' := [(0, .ref 102), (1, ii (hd : Int)), (2, ii (hd2 : Int)), (3, ii place)]) (S' := [.ref 102]) dm_X12_joined_0 rfl rfl rfl rfl ?_
  refine me1 (pc' := 2) (L' := [(0, .ref 102), (1, ii (hd : Int)), (2, ii (hd2 : Int)), (3, ii place)]) (S' := [ii (hd : Int), .ref 102]) dm_X12_joined_1 rfl rfl rfl rfl ?_
  refine x_cp (pc' := 5) (v := ii ((srtO v : Nat) : Int)) (rest := []) dm_X12_joined_2 rfl (q_inv (As := [ii (hd : Int)]) (S := []) hm rfl rfl rfl) rfl rfl rfl (r_sortOf_ hm (by omega) hB0 hv) ?_
  refine me1 (pc' := 7) (L' := [(4, ii ((srtO v : Nat) : Int)), (0, .ref 102), (1, ii (hd : Int)), (2, ii (hd2 : Int)), (3, ii place)]) (S' := []) dm_X12_joined_5 rfl rfl rfl rfl ?_
  refine me1 (pc' := 8) (L' := [(4, ii ((srtO v : Nat) : Int)), (0, .ref 102), (1, ii (hd : Int)), (2, ii (hd2 : Int)), (3, ii place)]) (S' := [.ref 102]) dm_X12_joined_7 rfl rfl rfl rfl ?_
  refine me1 (pc' := 9) (L' := [(4, ii ((srtO v : Nat) : Int)), (0, .ref 102), (1, ii (hd : Int)), (2, ii (hd2 : Int)), (3, ii place)]) (S' := [ii (hd : Int), .ref 102]) dm_X12_joined_8 rfl rfl rfl rfl ?_
  refine x_cp (pc' := 12) (v := ii (vm v : Int)) (rest := []) dm_X12_joined_9 rfl (q_inv (As := [ii (hd : Int)]) (S := []) hm rfl rfl rfl) rfl rfl rfl (r_many_ hm (by omega) hB0 hv) ?_
  refine me1 (pc' := 13) (L' := [(4, ii ((srtO v : Nat) : Int)), (0, .ref 102), (1, ii (hd : Int)), (2, ii (hd2 : Int)), (3, ii place)]) (S' := [.ref 102, ii (vm v : Int)]) dm_X12_joined_12 rfl rfl rfl rfl ?_
  refine me1 (pc' := 14) (L' := [(4, ii ((srtO v : Nat) : Int)), (0, .ref 102), (1, ii (hd : Int)), (2, ii (hd2 : Int)), (3, ii place)]) (S' := [ii (hd2 : Int), .ref 102, ii (vm v : Int)]) dm_X12_joined_13 rfl rfl rfl rfl ?_
  refine x_cp (pc' := 17) (v := ii (vm w : Int)) (rest := [ii (vm v : Int)]) dm_X12_joined_14 rfl (q_inv (As := [ii (hd2 : Int)]) (S := [ii (vm v : Int)]) hm rfl rfl rfl) rfl rfl rfl (r_many_ hm (by omega) hB0 hw) ?_
  refine y_iadd (a := (vm v : Int)) (b := (vm w : Int)) dm_X12_joined_17 (pc' := 18) rfl ?_
  refine pg_st (S' := [ii ((vm v + vm w : Nat) : Int)]) (congrArg (fun z => ii z :: []) (by omega)) ?_
  refine me1 (pc' := 20) (L' := [(5, ii ((vm v + vm w : Nat) : Int)), (4, ii ((srtO v : Nat) : Int)), (0, .ref 102), (1, ii (hd : Int)), (2, ii (hd2 : Int)), (3, ii place)]) (S' := []) dm_X12_joined_18 rfl rfl rfl rfl ?_
  refine me1 (pc' := 22) (L' := [(5, ii ((vm v + vm w : Nat) : Int)), (4, ii ((srtO v : Nat) : Int)), (0, .ref 102), (1, ii (hd : Int)), (2, ii (hd2 : Int)), (3, ii place)]) (S' := [ii ((srtO v : Nat) : Int)]) dm_X12_joined_20 rfl rfl rfl rfl ?_
  refine me1 (pc' := 23) (L' := [(5, ii ((vm v + vm w : Nat) : Int)), (4, ii ((srtO v : Nat) : Int)), (0, .ref 102), (1, ii (hd : Int)), (2, ii (hd2 : Int)), (3, ii place)]) (S' := [.ref 102, ii ((srtO v : Nat) : Int)]) dm_X12_joined_22 rfl rfl rfl rfl ?_
  refine me1 (pc' := 24) (L' := [(5, ii ((vm v + vm w : Nat) : Int)), (4, ii ((srtO v : Nat) : Int)), (0, .ref 102), (1, ii (hd : Int)), (2, ii (hd2 : Int)), (3, ii place)]) (S' := [ii (hd2 : Int), .ref 102, ii ((srtO v : Nat) : Int)]) dm_X12_joined_23 rfl rfl rfl rfl ?_
  refine x_cp (pc' := 27) (v := ii ((srtO w : Nat) : Int)) (rest := [ii ((srtO v : Nat) : Int)]) dm_X12_joined_24 rfl (q_inv (As := [ii (hd2 : Int)]) (S := [ii ((srtO v : Nat) : Int)]) hm rfl rfl rfl) rfl rfl rfl (r_sortOf_ hm (by omega) hB0 hw) ?_
  refine y_2ne (a := ((srtO v : Nat) : Int)) (b := ((srtO w : Nat) : Int)) (t := 55) (pc' := 30) dm_X12_joined_27 rfl rfl (by omega) (fun hb1 => ?_) (fun hb1 => ?_)
  · exfalso; omega
  · refine me1 (pc' := 32) (L' := [(5, ii ((vm v + vm w : Nat) : Int)), (4, ii ((srtO v : Nat) : Int)), (0, .ref 102), (1, ii (hd : Int)), (2, ii (hd2 : Int)), (3, ii place)]) (S' := [ii ((srtO v : Nat) : Int)]) dm_X12_joined_30 rfl rfl rfl rfl ?_
    refine me0 (pc' := 33) (S' := [ii 4, ii ((srtO v : Nat) : Int)]) dm_X12_joined_32 rfl rfl rfl rfl ?_
    refine y_2eq (a := ((srtO v : Nat) : Int)) (b := 4) (t := 55) (pc' := 36) dm_X12_joined_33 rfl rfl (by omega) (fun hb2 => ?_) (fun hb2 => ?_)
    · exfalso; omega
    · refine me1 (pc' := 38) (L' := [(5, ii ((vm v + vm w : Nat) : Int)), (4, ii ((srtO v : Nat) : Int)), (0, .ref 102), (1, ii (hd : Int)), (2, ii (hd2 : Int)), (3, ii place)]) (S' := [ii ((srtO v : Nat) : Int)]) dm_X12_joined_36 rfl rfl rfl rfl ?_
      refine me0 (pc' := 39) (S' := [ii 3, ii ((srtO v : Nat) : Int)]) dm_X12_joined_38 rfl rfl rfl rfl ?_
      refine y_2ne (a := ((srtO v : Nat) : Int)) (b := 3) (t := 136) (pc' := 42) dm_X12_joined_39 rfl rfl (by omega) (fun hb3 => ?_) (fun hb3 => ?_)
      · exfalso; omega
      · refine me1 (pc' := 43) (L' := [(5, ii ((vm v + vm w : Nat) : Int)), (4, ii ((srtO v : Nat) : Int)), (0, .ref 102), (1, ii (hd : Int)), (2, ii (hd2 : Int)), (3, ii place)]) (S' := [.ref 102]) dm_X12_joined_42 rfl rfl rfl rfl ?_
        refine me1 (pc' := 44) (L' := [(5, ii ((vm v + vm w : Nat) : Int)), (4, ii ((srtO v : Nat) : Int)), (0, .ref 102), (1, ii (hd : Int)), (2, ii (hd2 : Int)), (3, ii place)]) (S' := [ii (hd : Int), .ref 102]) dm_X12_joined_43 rfl rfl rfl rfl ?_
        refine x_cp (pc' := 47) (v := ii (vc v : Int)) (rest := []) dm_X12_joined_44 rfl (q_inv (As := [ii (hd : Int)]) (S := []) hm rfl rfl rfl) rfl rfl rfl (r_columns_ hm (by omega) hB0 hv) ?_
        refine me1 (pc' := 48) (L' := [(5, ii ((vm v + vm w : Nat) : Int)), (4, ii ((srtO v : Nat) : Int)), (0, .ref 102), (1, ii (hd : Int)), (2, ii (hd2 : Int)), (3, ii place)]) (S' := [.ref 102, ii (vc v : Int)]) dm_X12_joined_47 rfl rfl rfl rfl ?_
        refine me1 (pc' := 49) (L' := [(5, ii ((vm v + vm w : Nat) : Int)), (4, ii ((srtO v : Nat) : Int)), (0, .ref 102), (1, ii (hd : Int)), (2, ii (hd2 : Int)), (3, ii place)]) (S' := [ii (hd2 : Int), .ref 102, ii (vc v : Int)]) dm_X12_joined_48 rfl rfl rfl rfl ?_
        refine x_cp (pc' := 52) (v := ii (vc w : Int)) (rest := [ii (vc v : Int)]) dm_X12_joined_49 rfl (q_inv (As := [ii (hd2 : Int)]) (S := [ii (vc v : Int)]) hm rfl rfl rfl) rfl rfl rfl (r_columns_ hm (by omega) hB0 hw) ?_
        refine y_2eq (a := (vc v : Int)) (b := (vc w : Int)) (t := 136) (pc' := 55) dm_X12_joined_52 rfl rfl (by omega) (fun hb4 => ?_) (fun hb4 => ?_)
        · refine me1 (pc' := 138) (L' := [(5, ii ((vm v + vm w : Nat) : Int)), (4, ii ((srtO v : Nat) : Int)), (0, .ref 102), (1, ii (hd : Int)), (2, ii (hd2 : Int)), (3, ii place)]) (S' := [ii ((vm v + vm w : Nat) : Int)]) dm_X12_joined_136 rfl rfl rfl rfl ?_
          refine me1 (pc' := 140) (L' := [(5, ii ((vm v + vm w : Nat) : Int)), (4, ii ((srtO v : Nat) : Int)), (0, .ref 102), (1, ii (hd : Int)), (2, ii (hd2 : Int)), (3, ii place)]) (S' := [ii ((srtO v : Nat) : Int), ii ((vm v + vm w : Nat) : Int)]) dm_X12_joined_138 rfl rfl rfl rfl ?_
          refine me0 (pc' := 141) (S' := [ii 3, ii ((srtO v : Nat) : Int), ii ((vm v + vm w : Nat) : Int)]) dm_X12_joined_140 rfl rfl rfl rfl ?_
          refine y_2ne (a := ((srtO v : Nat) : Int)) (b := 3) (t := 149) (pc' := 144) dm_X12_joined_141 rfl rfl (by omega) (fun hb5 => ?_) (fun hb5 => ?_)
          · exfalso; omega
          · refine me0 (pc' := 146) (S' := [ii 12, ii ((vm v + vm w : Nat) : Int)]) dm_X12_joined_144 rfl rfl rfl rfl ?_
            refine me2 (pc' := 151) (S' := [ii 12, ii ((vm v + vm w : Nat) : Int)]) dm_X12_joined_146 rfl rfl rfl ?_
            refine y_2le (a := ((vm v + vm w : Nat) : Int)) (b := 12) (t := 162) (pc' := 154) dm_X12_joined_151 rfl rfl (by omega) (fun hb6 => ?_) (fun hb6 => ?_)
            · refine me1 (pc' := 164) (L' := [(5, ii ((vm v + vm w : Nat) : Int)), (4, ii ((srtO v : Nat) : Int)), (0, .ref 102), (1, ii (hd : Int)), (2, ii (hd2 : Int)), (3, ii place)]) (S' := [ii ((srtO v : Nat) : Int)]) dm_X12_joined_162 rfl rfl rfl rfl ?_
              refine me0 (pc' := 165) (S' := [ii 3, ii ((srtO v : Nat) : Int)]) dm_X12_joined_164 rfl rfl rfl rfl ?_
              refine y_2ne (a := ((srtO v : Nat) : Int)) (b := 3) (t := 182) (pc' := 168) dm_X12_joined_165 rfl rfl (by omega) (fun hb7 => ?_) (fun hb7 => ?_)
              · exfalso; omega
              · refine me1 (pc' := 169) (L' := [(5, ii ((vm v + vm w : Nat) : Int)), (4, ii ((srtO v : Nat) : Int)), (0, .ref 102), (1, ii (hd : Int)), (2, ii (hd2 : Int)), (3, ii place)]) (S' := [.ref 102]) dm_X12_joined_168 rfl rfl rfl rfl ?_
                refine me1 (pc' := 171) (L' := [(5, ii ((vm v + vm w : Nat) : Int)), (4, ii ((srtO v : Nat) : Int)), (0, .ref 102), (1, ii (hd : Int)), (2, ii (hd2 : Int)), (3, ii place)]) (S' := [ii ((vm v + vm w : Nat) : Int), .ref 102]) dm_X12_joined_169 rfl rfl rfl rfl ?_
                refine me1 (pc' := 172) (L' := [(5, ii ((vm v + vm w : Nat) : Int)), (4, ii ((srtO v : Nat) : Int)), (0, .ref 102), (1, ii (hd : Int)), (2, ii (hd2 : Int)), (3, ii place)]) (S' := [.ref 102, ii ((vm v + vm w : Nat) : Int), .ref 102]) dm_X12_joined_171 rfl rfl rfl rfl ?_
                refine me1 (pc' := 173) (L' := [(5, ii ((vm v + vm w : Nat) : Int)), (4, ii ((srtO v : Nat) : Int)), (0, .ref 102), (1, ii (hd : Int)), (2, ii (hd2 : Int)), (3, ii place)]) (S' := [ii (hd : Int), .ref 102, ii ((vm v + vm w : Nat) : Int), .ref 102]) dm_X12_joined_172 rfl rfl rfl rfl ?_
                refine x_cp (pc' := 176) (v := ii (vc v : Int)) (rest := [ii ((vm v + vm w : Nat) : Int), .ref 102]) dm_X12_joined_173 rfl (q_inv (As := [ii (hd : Int)]) (S := [ii ((vm v + vm w : Nat) : Int), .ref 102]) hm rfl rfl rfl) rfl rfl rfl (r_columns_ hm (by omega) hB0 hv) ?_
                refine x_cv (pc' := 179) (rest := []) dm_X12_joined_176 rfl (q_inv (As := [ii ((vm v + vm w : Nat) : Int), ii (vc v : Int)]) (S := []) hm rfl rfl rfl) rfl rfl rfl (r_table_ (q := q) (b := b) (s := s) hm (by omega) hq hb (by omega) (by omega) (by omega)) ?_
                rintro _ _ ⟨rfl, rfl⟩
                refine me2 (pc' := 221) (S' := [ii (q : Int)]) dm_X12_joined_179 rfl rfl rfl ?_
                have hxT : rext s (tabS s q b ((vm v + vm w : Nat) : Int) (vc v : Int)) := rext_tab hq hb (by omega)
                have hBT : rB (tabS s q b ((vm v + vm w : Nat) : Int) (vc v : Int)) := ⟨by show 3 ≤ (q : Int) + 1; omega, by show (q : Int) + 1 ≤ 310000; omega, by show 0 ≤ (b : Int) + ((vm v + vm w : Nat) : Int) * (vc v : Int); omega, by show (b : Int) + ((vm v + vm w : Nat) : Int) * (vc v : Int) ≤ 820000; omega⟩
                have hvT : ∀ (k : Nat) (F : Nat → Int64), rv (fillS (tabS s q b ((vm v + vm w : Nat) : Int) (vc v : Int)) b k F) (e + 1) hd v := fun k F => rv_ext (rext_fill hxT (by omega) F) hh3 hv
                have hwT : ∀ (k : Nat) (F : Nat → Int64), rv (fillS (tabS s q b ((vm v + vm w : Nat) : Int) (vc v : Int)) b k F) (e + 1) hd2 w := fun k F => rv_ext (rext_fill hxT (by omega) F) hh4 hw
                refine me1 (pc' := 223) (L' := [(6, ii (q : Int)), (5, ii ((vm v + vm w : Nat) : Int)), (4, ii ((srtO v : Nat) : Int)), (0, .ref 102), (1, ii (hd : Int)), (2, ii (hd2 : Int)), (3, ii place)]) (S' := []) dm_X12_joined_221 rfl rfl rfl rfl ?_
                refine me1 (pc' := 225) (L' := [(6, ii (q : Int)), (5, ii ((vm v + vm w : Nat) : Int)), (4, ii ((srtO v : Nat) : Int)), (0, .ref 102), (1, ii (hd : Int)), (2, ii (hd2 : Int)), (3, ii place)]) (S' := [ii ((srtO v : Nat) : Int)]) dm_X12_joined_223 rfl rfl rfl rfl ?_
                refine me0 (pc' := 226) (S' := [ii 3, ii ((srtO v : Nat) : Int)]) dm_X12_joined_225 rfl rfl rfl rfl ?_
                refine y_2ne (a := ((srtO v : Nat) : Int)) (b := 3) (t := 237) (pc' := 229) dm_X12_joined_226 rfl rfl (by omega) (fun hb8 => ?_) (fun hb8 => ?_)
                · exfalso; omega
                · refine me1 (pc' := 230) (L' := [(6, ii (q : Int)), (5, ii ((vm v + vm w : Nat) : Int)), (4, ii ((srtO v : Nat) : Int)), (0, .ref 102), (1, ii (hd : Int)), (2, ii (hd2 : Int)), (3, ii place)]) (S' := [.ref 102]) dm_X12_joined_229 rfl rfl rfl rfl ?_
                  refine me1 (pc' := 231) (L' := [(6, ii (q : Int)), (5, ii ((vm v + vm w : Nat) : Int)), (4, ii ((srtO v : Nat) : Int)), (0, .ref 102), (1, ii (hd : Int)), (2, ii (hd2 : Int)), (3, ii place)]) (S' := [ii (hd : Int), .ref 102]) dm_X12_joined_230 rfl rfl rfl rfl ?_
                  refine x_cp (pc' := 234) (v := ii (vc v : Int)) (rest := []) dm_X12_joined_231 rfl (q_inv (As := [ii (hd : Int)]) (S := []) hm rfl rfl rfl) rfl rfl rfl (r_columns_ hm (by omega) hBT (rv_ext hxT hh3 hv)) ?_
                  refine me2 (pc' := 238) (S' := [ii (vc v : Int)]) dm_X12_joined_234 rfl rfl rfl ?_
                  refine me1 (pc' := 240) (L' := [(7, ii (vc v : Int)), (6, ii (q : Int)), (5, ii ((vm v + vm w : Nat) : Int)), (4, ii ((srtO v : Nat) : Int)), (0, .ref 102), (1, ii (hd : Int)), (2, ii (hd2 : Int)), (3, ii place)]) (S' := []) dm_X12_joined_238 rfl rfl rfl rfl ?_
                  refine me1 (pc' := 241) (L' := [(7, ii (vc v : Int)), (6, ii (q : Int)), (5, ii ((vm v + vm w : Nat) : Int)), (4, ii ((srtO v : Nat) : Int)), (0, .ref 102), (1, ii (hd : Int)), (2, ii (hd2 : Int)), (3, ii place)]) (S' := [.ref 102]) dm_X12_joined_240 rfl rfl rfl rfl ?_
                  refine me1 (pc' := 242) (L' := [(7, ii (vc v : Int)), (6, ii (q : Int)), (5, ii ((vm v + vm w : Nat) : Int)), (4, ii ((srtO v : Nat) : Int)), (0, .ref 102), (1, ii (hd : Int)), (2, ii (hd2 : Int)), (3, ii place)]) (S' := [ii (hd : Int), .ref 102]) dm_X12_joined_241 rfl rfl rfl rfl ?_
                  refine x_cp (pc' := 245) (v := ii (vm v : Int)) (rest := []) dm_X12_joined_242 rfl (q_inv (As := [ii (hd : Int)]) (S := []) hm rfl rfl rfl) rfl rfl rfl (r_many_ hm (by omega) hBT (rv_ext hxT hh3 hv)) ?_
                  refine me1 (pc' := 247) (L' := [(7, ii (vc v : Int)), (6, ii (q : Int)), (5, ii ((vm v + vm w : Nat) : Int)), (4, ii ((srtO v : Nat) : Int)), (0, .ref 102), (1, ii (hd : Int)), (2, ii (hd2 : Int)), (3, ii place)]) (S' := [ii (vc v : Int), ii (vm v : Int)]) dm_X12_joined_245 rfl rfl rfl rfl ?_
                  refine y_imul (a := (vm v : Int)) (b := (vc v : Int)) dm_X12_joined_247 (pc' := 248) rfl ?_
                  refine pg_st (S' := [ii ((vq v : Nat) : Int)]) (congrArg (fun z => ii z :: []) (by first | omega | (rw [hq6]; push_cast; rfl))) ?_
                  refine me1 (pc' := 250) (L' := [(8, ii ((vq v : Nat) : Int)), (7, ii (vc v : Int)), (6, ii (q : Int)), (5, ii ((vm v + vm w : Nat) : Int)), (4, ii ((srtO v : Nat) : Int)), (0, .ref 102), (1, ii (hd : Int)), (2, ii (hd2 : Int)), (3, ii place)]) (S' := []) dm_X12_joined_248 rfl rfl rfl rfl ?_
                  refine me0 (pc' := 251) (S' := [ii 0]) dm_X12_joined_250 rfl rfl rfl rfl ?_
                  refine me1 (pc' := 253) (L' := [(9, ii 0), (8, ii ((vq v : Nat) : Int)), (7, ii (vc v : Int)), (6, ii (q : Int)), (5, ii ((vm v + vm w : Nat) : Int)), (4, ii ((srtO v : Nat) : Int)), (0, .ref 102), (1, ii (hd : Int)), (2, ii (hd2 : Int)), (3, ii place)]) (S' := []) dm_X12_joined_251 rfl rfl rfl rfl ?_
                  have lp253 : ∀ (n253 : Nat) (k : Nat), (vm v + vm w) * vc v - k = n253 → (k ≤ (vm v + vm w) * vc v) → pgE xt (d - 1) 12 10 false (Option.some Jvm.ClassFile.FieldType.int) (mj_dec prog_14_method_55_code) 253 [(0, .ref 102), (1, ii (hd : Int)), (2, ii (hd2 : Int)), (3, ii place), (4, ii ((srtO v : Nat) : Int)), (5, ii ((vm v + vm w : Nat) : Int)), (6, ii (q : Int)), (7, ii (vc v : Int)), (8, ii ((vq v : Nat) : Int)), (9, ii (k : Int))] [] (rI pre post ((fillS (tabS s q b ((vm v + vm w : Nat) : Int) (vc v : Int)) b k (jnF v w)).1) ((fillS (tabS s q b ((vm v + vm w : Nat) : Int) (vc v : Int)) b k (jnF v w)).2.1) ((fillS (tabS s q b ((vm v + vm w : Nat) : Int) (vc v : Int)) b k (jnF v w)).2.2.1) ((fillS (tabS s q b ((vm v + vm w : Nat) : Int) (vc v : Int)) b k (jnF v w)).2.2.2)) (fun r h' => ∃ x, r = some x ∧ rres pre post s (e + 1) (d_join v w) place 144 1 x h') := by
                    intro n253
                    induction n253 using Nat.strongRecOn with
                    | ind n253 ih253 =>
                      intro k hm253 hk
                      refine me1 (pc' := 255) (L' := [(0, .ref 102), (1, ii (hd : Int)), (2, ii (hd2 : Int)), (3, ii place), (4, ii ((srtO v : Nat) : Int)), (5, ii ((vm v + vm w : Nat) : Int)), (6, ii (q : Int)), (7, ii (vc v : Int)), (8, ii ((vq v : Nat) : Int)), (9, ii (k : Int))]) (S' := [ii (k : Int)]) dm_X12_joined_253 rfl rfl rfl rfl ?_
                      refine me1 (pc' := 257) (L' := [(0, .ref 102), (1, ii (hd : Int)), (2, ii (hd2 : Int)), (3, ii place), (4, ii ((srtO v : Nat) : Int)), (5, ii ((vm v + vm w : Nat) : Int)), (6, ii (q : Int)), (7, ii (vc v : Int)), (8, ii ((vq v : Nat) : Int)), (9, ii (k : Int))]) (S' := [ii ((vm v + vm w : Nat) : Int), ii (k : Int)]) dm_X12_joined_255 rfl rfl rfl rfl ?_
                      refine me1 (pc' := 259) (L' := [(0, .ref 102), (1, ii (hd : Int)), (2, ii (hd2 : Int)), (3, ii place), (4, ii ((srtO v : Nat) : Int)), (5, ii ((vm v + vm w : Nat) : Int)), (6, ii (q : Int)), (7, ii (vc v : Int)), (8, ii ((vq v : Nat) : Int)), (9, ii (k : Int))]) (S' := [ii (vc v : Int), ii ((vm v + vm w : Nat) : Int), ii (k : Int)]) dm_X12_joined_257 rfl rfl rfl rfl ?_
                      refine y_imul (a := ((vm v + vm w : Nat) : Int)) (b := (vc v : Int)) dm_X12_joined_259 (pc' := 260) rfl ?_
                      refine pg_st (S' := [ii (((vm v + vm w) * vc v : Nat) : Int), ii (k : Int)]) (congrArg (fun z => ii z :: [ii (k : Int)]) (by first | omega | (push_cast; rfl))) ?_
                      refine y_2ge (a := (k : Int)) (b := (((vm v + vm w) * vc v : Nat) : Int)) (t := 311) (pc' := 263) dm_X12_joined_260 rfl rfl (by omega) (fun hb9 => ?_) (fun hb9 => ?_)
                      · refine me1 (pc' := 312) (L' := [(0, .ref 102), (1, ii (hd : Int)), (2, ii (hd2 : Int)), (3, ii place), (4, ii ((srtO v : Nat) : Int)), (5, ii ((vm v + vm w : Nat) : Int)), (6, ii (q : Int)), (7, ii (vc v : Int)), (8, ii ((vq v : Nat) : Int)), (9, ii (k : Int))]) (S' := [.ref 102]) dm_X12_joined_311 rfl rfl rfl rfl ?_
                        refine me1 (pc' := 314) (L' := [(0, .ref 102), (1, ii (hd : Int)), (2, ii (hd2 : Int)), (3, ii place), (4, ii ((srtO v : Nat) : Int)), (5, ii ((vm v + vm w : Nat) : Int)), (6, ii (q : Int)), (7, ii (vc v : Int)), (8, ii ((vq v : Nat) : Int)), (9, ii (k : Int))]) (S' := [ii (q : Int), .ref 102]) dm_X12_joined_312 rfl rfl rfl rfl ?_
                        have hkn9 : k = (vm v + vm w) * vc v := by omega
                        have hvq : rv (fillS (tabS s q b ((vm v + vm w : Nat) : Int) (vc v : Int)) b ((vm v + vm w) * vc v) (jnF v w)) (e + 1) q (vtab (vm v + vm w) (vc v) (jnF v w)) := rv_tabS (vw1_tab (by omega) (by omega) (by omega) (by omega) (fun j hj => jn_fits hv.1 hw.1 (by omega) (by omega) j (by omega))) rfl rfl rfl (fun _ _ => rfl)
                        rw [← hkn9] at hvq
                        refine x_cp (pc' := 317) (v := ii 6) (rest := []) dm_X12_joined_314 rfl (q_inv (As := [ii (q : Int)]) (S := []) hm rfl rfl rfl) rfl rfl rfl (r_kindOf_ (s := fillS (tabS s q b ((vm v + vm w : Nat) : Int) (vc v : Int)) b k (jnF v w)) hm (by omega) hBT hvq) ?_
                        refine me0 (pc' := 318) (S' := [ii 5, ii 6]) dm_X12_joined_317 rfl rfl rfl rfl ?_
                        refine me_2t (pc' := 330) dm_X12_joined_318 rfl (by decide) ?_
                        refine me1 (pc' := 332) (L' := [(0, .ref 102), (1, ii (hd : Int)), (2, ii (hd2 : Int)), (3, ii place), (4, ii ((srtO v : Nat) : Int)), (5, ii ((vm v + vm w : Nat) : Int)), (6, ii (q : Int)), (7, ii (vc v : Int)), (8, ii ((vq v : Nat) : Int)), (9, ii (k : Int))]) (S' := [ii (q : Int)]) dm_X12_joined_330 rfl rfl rfl rfl ?_
                        refine y_ret (r := some (ii (q : Int))) dm_X12_joined_332 rfl rfl rfl ?_
                        have hkn : k = (vm v + vm w) * vc v := by omega
                        rw [hkn]
                        rw [show d_join v w = .inr (vtab (vm v + vm w) (vc v) (jnF v w)) by unfold d_join; rw [if_neg (show ¬ jflat v w by unfold jflat ofN ofS; omega), if_pos (by omega), if_neg (by omega)]]
                        have hNb := Nat.mul_le_mul (show vm v + vm w ≤ 12 by omega) (show vc v ≤ 12 by omega)
                        exact ⟨_, rfl, rres_tab (r := vm v + vm w) (c := vc v) (w := vtab (vm v + vm w) (vc v) (jnF v w)) hq hq3 hb he0 (vw1_tab (by omega) (by omega) (by omega) (by omega) (fun j hj => jn_fits hv.1 hw.1 (by omega) (by omega) j (by omega))) rfl rfl rfl (fun _ _ => rfl) (by omega) (Nat.le_refl _)⟩
                      · refine me1 (pc' := 264) (L' := [(0, .ref 102), (1, ii (hd : Int)), (2, ii (hd2 : Int)), (3, ii place), (4, ii ((srtO v : Nat) : Int)), (5, ii ((vm v + vm w : Nat) : Int)), (6, ii (q : Int)), (7, ii (vc v : Int)), (8, ii ((vq v : Nat) : Int)), (9, ii (k : Int))]) (S' := [.ref 102]) dm_X12_joined_263 rfl rfl rfl rfl ?_
                        refine me3 (pc' := 267) (S' := [.ref (102 + 1)]) dm_X12_joined_264 (q_getr hm rfl (fun m i l => rg_0 m i l)) rfl rfl rfl ?_
                        refine me1 (pc' := 268) (L' := [(0, .ref 102), (1, ii (hd : Int)), (2, ii (hd2 : Int)), (3, ii place), (4, ii ((srtO v : Nat) : Int)), (5, ii ((vm v + vm w : Nat) : Int)), (6, ii (q : Int)), (7, ii (vc v : Int)), (8, ii ((vq v : Nat) : Int)), (9, ii (k : Int))]) (S' := [.ref 102, .ref (102 + 1)]) dm_X12_joined_267 rfl rfl rfl rfl ?_
                        refine me3 (pc' := 271) (S' := [.ref (102 + 2), .ref (102 + 1)]) dm_X12_joined_268 (q_getr hm rfl (fun m i l => rg_1 m i l)) rfl rfl rfl ?_
                        refine me1 (pc' := 273) (L' := [(0, .ref 102), (1, ii (hd : Int)), (2, ii (hd2 : Int)), (3, ii place), (4, ii ((srtO v : Nat) : Int)), (5, ii ((vm v + vm w : Nat) : Int)), (6, ii (q : Int)), (7, ii (vc v : Int)), (8, ii ((vq v : Nat) : Int)), (9, ii (k : Int))]) (S' := [ii (q : Int), .ref (102 + 2), .ref (102 + 1)]) dm_X12_joined_271 rfl rfl rfl rfl ?_
                        refine me3 (pc' := 274) (S' := [ii ((((fillS (tabS s q b ((vm v + vm w : Nat) : Int) (vc v : Int)) b k (jnF v w)).2.2.1) 1) q), .ref (102 + 1)]) dm_X12_joined_273 (q_iald (v := (((fillS (tabS s q b ((vm v + vm w : Nat) : Int) (vc v : Int)) b k (jnF v w)).2.2.1) 1) q) (k := 1) (n := 310000) hm (fun m i l I J => rc_1 m i l I J) (by omega) (by omega) (by decide) rfl) rfl rfl rfl ?_
                        refine pg_st (S' := [ii (b : Int), .ref (102 + 1)]) (congrArg (fun z => ii z :: [.ref (102 + 1)]) (up_eq _ _ _)) ?_
                        refine me1 (pc' := 276) (L' := [(0, .ref 102), (1, ii (hd : Int)), (2, ii (hd2 : Int)), (3, ii place), (4, ii ((srtO v : Nat) : Int)), (5, ii ((vm v + vm w : Nat) : Int)), (6, ii (q : Int)), (7, ii (vc v : Int)), (8, ii ((vq v : Nat) : Int)), (9, ii (k : Int))]) (S' := [ii (k : Int), ii (b : Int), .ref (102 + 1)]) dm_X12_joined_274 rfl rfl rfl rfl ?_
                        refine y_iadd (a := (b : Int)) (b := (k : Int)) dm_X12_joined_276 (pc' := 277) rfl ?_
                        refine me1 (pc' := 279) (L' := [(0, .ref 102), (1, ii (hd : Int)), (2, ii (hd2 : Int)), (3, ii place), (4, ii ((srtO v : Nat) : Int)), (5, ii ((vm v + vm w : Nat) : Int)), (6, ii (q : Int)), (7, ii (vc v : Int)), (8, ii ((vq v : Nat) : Int)), (9, ii (k : Int))]) (S' := [ii (k : Int), ii ((b : Int) + (k : Int)), .ref (102 + 1)]) dm_X12_joined_277 rfl rfl rfl rfl ?_
                        refine me1 (pc' := 281) (L' := [(0, .ref 102), (1, ii (hd : Int)), (2, ii (hd2 : Int)), (3, ii place), (4, ii ((srtO v : Nat) : Int)), (5, ii ((vm v + vm w : Nat) : Int)), (6, ii (q : Int)), (7, ii (vc v : Int)), (8, ii ((vq v : Nat) : Int)), (9, ii (k : Int))]) (S' := [ii ((vq v : Nat) : Int), ii (k : Int), ii ((b : Int) + (k : Int)), .ref (102 + 1)]) dm_X12_joined_279 rfl rfl rfl rfl ?_
                        refine y_2ge (a := (k : Int)) (b := ((vq v : Nat) : Int)) (t := 294) (pc' := 284) dm_X12_joined_281 rfl rfl (by omega) (fun hb10 => ?_) (fun hb10 => ?_)
                        · refine me1 (pc' := 295) (L' := [(0, .ref 102), (1, ii (hd : Int)), (2, ii (hd2 : Int)), (3, ii place), (4, ii ((srtO v : Nat) : Int)), (5, ii ((vm v + vm w : Nat) : Int)), (6, ii (q : Int)), (7, ii (vc v : Int)), (8, ii ((vq v : Nat) : Int)), (9, ii (k : Int))]) (S' := [.ref 102, ii ((b : Int) + (k : Int)), .ref (102 + 1)]) dm_X12_joined_294 rfl rfl rfl rfl ?_
                          refine me1 (pc' := 296) (L' := [(0, .ref 102), (1, ii (hd : Int)), (2, ii (hd2 : Int)), (3, ii place), (4, ii ((srtO v : Nat) : Int)), (5, ii ((vm v + vm w : Nat) : Int)), (6, ii (q : Int)), (7, ii (vc v : Int)), (8, ii ((vq v : Nat) : Int)), (9, ii (k : Int))]) (S' := [ii (hd2 : Int), .ref 102, ii ((b : Int) + (k : Int)), .ref (102 + 1)]) dm_X12_joined_295 rfl rfl rfl rfl ?_
                          refine me1 (pc' := 298) (L' := [(0, .ref 102), (1, ii (hd : Int)), (2, ii (hd2 : Int)), (3, ii place), (4, ii ((srtO v : Nat) : Int)), (5, ii ((vm v + vm w : Nat) : Int)), (6, ii (q : Int)), (7, ii (vc v : Int)), (8, ii ((vq v : Nat) : Int)), (9, ii (k : Int))]) (S' := [ii (k : Int), ii (hd2 : Int), .ref 102, ii ((b : Int) + (k : Int)), .ref (102 + 1)]) dm_X12_joined_296 rfl rfl rfl rfl ?_
                          refine me1 (pc' := 300) (L' := [(0, .ref 102), (1, ii (hd : Int)), (2, ii (hd2 : Int)), (3, ii place), (4, ii ((srtO v : Nat) : Int)), (5, ii ((vm v + vm w : Nat) : Int)), (6, ii (q : Int)), (7, ii (vc v : Int)), (8, ii ((vq v : Nat) : Int)), (9, ii (k : Int))]) (S' := [ii ((vq v : Nat) : Int), ii (k : Int), ii (hd2 : Int), .ref 102, ii ((b : Int) + (k : Int)), .ref (102 + 1)]) dm_X12_joined_298 rfl rfl rfl rfl ?_
                          refine y_isub (a := (k : Int)) (b := ((vq v : Nat) : Int)) dm_X12_joined_300 (pc' := 301) rfl ?_
                          refine pg_st (S' := [ii ((k - vq v : Nat) : Int), ii (hd2 : Int), .ref 102, ii ((b : Int) + (k : Int)), .ref (102 + 1)]) (congrArg (fun z => ii z :: [ii (hd2 : Int), .ref 102, ii ((b : Int) + (k : Int)), .ref (102 + 1)]) (by omega)) ?_
                          refine x_cp (pc' := 304) (v := .long (vn w (k - vq v))) (rest := [ii ((b : Int) + (k : Int)), .ref (102 + 1)]) dm_X12_joined_301 rfl (q_inv (As := [ii (hd2 : Int), ii ((k - vq v : Nat) : Int)]) (S := [ii ((b : Int) + (k : Int)), .ref (102 + 1)]) hm rfl rfl rfl) rfl rfl rfl (r_number_ (k := k - vq v) hm (by omega) hBT (hwT _ _) (by omega) (by omega)) ?_
                          refine pg_st (S' := [.long (jnF v w k), ii ((b : Int) + (k : Int)), .ref (102 + 1)]) (congrArg (fun z => Value.long z :: [ii ((b : Int) + (k : Int)), .ref (102 + 1)]) ((jnF_r (by omega)).symm)) ?_
                          refine me3 (pc' := 305) (S' := []) (h1 := rI pre post ((fillS (tabS s q b ((vm v + vm w : Nat) : Int) (vc v : Int)) b k (jnF v w)).1) ((fillS (tabS s q b ((vm v + vm w : Nat) : Int) (vc v : Int)) b k (jnF v w)).2.1) ((fillS (tabS s q b ((vm v + vm w : Nat) : Int) (vc v : Int)) b k (jnF v w)).2.2.1) (va_up ((fillS (tabS s q b ((vm v + vm w : Nat) : Int) (vc v : Int)) b k (jnF v w)).2.2.2) 0 (va_up (((fillS (tabS s q b ((vm v + vm w : Nat) : Int) (vc v : Int)) b k (jnF v w)).2.2.2) 0) (b + k) (jnF v w k)))) dm_X12_joined_304 (q_last (j := (b : Int) + (k : Int)) (k := 0) (n := 820000) hm (fun m i l I J => rc_0 m i l I J) (fun m i l I J f => rs_0 m i l I J f) (by omega) (by omega) (by decide)) rfl rfl rfl ?_
                          refine y_iinc (pc' := 308) (L' := [(9, ii ((k : Int) + 1)), (0, .ref 102), (1, ii (hd : Int)), (2, ii (hd2 : Int)), (3, ii place), (4, ii ((srtO v : Nat) : Int)), (5, ii ((vm v + vm w : Nat) : Int)), (6, ii (q : Int)), (7, ii (vc v : Int)), (8, ii ((vq v : Nat) : Int))]) dm_X12_joined_305 (y_incp (a := (k : Int)) (c := 1) rfl rfl (by decide)) rfl ?_
                          refine me2 (pc' := 253) (S' := []) dm_X12_joined_308 rfl rfl rfl ?_
                          refine pg_cast (h2 := rI pre post ((fillS (tabS s q b ((vm v + vm w : Nat) : Int) (vc v : Int)) b (k + 1) (jnF v w)).1) ((fillS (tabS s q b ((vm v + vm w : Nat) : Int) (vc v : Int)) b (k + 1) (jnF v w)).2.1) ((fillS (tabS s q b ((vm v + vm w : Nat) : Int) (vc v : Int)) b (k + 1) (jnF v w)).2.2.1) ((fillS (tabS s q b ((vm v + vm w : Nat) : Int) (vc v : Int)) b (k + 1) (jnF v w)).2.2.2)) (fill_s (tabS s q b ((vm v + vm w : Nat) : Int) (vc v : Int)) b k (jnF v w)) ?_
                          exact pg_sub (L := [(0, .ref 102), (1, ii (hd : Int)), (2, ii (hd2 : Int)), (3, ii place), (4, ii ((srtO v : Nat) : Int)), (5, ii ((vm v + vm w : Nat) : Int)), (6, ii (q : Int)), (7, ii (vc v : Int)), (8, ii ((vq v : Nat) : Int)), (9, ii ((k + 1) : Int))]) rfl rfl rfl (ih253 ((vm v + vm w) * vc v - (k + 1)) (by omega) (k + 1) rfl (by omega))
                        · refine me1 (pc' := 285) (L' := [(0, .ref 102), (1, ii (hd : Int)), (2, ii (hd2 : Int)), (3, ii place), (4, ii ((srtO v : Nat) : Int)), (5, ii ((vm v + vm w : Nat) : Int)), (6, ii (q : Int)), (7, ii (vc v : Int)), (8, ii ((vq v : Nat) : Int)), (9, ii (k : Int))]) (S' := [.ref 102, ii ((b : Int) + (k : Int)), .ref (102 + 1)]) dm_X12_joined_284 rfl rfl rfl rfl ?_
                          refine me1 (pc' := 286) (L' := [(0, .ref 102), (1, ii (hd : Int)), (2, ii (hd2 : Int)), (3, ii place), (4, ii ((srtO v : Nat) : Int)), (5, ii ((vm v + vm w : Nat) : Int)), (6, ii (q : Int)), (7, ii (vc v : Int)), (8, ii ((vq v : Nat) : Int)), (9, ii (k : Int))]) (S' := [ii (hd : Int), .ref 102, ii ((b : Int) + (k : Int)), .ref (102 + 1)]) dm_X12_joined_285 rfl rfl rfl rfl ?_
                          refine me1 (pc' := 288) (L' := [(0, .ref 102), (1, ii (hd : Int)), (2, ii (hd2 : Int)), (3, ii place), (4, ii ((srtO v : Nat) : Int)), (5, ii ((vm v + vm w : Nat) : Int)), (6, ii (q : Int)), (7, ii (vc v : Int)), (8, ii ((vq v : Nat) : Int)), (9, ii (k : Int))]) (S' := [ii (k : Int), ii (hd : Int), .ref 102, ii ((b : Int) + (k : Int)), .ref (102 + 1)]) dm_X12_joined_286 rfl rfl rfl rfl ?_
                          refine x_cp (pc' := 291) (v := .long (vn v k)) (rest := [ii ((b : Int) + (k : Int)), .ref (102 + 1)]) dm_X12_joined_288 rfl (q_inv (As := [ii (hd : Int), ii (k : Int)]) (S := [ii ((b : Int) + (k : Int)), .ref (102 + 1)]) hm rfl rfl rfl) rfl rfl rfl (r_number_ (k := k) hm (by omega) hBT (hvT _ _) (by omega) (by omega)) ?_
                          refine me2 (pc' := 304) (S' := [.long (vn v k), ii ((b : Int) + (k : Int)), .ref (102 + 1)]) dm_X12_joined_291 rfl rfl rfl ?_
                          refine pg_st (S' := [.long (jnF v w k), ii ((b : Int) + (k : Int)), .ref (102 + 1)]) (congrArg (fun z => Value.long z :: [ii ((b : Int) + (k : Int)), .ref (102 + 1)]) ((jnF_l (by omega)).symm)) ?_
                          refine me3 (pc' := 305) (S' := []) (h1 := rI pre post ((fillS (tabS s q b ((vm v + vm w : Nat) : Int) (vc v : Int)) b k (jnF v w)).1) ((fillS (tabS s q b ((vm v + vm w : Nat) : Int) (vc v : Int)) b k (jnF v w)).2.1) ((fillS (tabS s q b ((vm v + vm w : Nat) : Int) (vc v : Int)) b k (jnF v w)).2.2.1) (va_up ((fillS (tabS s q b ((vm v + vm w : Nat) : Int) (vc v : Int)) b k (jnF v w)).2.2.2) 0 (va_up (((fillS (tabS s q b ((vm v + vm w : Nat) : Int) (vc v : Int)) b k (jnF v w)).2.2.2) 0) (b + k) (jnF v w k)))) dm_X12_joined_304 (q_last (j := (b : Int) + (k : Int)) (k := 0) (n := 820000) hm (fun m i l I J => rc_0 m i l I J) (fun m i l I J f => rs_0 m i l I J f) (by omega) (by omega) (by decide)) rfl rfl rfl ?_
                          refine y_iinc (pc' := 308) (L' := [(9, ii ((k : Int) + 1)), (0, .ref 102), (1, ii (hd : Int)), (2, ii (hd2 : Int)), (3, ii place), (4, ii ((srtO v : Nat) : Int)), (5, ii ((vm v + vm w : Nat) : Int)), (6, ii (q : Int)), (7, ii (vc v : Int)), (8, ii ((vq v : Nat) : Int))]) dm_X12_joined_305 (y_incp (a := (k : Int)) (c := 1) rfl rfl (by decide)) rfl ?_
                          refine me2 (pc' := 253) (S' := []) dm_X12_joined_308 rfl rfl rfl ?_
                          refine pg_cast (h2 := rI pre post ((fillS (tabS s q b ((vm v + vm w : Nat) : Int) (vc v : Int)) b (k + 1) (jnF v w)).1) ((fillS (tabS s q b ((vm v + vm w : Nat) : Int) (vc v : Int)) b (k + 1) (jnF v w)).2.1) ((fillS (tabS s q b ((vm v + vm w : Nat) : Int) (vc v : Int)) b (k + 1) (jnF v w)).2.2.1) ((fillS (tabS s q b ((vm v + vm w : Nat) : Int) (vc v : Int)) b (k + 1) (jnF v w)).2.2.2)) (fill_s (tabS s q b ((vm v + vm w : Nat) : Int) (vc v : Int)) b k (jnF v w)) ?_
                          exact pg_sub (L := [(0, .ref 102), (1, ii (hd : Int)), (2, ii (hd2 : Int)), (3, ii place), (4, ii ((srtO v : Nat) : Int)), (5, ii ((vm v + vm w : Nat) : Int)), (6, ii (q : Int)), (7, ii (vc v : Int)), (8, ii ((vq v : Nat) : Int)), (9, ii ((k + 1) : Int))]) rfl rfl rfl (ih253 ((vm v + vm w) * vc v - (k + 1)) (by omega) (k + 1) rfl (by omega))
                  refine pg_cast (h2 := rI pre post ((fillS (tabS s q b ((vm v + vm w : Nat) : Int) (vc v : Int)) b 0 (jnF v w)).1) ((fillS (tabS s q b ((vm v + vm w : Nat) : Int) (vc v : Int)) b 0 (jnF v w)).2.1) ((fillS (tabS s q b ((vm v + vm w : Nat) : Int) (vc v : Int)) b 0 (jnF v w)).2.2.1) ((fillS (tabS s q b ((vm v + vm w : Nat) : Int) (vc v : Int)) b 0 (jnF v w)).2.2.2)) (fill_0 (tabS s q b ((vm v + vm w : Nat) : Int) (vc v : Int)) b (jnF v w)) ?_
                  exact pg_sub (L := [(0, .ref 102), (1, ii (hd : Int)), (2, ii (hd2 : Int)), (3, ii place), (4, ii ((srtO v : Nat) : Int)), (5, ii ((vm v + vm w : Nat) : Int)), (6, ii (q : Int)), (7, ii (vc v : Int)), (8, ii ((vq v : Nat) : Int)), (9, ii (0 : Int))]) rfl rfl rfl (lp253 _ 0 rfl (Nat.zero_le _))
            · refine me1 (pc' := 155) (L' := [(5, ii ((vm v + vm w : Nat) : Int)), (4, ii ((srtO v : Nat) : Int)), (0, .ref 102), (1, ii (hd : Int)), (2, ii (hd2 : Int)), (3, ii place)]) (S' := [.ref 102]) dm_X12_joined_154 rfl rfl rfl rfl ?_
              refine me0 (pc' := 157) (S' := [ii 8, .ref 102]) dm_X12_joined_155 rfl rfl rfl rfl ?_
              refine me1 (pc' := 158) (L' := [(5, ii ((vm v + vm w : Nat) : Int)), (4, ii ((srtO v : Nat) : Int)), (0, .ref 102), (1, ii (hd : Int)), (2, ii (hd2 : Int)), (3, ii place)]) (S' := [ii place, ii 8, .ref 102]) dm_X12_joined_157 rfl rfl rfl rfl ?_
              refine x_cv (pc' := 161) (rest := []) dm_X12_joined_158 rfl (q_inv (As := [ii 8, ii place]) (S := []) hm rfl rfl rfl) rfl rfl rfl (r_fail_ (s := s) hm (by omega) he0 hca.1 hca.2) ?_
              rintro _ _ ⟨rfl, rfl⟩
              refine y_ret (r := some (ii (-1))) dm_X12_joined_161 rfl rfl rfl ?_
              rw [show d_join v w = .inl 8 by unfold d_join; rw [if_neg (show ¬ jflat v w by unfold jflat ofN ofS; omega), if_pos (by omega), if_pos (by omega)]]
              exact ⟨_, rfl, rres_fail (rpre_rf s) he0⟩
        · exfalso; omega
