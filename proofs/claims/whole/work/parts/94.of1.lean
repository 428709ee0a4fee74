def vbo (vb : Int) : Int := if vb = 37 then 119 else vb
def s_one (vb : Int) (e : Nat) (v : VV) : Nat ⊕ VV := if vb = 43 then m_flip v else if vb = 45 ∨ vb = 37 ∨ vb = 126 then d_pair (vbo vb) (e + 1) (v1 0 0) v else if vb = 42 then (if vm v = 0 then .inl 4 else .inr (vit v 0)) else if vb = 38 then m_where v else if vb = 124 then m_turn v else if vb = 60 ∨ vb = 62 ∨ vb = 94 then m_sort vb v else if vb = 61 then m_grp v else if vb = 63 then m_unl (e + 1) v else if vb = 33 then m_upto v else if vb = 44 then m_more v else if vb = 46 then m_told v else if vb = 35 then .inr (v1 0 (Int64.ofInt (vm v : Int))) else if vb = 95 then m_shape v else if vb = 64 then .inr (v1 0 (Int64.ofInt (vk v : Int))) else if vb = 36 then m_text (e + 1) v else .inl 1
def oneA (vb : Int) (e : Nat) (v : VV) : Nat := if vb = 43 then (if vk v = 6 then 2 else 0) else if vb = 45 ∨ vb = 37 ∨ vb = 126 then pcA (d_pair (vbo vb) (e + 1) (v1 0 0) v) (prA (e + 1) (v1 0 0) v) else if vb = 42 then 1 else if vb = 38 then 2 else if vb = 124 then 2 else if vb = 60 ∨ vb = 62 ∨ vb = 94 then 2 else if vb = 61 then grN v + 3 else if vb = 63 then m_unla (e + 1) v else if vb = 33 then 2 else if vb = 44 then 2 else if vb = 46 then 2 else if vb = 35 then 1 else if vb = 95 then 2 else if vb = 64 then 1 else if vb = 36 then 2 else 1
def oneB (vb : Int) (e : Nat) (v : VV) : Nat := if vb = 43 then (if vk v = 6 then vq v + 9 else 0) else if vb = 45 ∨ vb = 37 ∨ vb = 126 then pcB (d_pair (vbo vb) (e + 1) (v1 0 0) v) (prB (e + 1) (v1 0 0) v) else if vb = 42 then 9 else if vb = 38 then rsl (m_where v) else if vb = 124 then pcl v (vm v) + 9 else if vb = 60 ∨ vb = 62 ∨ vb = 94 then vm v + 9 else if vb = 61 then vm v + 10 * grN v + 9 else if vb = 63 then m_unlb (e + 1) v else if vb = 33 then min 120 (vn v 0).toInt.toNat + 9 else if vb = 44 then 10 else if vb = 46 then rsl (m_told v) else if vb = 35 then 9 else if vb = 95 then 11 else if vb = 64 then 9 else if vb = 36 then rsl (m_text (e + 1) v) else 9
set_option maxRecDepth 20000 in
theorem pm_X3_of : mj_mmof pg_ms 82 = some ((⟨"ArrayCalculator$OneAct", "of", "(ILArrayCalculator$Value;)LArrayCalculator$Value;"⟩, prog_5_method_2_code, 3, (Option.some (Jvm.ClassFile.FieldType.object "ArrayCalculator$Value"))), 3, false, mj_dec prog_5_method_2_code) := rfl
theorem dm_X3_of_0 : mj_dec prog_5_method_2_code 0 = some (.iload_n 1, 1) := by decide +kernel
theorem dm_X3_of_1 : mj_dec prog_5_method_2_code 1 = some (.lookupswitch 346 #[(33, 300), (35, 317), (36, 340), (37, 181), (38, 269), (42, 249), (43, 163), (44, 305), (45, 181), (46, 311), (60, 281), (61, 288), (62, 281), (63, 294), (64, 331), (94, 281), (95, 326), (124, 275), (126, 181)], 163) := by decide +kernel
theorem dm_X3_of_164 : mj_dec prog_5_method_2_code 164 = some (.aload_n 2, 1) := by decide +kernel
theorem dm_X3_of_165 : mj_dec prog_5_method_2_code 165 = some (.getfield 45, 3) := by decide +kernel
theorem dm_X3_of_168 : mj_dec prog_5_method_2_code 168 = some (.bipush 6, 2) := by decide +kernel
theorem dm_X3_of_170 : mj_dec prog_5_method_2_code 170 = some (.if_icmp .ne 10, 3) := by decide +kernel
theorem dm_X3_of_173 : mj_dec prog_5_method_2_code 173 = some (.aload_n 2, 1) := by decide +kernel
theorem dm_X3_of_174 : mj_dec prog_5_method_2_code 174 = some (.invokestatic 49, 3) := by decide +kernel
theorem dm_X3_of_177 : mj_dec prog_5_method_2_code 177 = some (.goto 4, 3) := by decide +kernel
theorem dm_X3_of_180 : mj_dec prog_5_method_2_code 180 = some (.aload_n 2, 1) := by decide +kernel
theorem dm_X3_of_181 : mj_dec prog_5_method_2_code 181 = some (.areturn, 1) := by decide +kernel
theorem dm_X3_of_182 : mj_dec prog_5_method_2_code 182 = some (.aload_n 0, 1) := by decide +kernel
theorem dm_X3_of_183 : mj_dec prog_5_method_2_code 183 = some (.getfield 31, 3) := by decide +kernel
theorem dm_X3_of_186 : mj_dec prog_5_method_2_code 186 = some (.iload_n 1, 1) := by decide +kernel
theorem dm_X3_of_187 : mj_dec prog_5_method_2_code 187 = some (.bipush 37, 2) := by decide +kernel
theorem dm_X3_of_189 : mj_dec prog_5_method_2_code 189 = some (.if_icmp .ne 8, 3) := by decide +kernel
theorem dm_X3_of_192 : mj_dec prog_5_method_2_code 192 = some (.bipush 119, 2) := by decide +kernel
theorem dm_X3_of_194 : mj_dec prog_5_method_2_code 194 = some (.goto 4, 3) := by decide +kernel
theorem dm_X3_of_197 : mj_dec prog_5_method_2_code 197 = some (.iload_n 1, 1) := by decide +kernel
theorem dm_X3_of_198 : mj_dec prog_5_method_2_code 198 = some (.invokevirtual 53, 3) := by decide +kernel
theorem dm_X3_of_201 : mj_dec prog_5_method_2_code 201 = some (.aload_n 0, 1) := by decide +kernel
theorem dm_X3_of_202 : mj_dec prog_5_method_2_code 202 = some (.getfield 31, 3) := by decide +kernel
theorem dm_X3_of_205 : mj_dec prog_5_method_2_code 205 = some (.aload_n 0, 1) := by decide +kernel
theorem dm_X3_of_206 : mj_dec prog_5_method_2_code 206 = some (.getfield 41, 3) := by decide +kernel
theorem dm_X3_of_209 : mj_dec prog_5_method_2_code 209 = some (.aload_n 2, 1) := by decide +kernel
theorem dm_X3_of_210 : mj_dec prog_5_method_2_code 210 = some (.iconst 0, 1) := by decide +kernel
theorem dm_X3_of_211 : mj_dec prog_5_method_2_code 211 = some (.invokevirtual 56, 3) := by decide +kernel
theorem dm_X3_of_214 : mj_dec prog_5_method_2_code 214 = some (.aload_n 0, 1) := by decide +kernel
theorem dm_X3_of_215 : mj_dec prog_5_method_2_code 215 = some (.getfield 31, 3) := by decide +kernel
theorem dm_X3_of_218 : mj_dec prog_5_method_2_code 218 = some (.invokevirtual 60, 3) := by decide +kernel
theorem dm_X3_of_221 : mj_dec prog_5_method_2_code 221 = some (.ifCond .eq 16, 3) := by decide +kernel
theorem dm_X3_of_224 : mj_dec prog_5_method_2_code 224 = some (.aload_n 0, 1) := by decide +kernel
theorem dm_X3_of_225 : mj_dec prog_5_method_2_code 225 = some (.getfield 31, 3) := by decide +kernel
theorem dm_X3_of_228 : mj_dec prog_5_method_2_code 228 = some (.invokevirtual 64, 3) := by decide +kernel
theorem dm_X3_of_231 : mj_dec prog_5_method_2_code 231 = some (.invokestatic 68, 3) := by decide +kernel
theorem dm_X3_of_234 : mj_dec prog_5_method_2_code 234 = some (.goto 15, 3) := by decide +kernel
theorem dm_X3_of_237 : mj_dec prog_5_method_2_code 237 = some (.aload_n 0, 1) := by decide +kernel
theorem dm_X3_of_238 : mj_dec prog_5_method_2_code 238 = some (.getfield 31, 3) := by decide +kernel
theorem dm_X3_of_241 : mj_dec prog_5_method_2_code 241 = some (.aload_n 0, 1) := by decide +kernel
theorem dm_X3_of_242 : mj_dec prog_5_method_2_code 242 = some (.getfield 41, 3) := by decide +kernel
theorem dm_X3_of_245 : mj_dec prog_5_method_2_code 245 = some (.aload_n 2, 1) := by decide +kernel
theorem dm_X3_of_246 : mj_dec prog_5_method_2_code 246 = some (.invokevirtual 72, 3) := by decide +kernel
theorem dm_X3_of_249 : mj_dec prog_5_method_2_code 249 = some (.areturn, 1) := by decide +kernel
theorem dm_X3_of_250 : mj_dec prog_5_method_2_code 250 = some (.aload_n 2, 1) := by decide +kernel
theorem dm_X3_of_251 : mj_dec prog_5_method_2_code 251 = some (.getfield 76, 3) := by decide +kernel
theorem dm_X3_of_254 : mj_dec prog_5_method_2_code 254 = some (.ifCond .ne 10, 3) := by decide +kernel
theorem dm_X3_of_257 : mj_dec prog_5_method_2_code 257 = some (.iconst 4, 1) := by decide +kernel
theorem dm_X3_of_258 : mj_dec prog_5_method_2_code 258 = some (.invokestatic 68, 3) := by decide +kernel
theorem dm_X3_of_261 : mj_dec prog_5_method_2_code 261 = some (.goto 8, 3) := by decide +kernel
theorem dm_X3_of_264 : mj_dec prog_5_method_2_code 264 = some (.aload_n 2, 1) := by decide +kernel
theorem dm_X3_of_265 : mj_dec prog_5_method_2_code 265 = some (.iconst 0, 1) := by decide +kernel
theorem dm_X3_of_266 : mj_dec prog_5_method_2_code 266 = some (.invokevirtual 79, 3) := by decide +kernel
theorem dm_X3_of_269 : mj_dec prog_5_method_2_code 269 = some (.areturn, 1) := by decide +kernel
theorem dm_X3_of_270 : mj_dec prog_5_method_2_code 270 = some (.aload_n 0, 1) := by decide +kernel
theorem dm_X3_of_271 : mj_dec prog_5_method_2_code 271 = some (.aload_n 2, 1) := by decide +kernel
theorem dm_X3_of_272 : mj_dec prog_5_method_2_code 272 = some (.invokevirtual 82, 3) := by decide +kernel
theorem dm_X3_of_275 : mj_dec prog_5_method_2_code 275 = some (.areturn, 1) := by decide +kernel
theorem dm_X3_of_276 : mj_dec prog_5_method_2_code 276 = some (.aload_n 0, 1) := by decide +kernel
theorem dm_X3_of_277 : mj_dec prog_5_method_2_code 277 = some (.aload_n 2, 1) := by decide +kernel
theorem dm_X3_of_278 : mj_dec prog_5_method_2_code 278 = some (.invokevirtual 85, 3) := by decide +kernel
theorem dm_X3_of_281 : mj_dec prog_5_method_2_code 281 = some (.areturn, 1) := by decide +kernel
theorem dm_X3_of_282 : mj_dec prog_5_method_2_code 282 = some (.aload_n 0, 1) := by decide +kernel
theorem dm_X3_of_283 : mj_dec prog_5_method_2_code 283 = some (.iload_n 1, 1) := by decide +kernel
theorem dm_X3_of_284 : mj_dec prog_5_method_2_code 284 = some (.aload_n 2, 1) := by decide +kernel
theorem dm_X3_of_285 : mj_dec prog_5_method_2_code 285 = some (.invokevirtual 88, 3) := by decide +kernel
theorem dm_X3_of_288 : mj_dec prog_5_method_2_code 288 = some (.areturn, 1) := by decide +kernel
theorem dm_X3_of_289 : mj_dec prog_5_method_2_code 289 = some (.aload_n 0, 1) := by decide +kernel
theorem dm_X3_of_290 : mj_dec prog_5_method_2_code 290 = some (.aload_n 2, 1) := by decide +kernel
theorem dm_X3_of_291 : mj_dec prog_5_method_2_code 291 = some (.invokevirtual 92, 3) := by decide +kernel
theorem dm_X3_of_294 : mj_dec prog_5_method_2_code 294 = some (.areturn, 1) := by decide +kernel
theorem dm_X3_of_295 : mj_dec prog_5_method_2_code 295 = some (.aload_n 0, 1) := by decide +kernel
theorem dm_X3_of_296 : mj_dec prog_5_method_2_code 296 = some (.aload_n 2, 1) := by decide +kernel
theorem dm_X3_of_297 : mj_dec prog_5_method_2_code 297 = some (.invokevirtual 95, 3) := by decide +kernel
theorem dm_X3_of_300 : mj_dec prog_5_method_2_code 300 = some (.areturn, 1) := by decide +kernel
theorem dm_X3_of_301 : mj_dec prog_5_method_2_code 301 = some (.aload_n 2, 1) := by decide +kernel
theorem dm_X3_of_302 : mj_dec prog_5_method_2_code 302 = some (.invokestatic 98, 3) := by decide +kernel
theorem dm_X3_of_305 : mj_dec prog_5_method_2_code 305 = some (.areturn, 1) := by decide +kernel
theorem dm_X3_of_306 : mj_dec prog_5_method_2_code 306 = some (.aload_n 0, 1) := by decide +kernel
theorem dm_X3_of_307 : mj_dec prog_5_method_2_code 307 = some (.aload_n 2, 1) := by decide +kernel
theorem dm_X3_of_308 : mj_dec prog_5_method_2_code 308 = some (.invokevirtual 101, 3) := by decide +kernel
theorem dm_X3_of_311 : mj_dec prog_5_method_2_code 311 = some (.areturn, 1) := by decide +kernel
theorem dm_X3_of_312 : mj_dec prog_5_method_2_code 312 = some (.aload_n 0, 1) := by decide +kernel
theorem dm_X3_of_313 : mj_dec prog_5_method_2_code 313 = some (.aload_n 2, 1) := by decide +kernel
theorem dm_X3_of_314 : mj_dec prog_5_method_2_code 314 = some (.invokevirtual 104, 3) := by decide +kernel
theorem dm_X3_of_317 : mj_dec prog_5_method_2_code 317 = some (.areturn, 1) := by decide +kernel
theorem dm_X3_of_318 : mj_dec prog_5_method_2_code 318 = some (.aload_n 2, 1) := by decide +kernel
theorem dm_X3_of_319 : mj_dec prog_5_method_2_code 319 = some (.getfield 76, 3) := by decide +kernel
theorem dm_X3_of_322 : mj_dec prog_5_method_2_code 322 = some (.i2l, 1) := by decide +kernel
theorem dm_X3_of_323 : mj_dec prog_5_method_2_code 323 = some (.invokestatic 35, 3) := by decide +kernel
theorem dm_X3_of_326 : mj_dec prog_5_method_2_code 326 = some (.areturn, 1) := by decide +kernel
theorem dm_X3_of_327 : mj_dec prog_5_method_2_code 327 = some (.aload_n 2, 1) := by decide +kernel
theorem dm_X3_of_328 : mj_dec prog_5_method_2_code 328 = some (.invokestatic 107, 3) := by decide +kernel
theorem dm_X3_of_331 : mj_dec prog_5_method_2_code 331 = some (.areturn, 1) := by decide +kernel
theorem dm_X3_of_332 : mj_dec prog_5_method_2_code 332 = some (.aload_n 2, 1) := by decide +kernel
theorem dm_X3_of_333 : mj_dec prog_5_method_2_code 333 = some (.getfield 45, 3) := by decide +kernel
theorem dm_X3_of_336 : mj_dec prog_5_method_2_code 336 = some (.i2l, 1) := by decide +kernel
theorem dm_X3_of_337 : mj_dec prog_5_method_2_code 337 = some (.invokestatic 35, 3) := by decide +kernel
theorem dm_X3_of_340 : mj_dec prog_5_method_2_code 340 = some (.areturn, 1) := by decide +kernel
theorem dm_X3_of_341 : mj_dec prog_5_method_2_code 341 = some (.aload_n 0, 1) := by decide +kernel
theorem dm_X3_of_342 : mj_dec prog_5_method_2_code 342 = some (.aload_n 2, 1) := by decide +kernel
theorem dm_X3_of_343 : mj_dec prog_5_method_2_code 343 = some (.invokevirtual 110, 3) := by decide +kernel
theorem dm_X3_of_346 : mj_dec prog_5_method_2_code 346 = some (.areturn, 1) := by decide +kernel
theorem dm_X3_of_347 : mj_dec prog_5_method_2_code 347 = some (.iconst 1, 1) := by decide +kernel
theorem dm_X3_of_348 : mj_dec prog_5_method_2_code 348 = some (.invokestatic 68, 3) := by decide +kernel
theorem dm_X3_of_351 : mj_dec prog_5_method_2_code 351 = some (.areturn, 1) := by decide +kernel
theorem o_of {xt : mj_X} {d e p : Nat} {A : Nat → Prop} {h : mj_H} {v : VV} {f1 : Nat → Value} (hx1 : xt 1 = some (.long, 0, f1)) (hd : 8 * e + 32 ≤ d) (hl : 127 ≤ h.length) (hA : okA A h) (hH : actH h) (hv : cv A h (e + 1) p v) (he : e ≤ 18) (hset : vsz (e + 1) v ≤ 1000) (hz : cv A h 1 25 (v1 0 0)) {verb : Int} (hverbr : -2147483648 ≤ verb ∧ verb ≤ 2147483647) : pgV xt d 82 [.ref 17, ii verb, .ref p] h (aact A h (e + 2) (s_one verb e v) (oneA verb e v) (oneB verb e v)) := by
  have h17 := hH.1
  obtain ⟨pf0, h18⟩ := hH.2.1
  obtain ⟨nf0, h19⟩ := hH.2.2.1
  have hcv := vw1_c hv.1
  obtain ⟨row, fr, vals, hp, hp2, hpA, hvk, hvm, hvc, hvs, hvl⟩ := cv_val hv
  have hpb := hA p hpA
  obtain ⟨a27, b27, c27, d27, e27, f27, g27, ro0, va0, i27, j27, ho0⟩ := hH.2.2.2.2.2.2.1
  obtain ⟨N0, hnq0⟩ := hH.2.2.2.2.2.2.2.1
  have hz1 : cv A h (e + 1) 25 (v1 0 0) := cv_any hz (by show 0 ≠ 7; omega)
  have hz9 : vsz (e + 1) (v1 0 0) ≤ 1000 := by rw [vsz_1 (by show 0 ≤ 1; omega)]; omega
  have hvbo : -2147483648 ≤ vbo verb ∧ vbo verb ≤ 2147483647 := by unfold vbo; split <;> omega
  refine x_enter pm_X3_of (L0 := [(0, .ref 17), (1, ii verb), (2, .ref p)]) rfl (Nat.le_of_ble_eq_true rfl) (by omega) ?_
  refine me1 (pc' := 1) (L' := [(0, .ref 17), (1, ii verb), (2, .ref p)]) (S' := [ii verb]) dm_X3_of_0 rfl rfl rfl rfl ?_
  refine y_sw (a := verb) (33) (t := 301) (i := .lookupswitch 346 #[(33, 300), (35, 317), (36, 340), (37, 181), (38, 269), (42, 249), (43, 163), (44, 305), (45, 181), (46, 311), (60, 281), (61, 288), (62, 281), (63, 294), (64, 331), (94, 281), (95, 326), (124, 275), (126, 181)]) (len := 163) dm_X3_of_1 rfl rfl rfl (by omega) (by decide) (fun hb1 => ?_) (fun hb1 => ?_)
  · have hspec : s_one verb e v = m_upto v := by unfold s_one; rw [if_neg (by omega), if_neg (by omega), if_neg (by omega), if_neg (by omega), if_neg (by omega), if_neg (by omega), if_neg (by omega), if_neg (by omega), if_pos (by omega)]
    have hspA : oneA verb e v = 2 := by unfold oneA; rw [if_neg (by omega), if_neg (by omega), if_neg (by omega), if_neg (by omega), if_neg (by omega), if_neg (by omega), if_neg (by omega), if_neg (by omega), if_pos (by omega)]
    have hspB : oneB verb e v = min 120 (vn v 0).toInt.toNat + 9 := by unfold oneB; rw [if_neg (by omega), if_neg (by omega), if_neg (by omega), if_neg (by omega), if_neg (by omega), if_neg (by omega), if_neg (by omega), if_neg (by omega), if_pos (by omega)]
    refine me1 (pc' := 302) (L' := [(0, .ref 17), (1, ii verb), (2, .ref p)]) (S' := [.ref p]) dm_X3_of_301 rfl rfl rfl rfl ?_
    refine x_cv (pc' := 305) (rest := []) dm_X3_of_302 rfl (g_invs (As := [.ref p]) (S := []) rfl rfl rfl) rfl rfl rfl (o_placesBelow hx1 (by omega) hl hA hH hv (by omega) hset) ?_
    rintro x h2 hres
    obtain ⟨qz, rfl⟩ := aact_ref hres
    refine y_ret (r := some (.ref qz)) dm_X3_of_305 rfl rfl rfl ?_
    refine ⟨_, rfl, ?_⟩
    rw [hspec, hspA, hspB]
    exact aact_dup hres
  refine y_sw (a := verb) (35) (t := 318) (i := .lookupswitch 346 #[(33, 300), (35, 317), (36, 340), (37, 181), (38, 269), (42, 249), (43, 163), (44, 305), (45, 181), (46, 311), (60, 281), (61, 288), (62, 281), (63, 294), (64, 331), (94, 281), (95, 326), (124, 275), (126, 181)]) (len := 163) dm_X3_of_1 rfl rfl rfl (by omega) (by decide) (fun hb2 => ?_) (fun hb2 => ?_)
  · have hspec : s_one verb e v = .inr (v1 0 (Int64.ofInt (vm v : Int))) := by unfold s_one; rw [if_neg (by omega), if_neg (by omega), if_neg (by omega), if_neg (by omega), if_neg (by omega), if_neg (by omega), if_neg (by omega), if_neg (by omega), if_neg (by omega), if_neg (by omega), if_neg (by omega), if_pos (by omega)]
    have hspA : oneA verb e v = 1 := by unfold oneA; rw [if_neg (by omega), if_neg (by omega), if_neg (by omega), if_neg (by omega), if_neg (by omega), if_neg (by omega), if_neg (by omega), if_neg (by omega), if_neg (by omega), if_neg (by omega), if_neg (by omega), if_pos (by omega)]
    have hspB : oneB verb e v = 9 := by unfold oneB; rw [if_neg (by omega), if_neg (by omega), if_neg (by omega), if_neg (by omega), if_neg (by omega), if_neg (by omega), if_neg (by omega), if_neg (by omega), if_neg (by omega), if_neg (by omega), if_neg (by omega), if_pos (by omega)]
    refine me1 (pc' := 319) (L' := [(0, .ref 17), (1, ii verb), (2, .ref p)]) (S' := [.ref p]) dm_X3_of_318 rfl rfl rfl rfl ?_
    refine me3 (pc' := 322) (S' := [ii (vm v : Int)]) dm_X3_of_319 (g_get (v := ii (vm v : Int)) hp rfl rfl (by omega)) rfl rfl rfl ?_
    refine y_i2l (a := (vm v : Int)) dm_X3_of_322 (pc' := 323) rfl (by omega) (by omega) ?_
    refine x_cv (pc' := 326) (rest := []) dm_X3_of_323 rfl (g_invs (As := [.long (Int64.ofInt (vm v : Int))]) (S := []) rfl rfl rfl) rfl rfl rfl (c_number (q := h.length) (by omega) (by omega) rfl ) ?_
    rintro _ _ ⟨rfl, rfl⟩
    refine y_ret (r := some (.ref h.length)) dm_X3_of_326 rfl rfl rfl ?_
    refine ⟨_, rfl, h, scrS_rf h, hH, ?_⟩
    rw [hspec, hspA, hspB]
    exact vres_one (k := 0) (by omega) (by omega) (by omega) (by omega)
  refine y_sw (a := verb) (36) (t := 341) (i := .lookupswitch 346 #[(33, 300), (35, 317), (36, 340), (37, 181), (38, 269), (42, 249), (43, 163), (44, 305), (45, 181), (46, 311), (60, 281), (61, 288), (62, 281), (63, 294), (64, 331), (94, 281), (95, 326), (124, 275), (126, 181)]) (len := 163) dm_X3_of_1 rfl rfl rfl (by omega) (by decide) (fun hb3 => ?_) (fun hb3 => ?_)
  · have hspec : s_one verb e v = m_text (e + 1) v := by unfold s_one; rw [if_neg (by omega), if_neg (by omega), if_neg (by omega), if_neg (by omega), if_neg (by omega), if_neg (by omega), if_neg (by omega), if_neg (by omega), if_neg (by omega), if_neg (by omega), if_neg (by omega), if_neg (by omega), if_neg (by omega), if_neg (by omega), if_pos (by omega)]
    have hspA : oneA verb e v = 2 := by unfold oneA; rw [if_neg (by omega), if_neg (by omega), if_neg (by omega), if_neg (by omega), if_neg (by omega), if_neg (by omega), if_neg (by omega), if_neg (by omega), if_neg (by omega), if_neg (by omega), if_neg (by omega), if_neg (by omega), if_neg (by omega), if_neg (by omega), if_pos (by omega)]
    have hspB : oneB verb e v = rsl (m_text (e + 1) v) := by unfold oneB; rw [if_neg (by omega), if_neg (by omega), if_neg (by omega), if_neg (by omega), if_neg (by omega), if_neg (by omega), if_neg (by omega), if_neg (by omega), if_neg (by omega), if_neg (by omega), if_neg (by omega), if_neg (by omega), if_neg (by omega), if_neg (by omega), if_pos (by omega)]
    refine me1 (pc' := 342) (L' := [(0, .ref 17), (1, ii verb), (2, .ref p)]) (S' := [.ref 17]) dm_X3_of_341 rfl rfl rfl rfl ?_
    refine me1 (pc' := 343) (L' := [(0, .ref 17), (1, ii verb), (2, .ref p)]) (S' := [.ref p, .ref 17]) dm_X3_of_342 rfl rfl rfl rfl ?_
    refine x_cv (pc' := 346) (rest := []) dm_X3_of_343 rfl (g_inv (As := [.ref p]) (S := []) h17 rfl rfl rfl (by decide)) rfl rfl rfl (o_text hx1 (by omega) hl hA hH hv (by omega) hset) ?_
    rintro x h2 hres
    obtain ⟨qz, rfl⟩ := aact_ref hres
    refine y_ret (r := some (.ref qz)) dm_X3_of_346 rfl rfl rfl ?_
    refine ⟨_, rfl, ?_⟩
    rw [hspec, hspA, hspB]
    exact aact_dup hres
  refine y_sw (a := verb) (37) (t := 182) (i := .lookupswitch 346 #[(33, 300), (35, 317), (36, 340), (37, 181), (38, 269), (42, 249), (43, 163), (44, 305), (45, 181), (46, 311), (60, 281), (61, 288), (62, 281), (63, 294), (64, 331), (94, 281), (95, 326), (124, 275), (126, 181)]) (len := 163) dm_X3_of_1 rfl rfl rfl (by omega) (by decide) (fun hb4 => ?_) (fun hb4 => ?_)
  · have hspec : s_one verb e v = d_pair (vbo verb) (e + 1) (v1 0 0) v := by unfold s_one; rw [if_neg (by omega), if_pos (by omega)]
    have hspA : oneA verb e v = pcA (d_pair (vbo verb) (e + 1) (v1 0 0) v) (prA (e + 1) (v1 0 0) v) := by unfold oneA; rw [if_neg (by omega), if_pos (by omega)]
    have hspB : oneB verb e v = pcB (d_pair (vbo verb) (e + 1) (v1 0 0) v) (prB (e + 1) (v1 0 0) v) := by unfold oneB; rw [if_neg (by omega), if_pos (by omega)]
    refine me1 (pc' := 183) (L' := [(0, .ref 17), (1, ii verb), (2, .ref p)]) (S' := [.ref 17]) dm_X3_of_182 rfl rfl rfl rfl ?_
    refine me3 (pc' := 186) (S' := [.ref 23]) dm_X3_of_183 (g_get (v := .ref 23) h17 rfl rfl (by decide)) rfl rfl rfl ?_
    refine me1 (pc' := 187) (L' := [(0, .ref 17), (1, ii verb), (2, .ref p)]) (S' := [ii verb, .ref 23]) dm_X3_of_186 rfl rfl rfl rfl ?_
    refine me0 (pc' := 189) (S' := [ii 37, ii verb, .ref 23]) dm_X3_of_187 rfl rfl rfl rfl ?_
    refine y_2ne (a := verb) (b := 37) (t := 197) (pc' := 192) dm_X3_of_189 rfl rfl (by omega) (fun hb5 => ?_) (fun hb5 => ?_)
    · refine me1 (pc' := 198) (L' := [(0, .ref 17), (1, ii verb), (2, .ref p)]) (S' := [ii verb, .ref 23]) dm_X3_of_197 rfl rfl rfl rfl ?_
      refine pg_st0 (S' := [ii (vbo verb), .ref 23]) (congrArg (fun z => ii z :: [.ref 23]) (by first | (exfalso; omega) | (unfold vbo; first | rw [if_pos (by omega)] | rw [if_neg (by omega)]))) ?_
      refine x_cn (pc' := 201) (rest := []) dm_X3_of_198 rfl (g_inv (As := [ii (vbo verb)]) (S := []) ho0 rfl rfl rfl (by decide)) rfl rfl rfl (p_ready (by omega) (by decide) ho0) ?_
      rintro _ rfl
      refine me1 (pc' := 202) (L' := [(0, .ref 17), (1, ii verb), (2, .ref p)]) (S' := [.ref 17]) dm_X3_of_201 rfl rfl rfl rfl ?_
      refine me3 (pc' := 205) (S' := [.ref 23]) dm_X3_of_202 (g_get (v := .ref 23) (hl_ne (by decide) h17) rfl rfl (by decide)) rfl rfl rfl ?_
      refine me1 (pc' := 206) (L' := [(0, .ref 17), (1, ii verb), (2, .ref p)]) (S' := [.ref 17, .ref 23]) dm_X3_of_205 rfl rfl rfl rfl ?_
      refine me3 (pc' := 209) (S' := [.ref 25, .ref 23]) dm_X3_of_206 (g_get (v := .ref 25) (hl_ne (by decide) h17) rfl rfl (by decide)) rfl rfl rfl ?_
      refine me1 (pc' := 210) (L' := [(0, .ref 17), (1, ii verb), (2, .ref p)]) (S' := [.ref p, .ref 25, .ref 23]) dm_X3_of_209 rfl rfl rfl rfl ?_
      refine me0 (pc' := 211) (S' := [ii 0, .ref p, .ref 25, .ref 23]) dm_X3_of_210 rfl rfl rfl rfl ?_
      have hAr : okA A ((h).set 23 (cO 5 [ii (vbo verb), ii 0, .ref 24, ii 0, ii 0, ii 0, ii 0, zz false, ro0, va0, ii 0, ii 0])) := fun x hx => by rw [List.length_set]; exact hA x hx
      refine x_cn (pc' := 214) (rest := []) dm_X3_of_211 rfl (g_inv (As := [.ref 25, .ref p, ii 0]) (S := []) (hl_set (hl_lt ho0)) rfl rfl rfl (by decide)) rfl rfl rfl ((show pgN xt (d - 1) _ _ _ _ from p_ask (A := A) (o := 23) (nq := 24) (vb := vbo verb) hx1 (by omega) (by omega) (e + 1) (h := (h).set 23 (cO 5 [ii (vbo verb), ii 0, .ref 24, ii 0, ii 0, ii 0, ii 0, zz false, ro0, va0, ii 0, ii 0])) (m0 := 0) (N0 := N0) (sz := 0) (lv := 0) (ar := 0) (vm_ := 0) (nu := 0) (vu := 0) (rw_ := false) (ro := ro0) (va := va0) (by omega) hAr (cv_set (nA hA (Or.inl (by decide))) hz1) (cv_set (nA hA (Or.inl (by decide))) hv) (hl_set (hl_lt ho0)) (hl_ne (by decide) hnq0) (by omega) (by omega) (by omega) (by omega))) ?_
      rintro _ ⟨m1, N1, fq, sq, lq, uq, rq, rfl, hk1⟩
      rw [List.set_set]
      obtain ⟨hfr9, hsr9⟩ := pair_rng hk1 (cv_wf hz1) (cv_wf hv) hz9 hset (by omega)
      refine me1 (pc' := 215) (L' := [(0, .ref 17), (1, ii verb), (2, .ref p)]) (S' := [.ref 17]) dm_X3_of_214 rfl rfl rfl rfl ?_
      refine me3 (pc' := 218) (S' := [.ref 23]) dm_X3_of_215 (g_get (v := .ref 23) (hl_ne (by decide) (hl_ne (by decide) h17)) rfl rfl (by decide)) rfl rfl rfl ?_
      by_cases hz9 : fq ≠ 0 ∨ 1000 < sq ∨ 5 < lq
      · obtain ⟨hpe, hpe1, hpe2⟩ := pair_err hk1 hz9
        refine x_cv (pc' := 221) (rest := []) dm_X3_of_218 rfl (g_inv (As := []) (S := []) (hl_ne (by decide) (hl_set (hl_lt ho0))) rfl rfl rfl (by decide)) rfl rfl rfl ((show pgV xt (d - 1) _ _ _ (fun x h' => x = ii 1 ∧ h' = ((h).set 23 (cO 5 [ii (vbo verb), ii (fE fq sq lq), .ref 24, ii sq, ii lq, ii ((m1 : Nat) : Int), ii uq, zz rq, ro0, va0, ii 0, ii 0])).set 24 (cJ 1000 N1)) from by have z := p_endsT (xt := xt) (d := d - 1) (o := 23) (nq := 24) (h := ((h).set 23 (cO 5 [ii (vbo verb), ii fq, .ref 24, ii sq, ii lq, ii ((m1 : Nat) : Int), ii uq, zz rq, ro0, va0, ii 0, ii 0])).set 24 (cJ 1000 N1)) (by omega) (by decide) (hl_ne (by decide) (hl_set (hl_lt ho0))) hfr9 hsr9 hz9; rw [setoq (by decide)] at z; exact z)) ?_
        rintro _ _ ⟨rfl, rfl⟩
        refine me_1f (pc' := 224) dm_X3_of_221 rfl (by decide) rfl ?_
        refine me1 (pc' := 225) (L' := [(0, .ref 17), (1, ii verb), (2, .ref p)]) (S' := [.ref 17]) dm_X3_of_224 rfl rfl rfl rfl ?_
        refine me3 (pc' := 228) (S' := [.ref 23]) dm_X3_of_225 (g_get (v := .ref 23) (hl_ne (by decide) (hl_ne (by decide) h17)) rfl rfl (by decide)) rfl rfl rfl ?_
        refine x_cp (pc' := 231) (v := ii (fE fq sq lq)) (rest := []) dm_X3_of_228 rfl (g_inv (As := []) (S := []) (hl_ne (by decide) (hl_set (hl_lt ho0))) rfl rfl rfl (by decide)) rfl rfl rfl (p_error (by omega) (by decide) (hl_ne (by decide) (hl_set (hl_lt ho0)))) ?_
        refine x_cv (pc' := 234) (rest := []) dm_X3_of_231 rfl (g_invs (As := [ii (fE fq sq lq)]) (S := []) rfl rfl rfl) rfl rfl rfl (c_fault (q := h.length) (by omega) (by simp; omega) (by simp) (by omega)) ?_
        rintro _ _ ⟨rfl, rfl⟩
        refine me2 (pc' := 249) (S' := [.ref h.length]) dm_X3_of_234 rfl rfl rfl ?_
        refine y_ret (r := some (.ref h.length)) dm_X3_of_249 rfl rfl rfl ?_
        refine ⟨_, rfl, ((h).set 23 (cO 5 [ii (vbo verb), ii (fE fq sq lq), .ref 24, ii sq, ii lq, ii ((m1 : Nat) : Int), ii uq, zz rq, ro0, va0, ii 0, ii 0])).set 24 (cJ 1000 N1), scrS_tr (scrS_set (e' := cO 5 [ii (vbo verb), ii (fE fq sq lq), .ref 24, ii sq, ii lq, ii ((m1 : Nat) : Int), ii uq, zz rq, ro0, va0, ii 0, ii 0]) (by unfold scr; decide) ho0 rfl) (scrS_set (e' := cJ 1000 N1) (by unfold scr; decide) (hl_ne (by decide) hnq0) rfl), actH_24 (actH_23 hH _ _ _ _ _ _ _ _ _ _ _) _, ?_⟩
        rw [hspec, hspA, hspB]
        rw [hpe]
        have hfz := ares_fq (A := A) (h := ((h).set 23 (cO 5 [ii (vbo verb), ii (fE fq sq lq), .ref 24, ii sq, ii lq, ii ((m1 : Nat) : Int), ii uq, zz rq, ro0, va0, ii 0, ii 0])).set 24 (cJ 1000 N1)) (e := e + 2) (a := 1) (b := 9) (q := h.length) (fE fq sq lq).toNat (by simp) (by simp; omega) (Nat.le_refl _) (Nat.le_refl _)
        rw [show (((fE fq sq lq).toNat : Nat) : Int) = fE fq sq lq by omega] at hfz
        exact hfz
      · obtain ⟨hq0, hpo, hpF, hpS, hpL, hps, hpl, hpm, hpu, hpr, hpN, hpC, hpM⟩ := pair_ok hk1 (cv_wf hz1) (cv_wf hv) hz9
        have hobx : (((h).set 23 (cO 5 [ii (vbo verb), ii fq, .ref 24, ii sq, ii lq, ii ((m1 : Nat) : Int), ii uq, zz rq, ro0, va0, ii 0, ii 0])).set 24 (cJ 1000 N1))[23]? = some (PO (vbo verb) 0 24 sq lq ((m1 : Nat) : Int) ((paM (e + 1) (v1 0 0) v : Nat) : Int) rq ro0 va0 0 0) := by rw [← hpu, ← hq0]; exact hl_ne (by decide) (hl_set (hl_lt ho0))
        have hnqx : (((h).set 23 (cO 5 [ii (vbo verb), ii fq, .ref 24, ii sq, ii lq, ii ((m1 : Nat) : Int), ii uq, zz rq, ro0, va0, ii 0, ii 0])).set 24 (cJ 1000 N1))[24]? = some (cJ 1000 N1) := hl_set (by rw [List.length_set]; exact hl_lt hnq0)
        obtain ⟨hb9, hhb9⟩ : ∃ hb9 : mj_H, hb9 = ((h).set 23 (cO 5 [ii (vbo verb), ii fq, .ref 24, ii sq, ii lq, ii ((m1 : Nat) : Int), ii uq, zz rq, ro0, va0, ii 0, ii 0])).set 24 (cJ 1000 N1) := ⟨_, rfl⟩
        have hscr9 : scrS h hb9 := by rw [hhb9]; exact scrS_tr (scrS_set (e' := cO 5 [ii (vbo verb), ii fq, .ref 24, ii sq, ii lq, ii ((m1 : Nat) : Int), ii uq, zz rq, ro0, va0, ii 0, ii 0]) (by unfold scr; decide) ho0 rfl) (scrS_set (e' := cJ 1000 N1) (by unfold scr; decide) (hl_ne (by decide) hnq0) rfl)
        rw [← hhb9] at hobx hnqx ⊢
        refine x_cv (pc' := 221) (rest := []) dm_X3_of_218 rfl (g_inv (As := []) (S := []) hobx rfl rfl rfl (by decide)) rfl rfl rfl ((show pgV xt (d - 1) _ _ hb9 _ from p_endsF (m := m1) (u := paM (e + 1) (v1 0 0) v) (nu := 0) (vu := 0) (by omega) (by rw [hscr9.1]; exact hl) (by omega) hobx hnqx (by omega) (by omega) (by omega) (by omega))) ?_
        rintro _ hE ⟨rfl, ra, vals9, X9, hE1, hX2, hXs, hra, hva⟩
        refine me_1t (pc' := 237) dm_X3_of_221 rfl (by decide) ?_
        refine me1 (pc' := 238) (L' := [(0, .ref 17), (1, ii verb), (2, .ref p)]) (S' := [.ref 17]) dm_X3_of_237 rfl rfl rfl rfl ?_
        refine me3 (pc' := 241) (S' := [.ref 23]) dm_X3_of_238 (g_get (v := .ref 23) (by rw [hE1, hhb9]; exact hl_app (hl_ne (by decide) (hl_ne (by decide) (hl_ne (by decide) h17)))) rfl rfl (by decide)) rfl rfl rfl ?_
        refine me1 (pc' := 242) (L' := [(0, .ref 17), (1, ii verb), (2, .ref p)]) (S' := [.ref 17, .ref 23]) dm_X3_of_241 rfl rfl rfl rfl ?_
        refine me3 (pc' := 245) (S' := [.ref 25, .ref 23]) dm_X3_of_242 (g_get (v := .ref 25) (by rw [hE1, hhb9]; exact hl_app (hl_ne (by decide) (hl_ne (by decide) (hl_ne (by decide) h17)))) rfl rfl (by decide)) rfl rfl rfl ?_
        refine me1 (pc' := 246) (L' := [(0, .ref 17), (1, ii verb), (2, .ref p)]) (S' := [.ref p, .ref 25, .ref 23]) dm_X3_of_245 rfl rfl rfl rfl ?_
        have hlb9 : hb9.length = h.length := hscr9.1
        have hlE : hE.length = h.length + X9.length := by rw [hE1, List.length_append, List.length_set, hscr9.1]
        have hraL : h.length ≤ ra → ra < h.length + X9.length := by intro z; rcases hra with y | y; (have := y.2; omega); (have y3 := hl_lt y.2.2; rw [hlE] at y3; rw [y.2.1] at z ⊢; rw [hscr9.1] at y3 ⊢; exact y3)
        have hkp : ∀ x c, A x → h[x]? = some c → (rowA A h ra) x ∧ hE[x]? = some c := fun x c hx hg => ⟨Or.inl hx, by rw [hE1]; exact hl_app (hl_ne (fun z => nA hA (Or.inl (by decide)) (z ▸ hx)) ((hscr9.2.2 x (fun z => by have := hA x hx; unfold scr at z; omega)).trans hg))⟩
        have hAE : okA (rowA A h ra) hE := fun x hx => by rcases hx with hx | hx; (have := hA x hx; omega); (have := hraL (by omega); omega)
        obtain ⟨mr9, F9, hrow9, hR9⟩ : ∃ mr F, rowAt (rowA A h ra) hE ra mr F ∧ (paR (e + 1) (v1 0 0) v = true → paC (e + 1) (v1 0 0) v ≤ mr ∧ ∀ j, j < mr → F j = N1 j) := by rcases hra with ⟨y1, y2⟩ | ⟨y1, y2, y3⟩; (exact ⟨0, fun _ => 0, Or.inl ⟨y2, rfl⟩, fun z => by rw [← hpr, y1] at z; cases z⟩); (refine ⟨m1, _, Or.inr ⟨by omega, by rw [y2]; exact y3, by omega, Or.inr ⟨by rw [y2, hscr9.1]; exact Nat.le_refl _, rfl⟩⟩, fun _ => ⟨by omega, fun j hj => cpy_at hj⟩⟩)
        have hva9 : paM (e + 1) (v1 0 0) v = 0 ∧ vals9 = .null ∨ ∃ va, vals9 = .ref va ∧ 127 ≤ va ∧ ¬ (rowA A h ra) va ∧ hE[va]? = some (cA 4 (paM (e + 1) (v1 0 0) v) (fun _ => none)) := by rcases hva with y | ⟨y0, va, y1, y2, y3, y4, y5⟩; exact Or.inl y; (exact Or.inr ⟨va, y1, Nat.le_trans hl (hlb9 ▸ y2), fun z => z.elim (fun z => absurd (hA va z).1 (by rw [hlb9] at y2; omega)) (fun z => y4 z.2), y5⟩)
        refine x_cv (pc' := 249) (rest := []) dm_X3_of_246 rfl (g_inv (As := [.ref 25, .ref p]) (S := []) (by rw [hE1]; exact hl_app (hl_set (hl_lt hobx))) rfl rfl rfl (by decide)) rfl rfl rfl (p_makeU (A := (rowA A h ra)) (h := hE) (d := d - 1) (e := e) (o := 23) (nq := 24) (vb := vbo verb) hx1 (by omega) (by omega) (by omega) (by omega) hAE (cv_keep hkp hz1) (cv_keep hkp hv) (by omega) (by rw [hE1]; exact hl_app (hl_set (hl_lt hobx))) (by rw [hE1]; exact hl_app (hl_ne (by decide) hnqx)) hrow9 hpF hpN hpC hR9 rfl (by omega) hpS hva9) ?_
        rintro x h4 ⟨va9, arr9, V9, hmk, hva1, hva2⟩
        have hvz9 : arr9 → h.length ≤ va9 ∧ va9 < h.length + X9.length := fun z => by obtain ⟨y1, y2⟩ := hva1 z; rcases hva with ⟨_, y3⟩ | ⟨y0, va, y3, y4, y5, _⟩; (rw [y1] at y3; cases y3); (rw [y1] at y3; cases y3; rw [hscr9.1] at y4; exact ⟨y4, by omega⟩)
        obtain ⟨hs1, hsc1, hsy1, hso1, hres1⟩ := mk_done hl (by omega) hscr9 hobx hX2 hXs rfl hpm.symm (by rw [← hE1]; exact hmk) hraL hvz9 hva2
        obtain ⟨q9, rfl⟩ := vres_ref hres1
        refine y_ret (r := some (.ref q9)) dm_X3_of_249 rfl rfl rfl ?_
        refine ⟨_, rfl, hs1, hsc1, ?_, ?_⟩
        · rw [set_of_pt (by rw [hsc1.1, hscr9.1]) hsy1 hso1, hhb9]
          exact actH_23 (actH_24 (actH_23 hH _ _ _ _ _ _ _ _ _ _ _) _) _ _ _ _ _ _ _ _ _ _ _
        · rw [hspec, hspA, hspB]
          rw [hpo]
          exact ares_dup (show ares A hs1 (e + 1) (.inr _) _ _ _ _ from hres1)
    · refine me0 (pc' := 194) (S' := [ii 119, .ref 23]) dm_X3_of_192 rfl rfl rfl rfl ?_
      refine me2 (pc' := 198) (S' := [ii 119, .ref 23]) dm_X3_of_194 rfl rfl rfl ?_
      refine pg_st0 (S' := [ii (vbo verb), .ref 23]) (congrArg (fun z => ii z :: [.ref 23]) (by first | (exfalso; omega) | (unfold vbo; first | rw [if_pos (by omega)] | rw [if_neg (by omega)]))) ?_
      refine x_cn (pc' := 201) (rest := []) dm_X3_of_198 rfl (g_inv (As := [ii (vbo verb)]) (S := []) ho0 rfl rfl rfl (by decide)) rfl rfl rfl (p_ready (by omega) (by decide) ho0) ?_
      rintro _ rfl
      refine me1 (pc' := 202) (L' := [(0, .ref 17), (1, ii verb), (2, .ref p)]) (S' := [.ref 17]) dm_X3_of_201 rfl rfl rfl rfl ?_
      refine me3 (pc' := 205) (S' := [.ref 23]) dm_X3_of_202 (g_get (v := .ref 23) (hl_ne (by decide) h17) rfl rfl (by decide)) rfl rfl rfl ?_
      refine me1 (pc' := 206) (L' := [(0, .ref 17), (1, ii verb), (2, .ref p)]) (S' := [.ref 17, .ref 23]) dm_X3_of_205 rfl rfl rfl rfl ?_
      refine me3 (pc' := 209) (S' := [.ref 25, .ref 23]) dm_X3_of_206 (g_get (v := .ref 25) (hl_ne (by decide) h17) rfl rfl (by decide)) rfl rfl rfl ?_
      refine me1 (pc' := 210) (L' := [(0, .ref 17), (1, ii verb), (2, .ref p)]) (S' := [.ref p, .ref 25, .ref 23]) dm_X3_of_209 rfl rfl rfl rfl ?_
      refine me0 (pc' := 211) (S' := [ii 0, .ref p, .ref 25, .ref 23]) dm_X3_of_210 rfl rfl rfl rfl ?_
      have hAr : okA A ((h).set 23 (cO 5 [ii (vbo verb), ii 0, .ref 24, ii 0, ii 0, ii 0, ii 0, zz false, ro0, va0, ii 0, ii 0])) := fun x hx => by rw [List.length_set]; exact hA x hx
      refine x_cn (pc' := 214) (rest := []) dm_X3_of_211 rfl (g_inv (As := [.ref 25, .ref p, ii 0]) (S := []) (hl_set (hl_lt ho0)) rfl rfl rfl (by decide)) rfl rfl rfl ((show pgN xt (d - 1) _ _ _ _ from p_ask (A := A) (o := 23) (nq := 24) (vb := vbo verb) hx1 (by omega) (by omega) (e + 1) (h := (h).set 23 (cO 5 [ii (vbo verb), ii 0, .ref 24, ii 0, ii 0, ii 0, ii 0, zz false, ro0, va0, ii 0, ii 0])) (m0 := 0) (N0 := N0) (sz := 0) (lv := 0) (ar := 0) (vm_ := 0) (nu := 0) (vu := 0) (rw_ := false) (ro := ro0) (va := va0) (by omega) hAr (cv_set (nA hA (Or.inl (by decide))) hz1) (cv_set (nA hA (Or.inl (by decide))) hv) (hl_set (hl_lt ho0)) (hl_ne (by decide) hnq0) (by omega) (by omega) (by omega) (by omega))) ?_
      rintro _ ⟨m1, N1, fq, sq, lq, uq, rq, rfl, hk1⟩
      rw [List.set_set]
      obtain ⟨hfr9, hsr9⟩ := pair_rng hk1 (cv_wf hz1) (cv_wf hv) hz9 hset (by omega)
      refine me1 (pc' := 215) (L' := [(0, .ref 17), (1, ii verb), (2, .ref p)]) (S' := [.ref 17]) dm_X3_of_214 rfl rfl rfl rfl ?_
      refine me3 (pc' := 218) (S' := [.ref 23]) dm_X3_of_215 (g_get (v := .ref 23) (hl_ne (by decide) (hl_ne (by decide) h17)) rfl rfl (by decide)) rfl rfl rfl ?_
      by_cases hz9 : fq ≠ 0 ∨ 1000 < sq ∨ 5 < lq
      · obtain ⟨hpe, hpe1, hpe2⟩ := pair_err hk1 hz9
        refine x_cv (pc' := 221) (rest := []) dm_X3_of_218 rfl (g_inv (As := []) (S := []) (hl_ne (by decide) (hl_set (hl_lt ho0))) rfl rfl rfl (by decide)) rfl rfl rfl ((show pgV xt (d - 1) _ _ _ (fun x h' => x = ii 1 ∧ h' = ((h).set 23 (cO 5 [ii (vbo verb), ii (fE fq sq lq), .ref 24, ii sq, ii lq, ii ((m1 : Nat) : Int), ii uq, zz rq, ro0, va0, ii 0, ii 0])).set 24 (cJ 1000 N1)) from by have z := p_endsT (xt := xt) (d := d - 1) (o := 23) (nq := 24) (h := ((h).set 23 (cO 5 [ii (vbo verb), ii fq, .ref 24, ii sq, ii lq, ii ((m1 : Nat) : Int), ii uq, zz rq, ro0, va0, ii 0, ii 0])).set 24 (cJ 1000 N1)) (by omega) (by decide) (hl_ne (by decide) (hl_set (hl_lt ho0))) hfr9 hsr9 hz9; rw [setoq (by decide)] at z; exact z)) ?_
        rintro _ _ ⟨rfl, rfl⟩
        refine me_1f (pc' := 224) dm_X3_of_221 rfl (by decide) rfl ?_
        refine me1 (pc' := 225) (L' := [(0, .ref 17), (1, ii verb), (2, .ref p)]) (S' := [.ref 17]) dm_X3_of_224 rfl rfl rfl rfl ?_
        refine me3 (pc' := 228) (S' := [.ref 23]) dm_X3_of_225 (g_get (v := .ref 23) (hl_ne (by decide) (hl_ne (by decide) h17)) rfl rfl (by decide)) rfl rfl rfl ?_
        refine x_cp (pc' := 231) (v := ii (fE fq sq lq)) (rest := []) dm_X3_of_228 rfl (g_inv (As := []) (S := []) (hl_ne (by decide) (hl_set (hl_lt ho0))) rfl rfl rfl (by decide)) rfl rfl rfl (p_error (by omega) (by decide) (hl_ne (by decide) (hl_set (hl_lt ho0)))) ?_
        refine x_cv (pc' := 234) (rest := []) dm_X3_of_231 rfl (g_invs (As := [ii (fE fq sq lq)]) (S := []) rfl rfl rfl) rfl rfl rfl (c_fault (q := h.length) (by omega) (by simp; omega) (by simp) (by omega)) ?_
        rintro _ _ ⟨rfl, rfl⟩
        refine me2 (pc' := 249) (S' := [.ref h.length]) dm_X3_of_234 rfl rfl rfl ?_
        refine y_ret (r := some (.ref h.length)) dm_X3_of_249 rfl rfl rfl ?_
        refine ⟨_, rfl, ((h).set 23 (cO 5 [ii (vbo verb), ii (fE fq sq lq), .ref 24, ii sq, ii lq, ii ((m1 : Nat) : Int), ii uq, zz rq, ro0, va0, ii 0, ii 0])).set 24 (cJ 1000 N1), scrS_tr (scrS_set (e' := cO 5 [ii (vbo verb), ii (fE fq sq lq), .ref 24, ii sq, ii lq, ii ((m1 : Nat) : Int), ii uq, zz rq, ro0, va0, ii 0, ii 0]) (by unfold scr; decide) ho0 rfl) (scrS_set (e' := cJ 1000 N1) (by unfold scr; decide) (hl_ne (by decide) hnq0) rfl), actH_24 (actH_23 hH _ _ _ _ _ _ _ _ _ _ _) _, ?_⟩
        rw [hspec, hspA, hspB]
        rw [hpe]
        have hfz := ares_fq (A := A) (h := ((h).set 23 (cO 5 [ii (vbo verb), ii (fE fq sq lq), .ref 24, ii sq, ii lq, ii ((m1 : Nat) : Int), ii uq, zz rq, ro0, va0, ii 0, ii 0])).set 24 (cJ 1000 N1)) (e := e + 2) (a := 1) (b := 9) (q := h.length) (fE fq sq lq).toNat (by simp) (by simp; omega) (Nat.le_refl _) (Nat.le_refl _)
        rw [show (((fE fq sq lq).toNat : Nat) : Int) = fE fq sq lq by omega] at hfz
        exact hfz
      · obtain ⟨hq0, hpo, hpF, hpS, hpL, hps, hpl, hpm, hpu, hpr, hpN, hpC, hpM⟩ := pair_ok hk1 (cv_wf hz1) (cv_wf hv) hz9
        have hobx : (((h).set 23 (cO 5 [ii (vbo verb), ii fq, .ref 24, ii sq, ii lq, ii ((m1 : Nat) : Int), ii uq, zz rq, ro0, va0, ii 0, ii 0])).set 24 (cJ 1000 N1))[23]? = some (PO (vbo verb) 0 24 sq lq ((m1 : Nat) : Int) ((paM (e + 1) (v1 0 0) v : Nat) : Int) rq ro0 va0 0 0) := by rw [← hpu, ← hq0]; exact hl_ne (by decide) (hl_set (hl_lt ho0))
        have hnqx : (((h).set 23 (cO 5 [ii (vbo verb), ii fq, .ref 24, ii sq, ii lq, ii ((m1 : Nat) : Int), ii uq, zz rq, ro0, va0, ii 0, ii 0])).set 24 (cJ 1000 N1))[24]? = some (cJ 1000 N1) := hl_set (by rw [List.length_set]; exact hl_lt hnq0)
        obtain ⟨hb9, hhb9⟩ : ∃ hb9 : mj_H, hb9 = ((h).set 23 (cO 5 [ii (vbo verb), ii fq, .ref 24, ii sq, ii lq, ii ((m1 : Nat) : Int), ii uq, zz rq, ro0, va0, ii 0, ii 0])).set 24 (cJ 1000 N1) := ⟨_, rfl⟩
        have hscr9 : scrS h hb9 := by rw [hhb9]; exact scrS_tr (scrS_set (e' := cO 5 [ii (vbo verb), ii fq, .ref 24, ii sq, ii lq, ii ((m1 : Nat) : Int), ii uq, zz rq, ro0, va0, ii 0, ii 0]) (by unfold scr; decide) ho0 rfl) (scrS_set (e' := cJ 1000 N1) (by unfold scr; decide) (hl_ne (by decide) hnq0) rfl)
        rw [← hhb9] at hobx hnqx ⊢
        refine x_cv (pc' := 221) (rest := []) dm_X3_of_218 rfl (g_inv (As := []) (S := []) hobx rfl rfl rfl (by decide)) rfl rfl rfl ((show pgV xt (d - 1) _ _ hb9 _ from p_endsF (m := m1) (u := paM (e + 1) (v1 0 0) v) (nu := 0) (vu := 0) (by omega) (by rw [hscr9.1]; exact hl) (by omega) hobx hnqx (by omega) (by omega) (by omega) (by omega))) ?_
        rintro _ hE ⟨rfl, ra, vals9, X9, hE1, hX2, hXs, hra, hva⟩
        refine me_1t (pc' := 237) dm_X3_of_221 rfl (by decide) ?_
        refine me1 (pc' := 238) (L' := [(0, .ref 17), (1, ii verb), (2, .ref p)]) (S' := [.ref 17]) dm_X3_of_237 rfl rfl rfl rfl ?_
        refine me3 (pc' := 241) (S' := [.ref 23]) dm_X3_of_238 (g_get (v := .ref 23) (by rw [hE1, hhb9]; exact hl_app (hl_ne (by decide) (hl_ne (by decide) (hl_ne (by decide) h17)))) rfl rfl (by decide)) rfl rfl rfl ?_
        refine me1 (pc' := 242) (L' := [(0, .ref 17), (1, ii verb), (2, .ref p)]) (S' := [.ref 17, .ref 23]) dm_X3_of_241 rfl rfl rfl rfl ?_
        refine me3 (pc' := 245) (S' := [.ref 25, .ref 23]) dm_X3_of_242 (g_get (v := .ref 25) (by rw [hE1, hhb9]; exact hl_app (hl_ne (by decide) (hl_ne (by decide) (hl_ne (by decide) h17)))) rfl rfl (by decide)) rfl rfl rfl ?_
        refine me1 (pc' := 246) (L' := [(0, .ref 17), (1, ii verb), (2, .ref p)]) (S' := [.ref p, .ref 25, .ref 23]) dm_X3_of_245 rfl rfl rfl rfl ?_
        have hlb9 : hb9.length = h.length := hscr9.1
        have hlE : hE.length = h.length + X9.length := by rw [hE1, List.length_append, List.length_set, hscr9.1]
        have hraL : h.length ≤ ra → ra < h.length + X9.length := by intro z; rcases hra with y | y; (have := y.2; omega); (have y3 := hl_lt y.2.2; rw [hlE] at y3; rw [y.2.1] at z ⊢; rw [hscr9.1] at y3 ⊢; exact y3)
        have hkp : ∀ x c, A x → h[x]? = some c → (rowA A h ra) x ∧ hE[x]? = some c := fun x c hx hg => ⟨Or.inl hx, by rw [hE1]; exact hl_app (hl_ne (fun z => nA hA (Or.inl (by decide)) (z ▸ hx)) ((hscr9.2.2 x (fun z => by have := hA x hx; unfold scr at z; omega)).trans hg))⟩
        have hAE : okA (rowA A h ra) hE := fun x hx => by rcases hx with hx | hx; (have := hA x hx; omega); (have := hraL (by omega); omega)
        obtain ⟨mr9, F9, hrow9, hR9⟩ : ∃ mr F, rowAt (rowA A h ra) hE ra mr F ∧ (paR (e + 1) (v1 0 0) v = true → paC (e + 1) (v1 0 0) v ≤ mr ∧ ∀ j, j < mr → F j = N1 j) := by rcases hra with ⟨y1, y2⟩ | ⟨y1, y2, y3⟩; (exact ⟨0, fun _ => 0, Or.inl ⟨y2, rfl⟩, fun z => by rw [← hpr, y1] at z; cases z⟩); (refine ⟨m1, _, Or.inr ⟨by omega, by rw [y2]; exact y3, by omega, Or.inr ⟨by rw [y2, hscr9.1]; exact Nat.le_refl _, rfl⟩⟩, fun _ => ⟨by omega, fun j hj => cpy_at hj⟩⟩)
        have hva9 : paM (e + 1) (v1 0 0) v = 0 ∧ vals9 = .null ∨ ∃ va, vals9 = .ref va ∧ 127 ≤ va ∧ ¬ (rowA A h ra) va ∧ hE[va]? = some (cA 4 (paM (e + 1) (v1 0 0) v) (fun _ => none)) := by rcases hva with y | ⟨y0, va, y1, y2, y3, y4, y5⟩; exact Or.inl y; (exact Or.inr ⟨va, y1, Nat.le_trans hl (hlb9 ▸ y2), fun z => z.elim (fun z => absurd (hA va z).1 (by rw [hlb9] at y2; omega)) (fun z => y4 z.2), y5⟩)
        refine x_cv (pc' := 249) (rest := []) dm_X3_of_246 rfl (g_inv (As := [.ref 25, .ref p]) (S := []) (by rw [hE1]; exact hl_app (hl_set (hl_lt hobx))) rfl rfl rfl (by decide)) rfl rfl rfl (p_makeU (A := (rowA A h ra)) (h := hE) (d := d - 1) (e := e) (o := 23) (nq := 24) (vb := vbo verb) hx1 (by omega) (by omega) (by omega) (by omega) hAE (cv_keep hkp hz1) (cv_keep hkp hv) (by omega) (by rw [hE1]; exact hl_app (hl_set (hl_lt hobx))) (by rw [hE1]; exact hl_app (hl_ne (by decide) hnqx)) hrow9 hpF hpN hpC hR9 rfl (by omega) hpS hva9) ?_
        rintro x h4 ⟨va9, arr9, V9, hmk, hva1, hva2⟩
        have hvz9 : arr9 → h.length ≤ va9 ∧ va9 < h.length + X9.length := fun z => by obtain ⟨y1, y2⟩ := hva1 z; rcases hva with ⟨_, y3⟩ | ⟨y0, va, y3, y4, y5, _⟩; (rw [y1] at y3; cases y3); (rw [y1] at y3; cases y3; rw [hscr9.1] at y4; exact ⟨y4, by omega⟩)
        obtain ⟨hs1, hsc1, hsy1, hso1, hres1⟩ := mk_done hl (by omega) hscr9 hobx hX2 hXs rfl hpm.symm (by rw [← hE1]; exact hmk) hraL hvz9 hva2
        obtain ⟨q9, rfl⟩ := vres_ref hres1
        refine y_ret (r := some (.ref q9)) dm_X3_of_249 rfl rfl rfl ?_
        refine ⟨_, rfl, hs1, hsc1, ?_, ?_⟩
        · rw [set_of_pt (by rw [hsc1.1, hscr9.1]) hsy1 hso1, hhb9]
          exact actH_23 (actH_24 (actH_23 hH _ _ _ _ _ _ _ _ _ _ _) _) _ _ _ _ _ _ _ _ _ _ _
        · rw [hspec, hspA, hspB]
          rw [hpo]
          exact ares_dup (show ares A hs1 (e + 1) (.inr _) _ _ _ _ from hres1)
  refine y_sw (a := verb) (38) (t := 270) (i := .lookupswitch 346 #[(33, 300), (35, 317), (36, 340), (37, 181), (38, 269), (42, 249), (43, 163), (44, 305), (45, 181), (46, 311), (60, 281), (61, 288), (62, 281), (63, 294), (64, 331), (94, 281), (95, 326), (124, 275), (126, 181)]) (len := 163) dm_X3_of_1 rfl rfl rfl (by omega) (by decide) (fun hb6 => ?_) (fun hb6 => ?_)
  · have hspec : s_one verb e v = m_where v := by unfold s_one; rw [if_neg (by omega), if_neg (by omega), if_neg (by omega), if_pos (by omega)]
    have hspA : oneA verb e v = 2 := by unfold oneA; rw [if_neg (by omega), if_neg (by omega), if_neg (by omega), if_pos (by omega)]
    have hspB : oneB verb e v = rsl (m_where v) := by unfold oneB; rw [if_neg (by omega), if_neg (by omega), if_neg (by omega), if_pos (by omega)]
    refine me1 (pc' := 271) (L' := [(0, .ref 17), (1, ii verb), (2, .ref p)]) (S' := [.ref 17]) dm_X3_of_270 rfl rfl rfl rfl ?_
    refine me1 (pc' := 272) (L' := [(0, .ref 17), (1, ii verb), (2, .ref p)]) (S' := [.ref p, .ref 17]) dm_X3_of_271 rfl rfl rfl rfl ?_
    refine x_cv (pc' := 275) (rest := []) dm_X3_of_272 rfl (g_inv (As := [.ref p]) (S := []) h17 rfl rfl rfl (by decide)) rfl rfl rfl (o_where hx1 (by omega) hl hA hH hv (by omega) hset) ?_
    rintro x h2 hres
    obtain ⟨qz, rfl⟩ := aact_ref hres
    refine y_ret (r := some (.ref qz)) dm_X3_of_275 rfl rfl rfl ?_
    refine ⟨_, rfl, ?_⟩
    rw [hspec, hspA, hspB]
    exact aact_dup hres
  refine y_sw (a := verb) (42) (t := 250) (i := .lookupswitch 346 #[(33, 300), (35, 317), (36, 340), (37, 181), (38, 269), (42, 249), (43, 163), (44, 305), (45, 181), (46, 311), (60, 281), (61, 288), (62, 281), (63, 294), (64, 331), (94, 281), (95, 326), (124, 275), (126, 181)]) (len := 163) dm_X3_of_1 rfl rfl rfl (by omega) (by decide) (fun hb7 => ?_) (fun hb7 => ?_)
  · have hspec : s_one verb e v = (if vm v = 0 then .inl 4 else .inr (vit v 0)) := by unfold s_one; rw [if_neg (by omega), if_neg (by omega), if_pos (by omega)]
    have hspA : oneA verb e v = 1 := by unfold oneA; rw [if_neg (by omega), if_neg (by omega), if_pos (by omega)]
    have hspB : oneB verb e v = 9 := by unfold oneB; rw [if_neg (by omega), if_neg (by omega), if_pos (by omega)]
    refine me1 (pc' := 251) (L' := [(0, .ref 17), (1, ii verb), (2, .ref p)]) (S' := [.ref p]) dm_X3_of_250 rfl rfl rfl rfl ?_
    refine me3 (pc' := 254) (S' := [ii (vm v : Int)]) dm_X3_of_251 (g_get (v := ii (vm v : Int)) hp rfl rfl (by omega)) rfl rfl rfl ?_
    refine y_1ne (a := (vm v : Int)) (t := 264) (pc' := 257) dm_X3_of_254 rfl rfl (by omega) (fun hb8 => ?_) (fun hb8 => ?_)
    · refine me1 (pc' := 265) (L' := [(0, .ref 17), (1, ii verb), (2, .ref p)]) (S' := [.ref p]) dm_X3_of_264 rfl rfl rfl rfl ?_
      refine me0 (pc' := 266) (S' := [ii 0, .ref p]) dm_X3_of_265 rfl rfl rfl rfl ?_
      refine x_cv (pc' := 269) (rest := []) dm_X3_of_266 rfl (g_inv (As := [ii 0]) (S := []) hp rfl rfl rfl (by omega)) rfl rfl rfl (c_itemAt (i := 0) hx1 (by omega) hl hv (Or.inr (by omega)) (by omega)) ?_
      rintro x h2 hres
      obtain ⟨qz, rfl⟩ := vres_ref hres
      refine y_ret (r := some (.ref qz)) dm_X3_of_269 rfl rfl rfl ?_
      refine ⟨_, rfl, h, scrS_rf h, hH, ?_⟩
      rw [hspec, hspA, hspB]
      rw [if_neg (by omega)]
      exact ares_dup (show ares A h (e + 1) (.inr _) _ _ _ _ from hres)
    · refine me0 (pc' := 258) (S' := [ii 4]) dm_X3_of_257 rfl rfl rfl rfl ?_
      refine x_cv (pc' := 261) (rest := []) dm_X3_of_258 rfl (g_invs (As := [ii 4]) (S := []) rfl rfl rfl) rfl rfl rfl (c_fault (q := h.length) (by omega) (by omega) rfl (by omega)) ?_
      rintro _ _ ⟨rfl, rfl⟩
      refine me2 (pc' := 269) (S' := [.ref h.length]) dm_X3_of_261 rfl rfl rfl ?_
      refine y_ret (r := some (.ref h.length)) dm_X3_of_269 rfl rfl rfl ?_
      refine ⟨_, rfl, h, scrS_rf h, hH, ?_⟩
      rw [hspec, hspA, hspB]
      rw [if_pos (by omega)]
      exact ares_f 4 (by omega) (by omega) (by omega)
  refine y_sw (a := verb) (43) (t := 164) (i := .lookupswitch 346 #[(33, 300), (35, 317), (36, 340), (37, 181), (38, 269), (42, 249), (43, 163), (44, 305), (45, 181), (46, 311), (60, 281), (61, 288), (62, 281), (63, 294), (64, 331), (94, 281), (95, 326), (124, 275), (126, 181)]) (len := 163) dm_X3_of_1 rfl rfl rfl (by omega) (by decide) (fun hb9 => ?_) (fun hb9 => ?_)
  · have hspec : s_one verb e v = m_flip v := by unfold s_one; rw [if_pos (by omega)]
    have hspA : oneA verb e v = (if vk v = 6 then 2 else 0) := by unfold oneA; rw [if_pos (by omega)]
    have hspB : oneB verb e v = (if vk v = 6 then vq v + 9 else 0) := by unfold oneB; rw [if_pos (by omega)]
    refine me1 (pc' := 165) (L' := [(0, .ref 17), (1, ii verb), (2, .ref p)]) (S' := [.ref p]) dm_X3_of_164 rfl rfl rfl rfl ?_
    refine me3 (pc' := 168) (S' := [ii (vk v : Int)]) dm_X3_of_165 (g_get (v := ii (vk v : Int)) hp rfl rfl (by omega)) rfl rfl rfl ?_
    refine me0 (pc' := 170) (S' := [ii 6, ii (vk v : Int)]) dm_X3_of_168 rfl rfl rfl rfl ?_
    refine y_2ne (a := (vk v : Int)) (b := 6) (t := 180) (pc' := 173) dm_X3_of_170 rfl rfl (by omega) (fun hb10 => ?_) (fun hb10 => ?_)
    · refine me1 (pc' := 181) (L' := [(0, .ref 17), (1, ii verb), (2, .ref p)]) (S' := [.ref p]) dm_X3_of_180 rfl rfl rfl rfl ?_
      refine y_ret (r := some (.ref p)) dm_X3_of_181 rfl rfl rfl ?_
      refine ⟨_, rfl, h, scrS_rf h, hH, ?_⟩
      rw [hspec, hspA, hspB]
      rw [show m_flip v = .inr v by unfold m_flip; rw [if_neg (by omega)]]
      exact vres_same (cv_up hv)
    · refine me1 (pc' := 174) (L' := [(0, .ref 17), (1, ii verb), (2, .ref p)]) (S' := [.ref p]) dm_X3_of_173 rfl rfl rfl rfl ?_
      refine x_cv (pc' := 177) (rest := []) dm_X3_of_174 rfl (g_invs (As := [.ref p]) (S := []) rfl rfl rfl) rfl rfl rfl (o_flipped hx1 (by omega) hl hA hH hv (by omega) hset (by omega)) ?_
      rintro x h2 hres
      obtain ⟨qz, rfl⟩ := aact_ref hres
      refine me2 (pc' := 181) (S' := [.ref qz]) dm_X3_of_177 rfl rfl rfl ?_
      refine y_ret (r := some (.ref qz)) dm_X3_of_181 rfl rfl rfl ?_
      refine ⟨_, rfl, ?_⟩
      rw [hspec, hspA, hspB]
      rw [if_pos (by omega), if_pos (by omega)]
      exact aact_dup hres
  refine y_sw (a := verb) (44) (t := 306) (i := .lookupswitch 346 #[(33, 300), (35, 317), (36, 340), (37, 181), (38, 269), (42, 249), (43, 163), (44, 305), (45, 181), (46, 311), (60, 281), (61, 288), (62, 281), (63, 294), (64, 331), (94, 281), (95, 326), (124, 275), (126, 181)]) (len := 163) dm_X3_of_1 rfl rfl rfl (by omega) (by decide) (fun hb11 => ?_) (fun hb11 => ?_)
  · have hspec : s_one verb e v = m_more v := by unfold s_one; rw [if_neg (by omega), if_neg (by omega), if_neg (by omega), if_neg (by omega), if_neg (by omega), if_neg (by omega), if_neg (by omega), if_neg (by omega), if_neg (by omega), if_pos (by omega)]
    have hspA : oneA verb e v = 2 := by unfold oneA; rw [if_neg (by omega), if_neg (by omega), if_neg (by omega), if_neg (by omega), if_neg (by omega), if_neg (by omega), if_neg (by omega), if_neg (by omega), if_neg (by omega), if_pos (by omega)]
    have hspB : oneB verb e v = 10 := by unfold oneB; rw [if_neg (by omega), if_neg (by omega), if_neg (by omega), if_neg (by omega), if_neg (by omega), if_neg (by omega), if_neg (by omega), if_neg (by omega), if_neg (by omega), if_pos (by omega)]
    refine me1 (pc' := 307) (L' := [(0, .ref 17), (1, ii verb), (2, .ref p)]) (S' := [.ref 17]) dm_X3_of_306 rfl rfl rfl rfl ?_
    refine me1 (pc' := 308) (L' := [(0, .ref 17), (1, ii verb), (2, .ref p)]) (S' := [.ref p, .ref 17]) dm_X3_of_307 rfl rfl rfl rfl ?_
    refine x_cv (pc' := 311) (rest := []) dm_X3_of_308 rfl (g_inv (As := [.ref p]) (S := []) h17 rfl rfl rfl (by decide)) rfl rfl rfl (o_oneMore hx1 (by omega) hl hA hH hv (by omega) hset) ?_
    rintro x h2 hres
    obtain ⟨qz, rfl⟩ := aact_ref hres
    refine y_ret (r := some (.ref qz)) dm_X3_of_311 rfl rfl rfl ?_
    refine ⟨_, rfl, ?_⟩
    rw [hspec, hspA, hspB]
    exact hres
  refine y_sw (a := verb) (45) (t := 182) (i := .lookupswitch 346 #[(33, 300), (35, 317), (36, 340), (37, 181), (38, 269), (42, 249), (43, 163), (44, 305), (45, 181), (46, 311), (60, 281), (61, 288), (62, 281), (63, 294), (64, 331), (94, 281), (95, 326), (124, 275), (126, 181)]) (len := 163) dm_X3_of_1 rfl rfl rfl (by omega) (by decide) (fun hb12 => ?_) (fun hb12 => ?_)
  · have hspec : s_one verb e v = d_pair (vbo verb) (e + 1) (v1 0 0) v := by unfold s_one; rw [if_neg (by omega), if_pos (by omega)]
    have hspA : oneA verb e v = pcA (d_pair (vbo verb) (e + 1) (v1 0 0) v) (prA (e + 1) (v1 0 0) v) := by unfold oneA; rw [if_neg (by omega), if_pos (by omega)]
    have hspB : oneB verb e v = pcB (d_pair (vbo verb) (e + 1) (v1 0 0) v) (prB (e + 1) (v1 0 0) v) := by unfold oneB; rw [if_neg (by omega), if_pos (by omega)]
    refine me1 (pc' := 183) (L' := [(0, .ref 17), (1, ii verb), (2, .ref p)]) (S' := [.ref 17]) dm_X3_of_182 rfl rfl rfl rfl ?_
    refine me3 (pc' := 186) (S' := [.ref 23]) dm_X3_of_183 (g_get (v := .ref 23) h17 rfl rfl (by decide)) rfl rfl rfl ?_
    refine me1 (pc' := 187) (L' := [(0, .ref 17), (1, ii verb), (2, .ref p)]) (S' := [ii verb, .ref 23]) dm_X3_of_186 rfl rfl rfl rfl ?_
    refine me0 (pc' := 189) (S' := [ii 37, ii verb, .ref 23]) dm_X3_of_187 rfl rfl rfl rfl ?_
    refine y_2ne (a := verb) (b := 37) (t := 197) (pc' := 192) dm_X3_of_189 rfl rfl (by omega) (fun hb13 => ?_) (fun hb13 => ?_)
    · refine me1 (pc' := 198) (L' := [(0, .ref 17), (1, ii verb), (2, .ref p)]) (S' := [ii verb, .ref 23]) dm_X3_of_197 rfl rfl rfl rfl ?_
      refine pg_st0 (S' := [ii (vbo verb), .ref 23]) (congrArg (fun z => ii z :: [.ref 23]) (by first | (exfalso; omega) | (unfold vbo; first | rw [if_pos (by omega)] | rw [if_neg (by omega)]))) ?_
      refine x_cn (pc' := 201) (rest := []) dm_X3_of_198 rfl (g_inv (As := [ii (vbo verb)]) (S := []) ho0 rfl rfl rfl (by decide)) rfl rfl rfl (p_ready (by omega) (by decide) ho0) ?_
      rintro _ rfl
      refine me1 (pc' := 202) (L' := [(0, .ref 17), (1, ii verb), (2, .ref p)]) (S' := [.ref 17]) dm_X3_of_201 rfl rfl rfl rfl ?_
      refine me3 (pc' := 205) (S' := [.ref 23]) dm_X3_of_202 (g_get (v := .ref 23) (hl_ne (by decide) h17) rfl rfl (by decide)) rfl rfl rfl ?_
      refine me1 (pc' := 206) (L' := [(0, .ref 17), (1, ii verb), (2, .ref p)]) (S' := [.ref 17, .ref 23]) dm_X3_of_205 rfl rfl rfl rfl ?_
      refine me3 (pc' := 209) (S' := [.ref 25, .ref 23]) dm_X3_of_206 (g_get (v := .ref 25) (hl_ne (by decide) h17) rfl rfl (by decide)) rfl rfl rfl ?_
      refine me1 (pc' := 210) (L' := [(0, .ref 17), (1, ii verb), (2, .ref p)]) (S' := [.ref p, .ref 25, .ref 23]) dm_X3_of_209 rfl rfl rfl rfl ?_
      refine me0 (pc' := 211) (S' := [ii 0, .ref p, .ref 25, .ref 23]) dm_X3_of_210 rfl rfl rfl rfl ?_
      have hAr : okA A ((h).set 23 (cO 5 [ii (vbo verb), ii 0, .ref 24, ii 0, ii 0, ii 0, ii 0, zz false, ro0, va0, ii 0, ii 0])) := fun x hx => by rw [List.length_set]; exact hA x hx
      refine x_cn (pc' := 214) (rest := []) dm_X3_of_211 rfl (g_inv (As := [.ref 25, .ref p, ii 0]) (S := []) (hl_set (hl_lt ho0)) rfl rfl rfl (by decide)) rfl rfl rfl ((show pgN xt (d - 1) _ _ _ _ from p_ask (A := A) (o := 23) (nq := 24) (vb := vbo verb) hx1 (by omega) (by omega) (e + 1) (h := (h).set 23 (cO 5 [ii (vbo verb), ii 0, .ref 24, ii 0, ii 0, ii 0, ii 0, zz false, ro0, va0, ii 0, ii 0])) (m0 := 0) (N0 := N0) (sz := 0) (lv := 0) (ar := 0) (vm_ := 0) (nu := 0) (vu := 0) (rw_ := false) (ro := ro0) (va := va0) (by omega) hAr (cv_set (nA hA (Or.inl (by decide))) hz1) (cv_set (nA hA (Or.inl (by decide))) hv) (hl_set (hl_lt ho0)) (hl_ne (by decide) hnq0) (by omega) (by omega) (by omega) (by omega))) ?_
      rintro _ ⟨m1, N1, fq, sq, lq, uq, rq, rfl, hk1⟩
      rw [List.set_set]
      obtain ⟨hfr9, hsr9⟩ := pair_rng hk1 (cv_wf hz1) (cv_wf hv) hz9 hset (by omega)
      refine me1 (pc' := 215) (L' := [(0, .ref 17), (1, ii verb), (2, .ref p)]) (S' := [.ref 17]) dm_X3_of_214 rfl rfl rfl rfl ?_
      refine me3 (pc' := 218) (S' := [.ref 23]) dm_X3_of_215 (g_get (v := .ref 23) (hl_ne (by decide) (hl_ne (by decide) h17)) rfl rfl (by decide)) rfl rfl rfl ?_
      by_cases hz9 : fq ≠ 0 ∨ 1000 < sq ∨ 5 < lq
      · obtain ⟨hpe, hpe1, hpe2⟩ := pair_err hk1 hz9
        refine x_cv (pc' := 221) (rest := []) dm_X3_of_218 rfl (g_inv (As := []) (S := []) (hl_ne (by decide) (hl_set (hl_lt ho0))) rfl rfl rfl (by decide)) rfl rfl rfl ((show pgV xt (d - 1) _ _ _ (fun x h' => x = ii 1 ∧ h' = ((h).set 23 (cO 5 [ii (vbo verb), ii (fE fq sq lq), .ref 24, ii sq, ii lq, ii ((m1 : Nat) : Int), ii uq, zz rq, ro0, va0, ii 0, ii 0])).set 24 (cJ 1000 N1)) from by have z := p_endsT (xt := xt) (d := d - 1) (o := 23) (nq := 24) (h := ((h).set 23 (cO 5 [ii (vbo verb), ii fq, .ref 24, ii sq, ii lq, ii ((m1 : Nat) : Int), ii uq, zz rq, ro0, va0, ii 0, ii 0])).set 24 (cJ 1000 N1)) (by omega) (by decide) (hl_ne (by decide) (hl_set (hl_lt ho0))) hfr9 hsr9 hz9; rw [setoq (by decide)] at z; exact z)) ?_
        rintro _ _ ⟨rfl, rfl⟩
        refine me_1f (pc' := 224) dm_X3_of_221 rfl (by decide) rfl ?_
        refine me1 (pc' := 225) (L' := [(0, .ref 17), (1, ii verb), (2, .ref p)]) (S' := [.ref 17]) dm_X3_of_224 rfl rfl rfl rfl ?_
        refine me3 (pc' := 228) (S' := [.ref 23]) dm_X3_of_225 (g_get (v := .ref 23) (hl_ne (by decide) (hl_ne (by decide) h17)) rfl rfl (by decide)) rfl rfl rfl ?_
        refine x_cp (pc' := 231) (v := ii (fE fq sq lq)) (rest := []) dm_X3_of_228 rfl (g_inv (As := []) (S := []) (hl_ne (by decide) (hl_set (hl_lt ho0))) rfl rfl rfl (by decide)) rfl rfl rfl (p_error (by omega) (by decide) (hl_ne (by decide) (hl_set (hl_lt ho0)))) ?_
        refine x_cv (pc' := 234) (rest := []) dm_X3_of_231 rfl (g_invs (As := [ii (fE fq sq lq)]) (S := []) rfl rfl rfl) rfl rfl rfl (c_fault (q := h.length) (by omega) (by simp; omega) (by simp) (by omega)) ?_
        rintro _ _ ⟨rfl, rfl⟩
        refine me2 (pc' := 249) (S' := [.ref h.length]) dm_X3_of_234 rfl rfl rfl ?_
        refine y_ret (r := some (.ref h.length)) dm_X3_of_249 rfl rfl rfl ?_
        refine ⟨_, rfl, ((h).set 23 (cO 5 [ii (vbo verb), ii (fE fq sq lq), .ref 24, ii sq, ii lq, ii ((m1 : Nat) : Int), ii uq, zz rq, ro0, va0, ii 0, ii 0])).set 24 (cJ 1000 N1), scrS_tr (scrS_set (e' := cO 5 [ii (vbo verb), ii (fE fq sq lq), .ref 24, ii sq, ii lq, ii ((m1 : Nat) : Int), ii uq, zz rq, ro0, va0, ii 0, ii 0]) (by unfold scr; decide) ho0 rfl) (scrS_set (e' := cJ 1000 N1) (by unfold scr; decide) (hl_ne (by decide) hnq0) rfl), actH_24 (actH_23 hH _ _ _ _ _ _ _ _ _ _ _) _, ?_⟩
        rw [hspec, hspA, hspB]
        rw [hpe]
        have hfz := ares_fq (A := A) (h := ((h).set 23 (cO 5 [ii (vbo verb), ii (fE fq sq lq), .ref 24, ii sq, ii lq, ii ((m1 : Nat) : Int), ii uq, zz rq, ro0, va0, ii 0, ii 0])).set 24 (cJ 1000 N1)) (e := e + 2) (a := 1) (b := 9) (q := h.length) (fE fq sq lq).toNat (by simp) (by simp; omega) (Nat.le_refl _) (Nat.le_refl _)
        rw [show (((fE fq sq lq).toNat : Nat) : Int) = fE fq sq lq by omega] at hfz
        exact hfz
      · obtain ⟨hq0, hpo, hpF, hpS, hpL, hps, hpl, hpm, hpu, hpr, hpN, hpC, hpM⟩ := pair_ok hk1 (cv_wf hz1) (cv_wf hv) hz9
        have hobx : (((h).set 23 (cO 5 [ii (vbo verb), ii fq, .ref 24, ii sq, ii lq, ii ((m1 : Nat) : Int), ii uq, zz rq, ro0, va0, ii 0, ii 0])).set 24 (cJ 1000 N1))[23]? = some (PO (vbo verb) 0 24 sq lq ((m1 : Nat) : Int) ((paM (e + 1) (v1 0 0) v : Nat) : Int) rq ro0 va0 0 0) := by rw [← hpu, ← hq0]; exact hl_ne (by decide) (hl_set (hl_lt ho0))
        have hnqx : (((h).set 23 (cO 5 [ii (vbo verb), ii fq, .ref 24, ii sq, ii lq, ii ((m1 : Nat) : Int), ii uq, zz rq, ro0, va0, ii 0, ii 0])).set 24 (cJ 1000 N1))[24]? = some (cJ 1000 N1) := hl_set (by rw [List.length_set]; exact hl_lt hnq0)
        obtain ⟨hb9, hhb9⟩ : ∃ hb9 : mj_H, hb9 = ((h).set 23 (cO 5 [ii (vbo verb), ii fq, .ref 24, ii sq, ii lq, ii ((m1 : Nat) : Int), ii uq, zz rq, ro0, va0, ii 0, ii 0])).set 24 (cJ 1000 N1) := ⟨_, rfl⟩
        have hscr9 : scrS h hb9 := by rw [hhb9]; exact scrS_tr (scrS_set (e' := cO 5 [ii (vbo verb), ii fq, .ref 24, ii sq, ii lq, ii ((m1 : Nat) : Int), ii uq, zz rq, ro0, va0, ii 0, ii 0]) (by unfold scr; decide) ho0 rfl) (scrS_set (e' := cJ 1000 N1) (by unfold scr; decide) (hl_ne (by decide) hnq0) rfl)
        rw [← hhb9] at hobx hnqx ⊢
        refine x_cv (pc' := 221) (rest := []) dm_X3_of_218 rfl (g_inv (As := []) (S := []) hobx rfl rfl rfl (by decide)) rfl rfl rfl ((show pgV xt (d - 1) _ _ hb9 _ from p_endsF (m := m1) (u := paM (e + 1) (v1 0 0) v) (nu := 0) (vu := 0) (by omega) (by rw [hscr9.1]; exact hl) (by omega) hobx hnqx (by omega) (by omega) (by omega) (by omega))) ?_
        rintro _ hE ⟨rfl, ra, vals9, X9, hE1, hX2, hXs, hra, hva⟩
        refine me_1t (pc' := 237) dm_X3_of_221 rfl (by decide) ?_
        refine me1 (pc' := 238) (L' := [(0, .ref 17), (1, ii verb), (2, .ref p)]) (S' := [.ref 17]) dm_X3_of_237 rfl rfl rfl rfl ?_
        refine me3 (pc' := 241) (S' := [.ref 23]) dm_X3_of_238 (g_get (v := .ref 23) (by rw [hE1, hhb9]; exact hl_app (hl_ne (by decide) (hl_ne (by decide) (hl_ne (by decide) h17)))) rfl rfl (by decide)) rfl rfl rfl ?_
        refine me1 (pc' := 242) (L' := [(0, .ref 17), (1, ii verb), (2, .ref p)]) (S' := [.ref 17, .ref 23]) dm_X3_of_241 rfl rfl rfl rfl ?_
        refine me3 (pc' := 245) (S' := [.ref 25, .ref 23]) dm_X3_of_242 (g_get (v := .ref 25) (by rw [hE1, hhb9]; exact hl_app (hl_ne (by decide) (hl_ne (by decide) (hl_ne (by decide) h17)))) rfl rfl (by decide)) rfl rfl rfl ?_
        refine me1 (pc' := 246) (L' := [(0, .ref 17), (1, ii verb), (2, .ref p)]) (S' := [.ref p, .ref 25, .ref 23]) dm_X3_of_245 rfl rfl rfl rfl ?_
        have hlb9 : hb9.length = h.length := hscr9.1
        have hlE : hE.length = h.length + X9.length := by rw [hE1, List.length_append, List.length_set, hscr9.1]
        have hraL : h.length ≤ ra → ra < h.length + X9.length := by intro z; rcases hra with y | y; (have := y.2; omega); (have y3 := hl_lt y.2.2; rw [hlE] at y3; rw [y.2.1] at z ⊢; rw [hscr9.1] at y3 ⊢; exact y3)
        have hkp : ∀ x c, A x → h[x]? = some c → (rowA A h ra) x ∧ hE[x]? = some c := fun x c hx hg => ⟨Or.inl hx, by rw [hE1]; exact hl_app (hl_ne (fun z => nA hA (Or.inl (by decide)) (z ▸ hx)) ((hscr9.2.2 x (fun z => by have := hA x hx; unfold scr at z; omega)).trans hg))⟩
        have hAE : okA (rowA A h ra) hE := fun x hx => by rcases hx with hx | hx; (have := hA x hx; omega); (have := hraL (by omega); omega)
        obtain ⟨mr9, F9, hrow9, hR9⟩ : ∃ mr F, rowAt (rowA A h ra) hE ra mr F ∧ (paR (e + 1) (v1 0 0) v = true → paC (e + 1) (v1 0 0) v ≤ mr ∧ ∀ j, j < mr → F j = N1 j) := by rcases hra with ⟨y1, y2⟩ | ⟨y1, y2, y3⟩; (exact ⟨0, fun _ => 0, Or.inl ⟨y2, rfl⟩, fun z => by rw [← hpr, y1] at z; cases z⟩); (refine ⟨m1, _, Or.inr ⟨by omega, by rw [y2]; exact y3, by omega, Or.inr ⟨by rw [y2, hscr9.1]; exact Nat.le_refl _, rfl⟩⟩, fun _ => ⟨by omega, fun j hj => cpy_at hj⟩⟩)
        have hva9 : paM (e + 1) (v1 0 0) v = 0 ∧ vals9 = .null ∨ ∃ va, vals9 = .ref va ∧ 127 ≤ va ∧ ¬ (rowA A h ra) va ∧ hE[va]? = some (cA 4 (paM (e + 1) (v1 0 0) v) (fun _ => none)) := by rcases hva with y | ⟨y0, va, y1, y2, y3, y4, y5⟩; exact Or.inl y; (exact Or.inr ⟨va, y1, Nat.le_trans hl (hlb9 ▸ y2), fun z => z.elim (fun z => absurd (hA va z).1 (by rw [hlb9] at y2; omega)) (fun z => y4 z.2), y5⟩)
        refine x_cv (pc' := 249) (rest := []) dm_X3_of_246 rfl (g_inv (As := [.ref 25, .ref p]) (S := []) (by rw [hE1]; exact hl_app (hl_set (hl_lt hobx))) rfl rfl rfl (by decide)) rfl rfl rfl (p_makeU (A := (rowA A h ra)) (h := hE) (d := d - 1) (e := e) (o := 23) (nq := 24) (vb := vbo verb) hx1 (by omega) (by omega) (by omega) (by omega) hAE (cv_keep hkp hz1) (cv_keep hkp hv) (by omega) (by rw [hE1]; exact hl_app (hl_set (hl_lt hobx))) (by rw [hE1]; exact hl_app (hl_ne (by decide) hnqx)) hrow9 hpF hpN hpC hR9 rfl (by omega) hpS hva9) ?_
        rintro x h4 ⟨va9, arr9, V9, hmk, hva1, hva2⟩
        have hvz9 : arr9 → h.length ≤ va9 ∧ va9 < h.length + X9.length := fun z => by obtain ⟨y1, y2⟩ := hva1 z; rcases hva with ⟨_, y3⟩ | ⟨y0, va, y3, y4, y5, _⟩; (rw [y1] at y3; cases y3); (rw [y1] at y3; cases y3; rw [hscr9.1] at y4; exact ⟨y4, by omega⟩)
        obtain ⟨hs1, hsc1, hsy1, hso1, hres1⟩ := mk_done hl (by omega) hscr9 hobx hX2 hXs rfl hpm.symm (by rw [← hE1]; exact hmk) hraL hvz9 hva2
        obtain ⟨q9, rfl⟩ := vres_ref hres1
        refine y_ret (r := some (.ref q9)) dm_X3_of_249 rfl rfl rfl ?_
        refine ⟨_, rfl, hs1, hsc1, ?_, ?_⟩
        · rw [set_of_pt (by rw [hsc1.1, hscr9.1]) hsy1 hso1, hhb9]
          exact actH_23 (actH_24 (actH_23 hH _ _ _ _ _ _ _ _ _ _ _) _) _ _ _ _ _ _ _ _ _ _ _
        · rw [hspec, hspA, hspB]
          rw [hpo]
          exact ares_dup (show ares A hs1 (e + 1) (.inr _) _ _ _ _ from hres1)
    · refine me0 (pc' := 194) (S' := [ii 119, .ref 23]) dm_X3_of_192 rfl rfl rfl rfl ?_
      refine me2 (pc' := 198) (S' := [ii 119, .ref 23]) dm_X3_of_194 rfl rfl rfl ?_
      refine pg_st0 (S' := [ii (vbo verb), .ref 23]) (congrArg (fun z => ii z :: [.ref 23]) (by first | (exfalso; omega) | (unfold vbo; first | rw [if_pos (by omega)] | rw [if_neg (by omega)]))) ?_
      refine x_cn (pc' := 201) (rest := []) dm_X3_of_198 rfl (g_inv (As := [ii (vbo verb)]) (S := []) ho0 rfl rfl rfl (by decide)) rfl rfl rfl (p_ready (by omega) (by decide) ho0) ?_
      rintro _ rfl
      refine me1 (pc' := 202) (L' := [(0, .ref 17), (1, ii verb), (2, .ref p)]) (S' := [.ref 17]) dm_X3_of_201 rfl rfl rfl rfl ?_
      refine me3 (pc' := 205) (S' := [.ref 23]) dm_X3_of_202 (g_get (v := .ref 23) (hl_ne (by decide) h17) rfl rfl (by decide)) rfl rfl rfl ?_
      refine me1 (pc' := 206) (L' := [(0, .ref 17), (1, ii verb), (2, .ref p)]) (S' := [.ref 17, .ref 23]) dm_X3_of_205 rfl rfl rfl rfl ?_
      refine me3 (pc' := 209) (S' := [.ref 25, .ref 23]) dm_X3_of_206 (g_get (v := .ref 25) (hl_ne (by decide) h17) rfl rfl (by decide)) rfl rfl rfl ?_
      refine me1 (pc' := 210) (L' := [(0, .ref 17), (1, ii verb), (2, .ref p)]) (S' := [.ref p, .ref 25, .ref 23]) dm_X3_of_209 rfl rfl rfl rfl ?_
      refine me0 (pc' := 211) (S' := [ii 0, .ref p, .ref 25, .ref 23]) dm_X3_of_210 rfl rfl rfl rfl ?_
      have hAr : okA A ((h).set 23 (cO 5 [ii (vbo verb), ii 0, .ref 24, ii 0, ii 0, ii 0, ii 0, zz false, ro0, va0, ii 0, ii 0])) := fun x hx => by rw [List.length_set]; exact hA x hx
      refine x_cn (pc' := 214) (rest := []) dm_X3_of_211 rfl (g_inv (As := [.ref 25, .ref p, ii 0]) (S := []) (hl_set (hl_lt ho0)) rfl rfl rfl (by decide)) rfl rfl rfl ((show pgN xt (d - 1) _ _ _ _ from p_ask (A := A) (o := 23) (nq := 24) (vb := vbo verb) hx1 (by omega) (by omega) (e + 1) (h := (h).set 23 (cO 5 [ii (vbo verb), ii 0, .ref 24, ii 0, ii 0, ii 0, ii 0, zz false, ro0, va0, ii 0, ii 0])) (m0 := 0) (N0 := N0) (sz := 0) (lv := 0) (ar := 0) (vm_ := 0) (nu := 0) (vu := 0) (rw_ := false) (ro := ro0) (va := va0) (by omega) hAr (cv_set (nA hA (Or.inl (by decide))) hz1) (cv_set (nA hA (Or.inl (by decide))) hv) (hl_set (hl_lt ho0)) (hl_ne (by decide) hnq0) (by omega) (by omega) (by omega) (by omega))) ?_
      rintro _ ⟨m1, N1, fq, sq, lq, uq, rq, rfl, hk1⟩
      rw [List.set_set]
      obtain ⟨hfr9, hsr9⟩ := pair_rng hk1 (cv_wf hz1) (cv_wf hv) hz9 hset (by omega)
      refine me1 (pc' := 215) (L' := [(0, .ref 17), (1, ii verb), (2, .ref p)]) (S' := [.ref 17]) dm_X3_of_214 rfl rfl rfl rfl ?_
      refine me3 (pc' := 218) (S' := [.ref 23]) dm_X3_of_215 (g_get (v := .ref 23) (hl_ne (by decide) (hl_ne (by decide) h17)) rfl rfl (by decide)) rfl rfl rfl ?_
      by_cases hz9 : fq ≠ 0 ∨ 1000 < sq ∨ 5 < lq
      · obtain ⟨hpe, hpe1, hpe2⟩ := pair_err hk1 hz9
        refine x_cv (pc' := 221) (rest := []) dm_X3_of_218 rfl (g_inv (As := []) (S := []) (hl_ne (by decide) (hl_set (hl_lt ho0))) rfl rfl rfl (by decide)) rfl rfl rfl ((show pgV xt (d - 1) _ _ _ (fun x h' => x = ii 1 ∧ h' = ((h).set 23 (cO 5 [ii (vbo verb), ii (fE fq sq lq), .ref 24, ii sq, ii lq, ii ((m1 : Nat) : Int), ii uq, zz rq, ro0, va0, ii 0, ii 0])).set 24 (cJ 1000 N1)) from by have z := p_endsT (xt := xt) (d := d - 1) (o := 23) (nq := 24) (h := ((h).set 23 (cO 5 [ii (vbo verb), ii fq, .ref 24, ii sq, ii lq, ii ((m1 : Nat) : Int), ii uq, zz rq, ro0, va0, ii 0, ii 0])).set 24 (cJ 1000 N1)) (by omega) (by decide) (hl_ne (by decide) (hl_set (hl_lt ho0))) hfr9 hsr9 hz9; rw [setoq (by decide)] at z; exact z)) ?_
        rintro _ _ ⟨rfl, rfl⟩
        refine me_1f (pc' := 224) dm_X3_of_221 rfl (by decide) rfl ?_
        refine me1 (pc' := 225) (L' := [(0, .ref 17), (1, ii verb), (2, .ref p)]) (S' := [.ref 17]) dm_X3_of_224 rfl rfl rfl rfl ?_
        refine me3 (pc' := 228) (S' := [.ref 23]) dm_X3_of_225 (g_get (v := .ref 23) (hl_ne (by decide) (hl_ne (by decide) h17)) rfl rfl (by decide)) rfl rfl rfl ?_
        refine x_cp (pc' := 231) (v := ii (fE fq sq lq)) (rest := []) dm_X3_of_228 rfl (g_inv (As := []) (S := []) (hl_ne (by decide) (hl_set (hl_lt ho0))) rfl rfl rfl (by decide)) rfl rfl rfl (p_error (by omega) (by decide) (hl_ne (by decide) (hl_set (hl_lt ho0)))) ?_
        refine x_cv (pc' := 234) (rest := []) dm_X3_of_231 rfl (g_invs (As := [ii (fE fq sq lq)]) (S := []) rfl rfl rfl) rfl rfl rfl (c_fault (q := h.length) (by omega) (by simp; omega) (by simp) (by omega)) ?_
        rintro _ _ ⟨rfl, rfl⟩
        refine me2 (pc' := 249) (S' := [.ref h.length]) dm_X3_of_234 rfl rfl rfl ?_
        refine y_ret (r := some (.ref h.length)) dm_X3_of_249 rfl rfl rfl ?_
        refine ⟨_, rfl, ((h).set 23 (cO 5 [ii (vbo verb), ii (fE fq sq lq), .ref 24, ii sq, ii lq, ii ((m1 : Nat) : Int), ii uq, zz rq, ro0, va0, ii 0, ii 0])).set 24 (cJ 1000 N1), scrS_tr (scrS_set (e' := cO 5 [ii (vbo verb), ii (fE fq sq lq), .ref 24, ii sq, ii lq, ii ((m1 : Nat) : Int), ii uq, zz rq, ro0, va0, ii 0, ii 0]) (by unfold scr; decide) ho0 rfl) (scrS_set (e' := cJ 1000 N1) (by unfold scr; decide) (hl_ne (by decide) hnq0) rfl), actH_24 (actH_23 hH _ _ _ _ _ _ _ _ _ _ _) _, ?_⟩
        rw [hspec, hspA, hspB]
        rw [hpe]
        have hfz := ares_fq (A := A) (h := ((h).set 23 (cO 5 [ii (vbo verb), ii (fE fq sq lq), .ref 24, ii sq, ii lq, ii ((m1 : Nat) : Int), ii uq, zz rq, ro0, va0, ii 0, ii 0])).set 24 (cJ 1000 N1)) (e := e + 2) (a := 1) (b := 9) (q := h.length) (fE fq sq lq).toNat (by simp) (by simp; omega) (Nat.le_refl _) (Nat.le_refl _)
        rw [show (((fE fq sq lq).toNat : Nat) : Int) = fE fq sq lq by omega] at hfz
        exact hfz
      · obtain ⟨hq0, hpo, hpF, hpS, hpL, hps, hpl, hpm, hpu, hpr, hpN, hpC, hpM⟩ := pair_ok hk1 (cv_wf hz1) (cv_wf hv) hz9
        have hobx : (((h).set 23 (cO 5 [ii (vbo verb), ii fq, .ref 24, ii sq, ii lq, ii ((m1 : Nat) : Int), ii uq, zz rq, ro0, va0, ii 0, ii 0])).set 24 (cJ 1000 N1))[23]? = some (PO (vbo verb) 0 24 sq lq ((m1 : Nat) : Int) ((paM (e + 1) (v1 0 0) v : Nat) : Int) rq ro0 va0 0 0) := by rw [← hpu, ← hq0]; exact hl_ne (by decide) (hl_set (hl_lt ho0))
        have hnqx : (((h).set 23 (cO 5 [ii (vbo verb), ii fq, .ref 24, ii sq, ii lq, ii ((m1 : Nat) : Int), ii uq, zz rq, ro0, va0, ii 0, ii 0])).set 24 (cJ 1000 N1))[24]? = some (cJ 1000 N1) := hl_set (by rw [List.length_set]; exact hl_lt hnq0)
        obtain ⟨hb9, hhb9⟩ : ∃ hb9 : mj_H, hb9 = ((h).set 23 (cO 5 [ii (vbo verb), ii fq, .ref 24, ii sq, ii lq, ii ((m1 : Nat) : Int), ii uq, zz rq, ro0, va0, ii 0, ii 0])).set 24 (cJ 1000 N1) := ⟨_, rfl⟩
        have hscr9 : scrS h hb9 := by rw [hhb9]; exact scrS_tr (scrS_set (e' := cO 5 [ii (vbo verb), ii fq, .ref 24, ii sq, ii lq, ii ((m1 : Nat) : Int), ii uq, zz rq, ro0, va0, ii 0, ii 0]) (by unfold scr; decide) ho0 rfl) (scrS_set (e' := cJ 1000 N1) (by unfold scr; decide) (hl_ne (by decide) hnq0) rfl)
        rw [← hhb9] at hobx hnqx ⊢
        refine x_cv (pc' := 221) (rest := []) dm_X3_of_218 rfl (g_inv (As := []) (S := []) hobx rfl rfl rfl (by decide)) rfl rfl rfl ((show pgV xt (d - 1) _ _ hb9 _ from p_endsF (m := m1) (u := paM (e + 1) (v1 0 0) v) (nu := 0) (vu := 0) (by omega) (by rw [hscr9.1]; exact hl) (by omega) hobx hnqx (by omega) (by omega) (by omega) (by omega))) ?_
        rintro _ hE ⟨rfl, ra, vals9, X9, hE1, hX2, hXs, hra, hva⟩
        refine me_1t (pc' := 237) dm_X3_of_221 rfl (by decide) ?_
        refine me1 (pc' := 238) (L' := [(0, .ref 17), (1, ii verb), (2, .ref p)]) (S' := [.ref 17]) dm_X3_of_237 rfl rfl rfl rfl ?_
        refine me3 (pc' := 241) (S' := [.ref 23]) dm_X3_of_238 (g_get (v := .ref 23) (by rw [hE1, hhb9]; exact hl_app (hl_ne (by decide) (hl_ne (by decide) (hl_ne (by decide) h17)))) rfl rfl (by decide)) rfl rfl rfl ?_
        refine me1 (pc' := 242) (L' := [(0, .ref 17), (1, ii verb), (2, .ref p)]) (S' := [.ref 17, .ref 23]) dm_X3_of_241 rfl rfl rfl rfl ?_
        refine me3 (pc' := 245) (S' := [.ref 25, .ref 23]) dm_X3_of_242 (g_get (v := .ref 25) (by rw [hE1, hhb9]; exact hl_app (hl_ne (by decide) (hl_ne (by decide) (hl_ne (by decide) h17)))) rfl rfl (by decide)) rfl rfl rfl ?_
        refine me1 (pc' := 246) (L' := [(0, .ref 17), (1, ii verb), (2, .ref p)]) (S' := [.ref p, .ref 25, .ref 23]) dm_X3_of_245 rfl rfl rfl rfl ?_
        have hlb9 : hb9.length = h.length := hscr9.1
        have hlE : hE.length = h.length + X9.length := by rw [hE1, List.length_append, List.length_set, hscr9.1]
        have hraL : h.length ≤ ra → ra < h.length + X9.length := by intro z; rcases hra with y | y; (have := y.2; omega); (have y3 := hl_lt y.2.2; rw [hlE] at y3; rw [y.2.1] at z ⊢; rw [hscr9.1] at y3 ⊢; exact y3)
        have hkp : ∀ x c, A x → h[x]? = some c → (rowA A h ra) x ∧ hE[x]? = some c := fun x c hx hg => ⟨Or.inl hx, by rw [hE1]; exact hl_app (hl_ne (fun z => nA hA (Or.inl (by decide)) (z ▸ hx)) ((hscr9.2.2 x (fun z => by have := hA x hx; unfold scr at z; omega)).trans hg))⟩
        have hAE : okA (rowA A h ra) hE := fun x hx => by rcases hx with hx | hx; (have := hA x hx; omega); (have := hraL (by omega); omega)
        obtain ⟨mr9, F9, hrow9, hR9⟩ : ∃ mr F, rowAt (rowA A h ra) hE ra mr F ∧ (paR (e + 1) (v1 0 0) v = true → paC (e + 1) (v1 0 0) v ≤ mr ∧ ∀ j, j < mr → F j = N1 j) := by rcases hra with ⟨y1, y2⟩ | ⟨y1, y2, y3⟩; (exact ⟨0, fun _ => 0, Or.inl ⟨y2, rfl⟩, fun z => by rw [← hpr, y1] at z; cases z⟩); (refine ⟨m1, _, Or.inr ⟨by omega, by rw [y2]; exact y3, by omega, Or.inr ⟨by rw [y2, hscr9.1]; exact Nat.le_refl _, rfl⟩⟩, fun _ => ⟨by omega, fun j hj => cpy_at hj⟩⟩)
        have hva9 : paM (e + 1) (v1 0 0) v = 0 ∧ vals9 = .null ∨ ∃ va, vals9 = .ref va ∧ 127 ≤ va ∧ ¬ (rowA A h ra) va ∧ hE[va]? = some (cA 4 (paM (e + 1) (v1 0 0) v) (fun _ => none)) := by rcases hva with y | ⟨y0, va, y1, y2, y3, y4, y5⟩; exact Or.inl y; (exact Or.inr ⟨va, y1, Nat.le_trans hl (hlb9 ▸ y2), fun z => z.elim (fun z => absurd (hA va z).1 (by rw [hlb9] at y2; omega)) (fun z => y4 z.2), y5⟩)
        refine x_cv (pc' := 249) (rest := []) dm_X3_of_246 rfl (g_inv (As := [.ref 25, .ref p]) (S := []) (by rw [hE1]; exact hl_app (hl_set (hl_lt hobx))) rfl rfl rfl (by decide)) rfl rfl rfl (p_makeU (A := (rowA A h ra)) (h := hE) (d := d - 1) (e := e) (o := 23) (nq := 24) (vb := vbo verb) hx1 (by omega) (by omega) (by omega) (by omega) hAE (cv_keep hkp hz1) (cv_keep hkp hv) (by omega) (by rw [hE1]; exact hl_app (hl_set (hl_lt hobx))) (by rw [hE1]; exact hl_app (hl_ne (by decide) hnqx)) hrow9 hpF hpN hpC hR9 rfl (by omega) hpS hva9) ?_
        rintro x h4 ⟨va9, arr9, V9, hmk, hva1, hva2⟩
        have hvz9 : arr9 → h.length ≤ va9 ∧ va9 < h.length + X9.length := fun z => by obtain ⟨y1, y2⟩ := hva1 z; rcases hva with ⟨_, y3⟩ | ⟨y0, va, y3, y4, y5, _⟩; (rw [y1] at y3; cases y3); (rw [y1] at y3; cases y3; rw [hscr9.1] at y4; exact ⟨y4, by omega⟩)
        obtain ⟨hs1, hsc1, hsy1, hso1, hres1⟩ := mk_done hl (by omega) hscr9 hobx hX2 hXs rfl hpm.symm (by rw [← hE1]; exact hmk) hraL hvz9 hva2
        obtain ⟨q9, rfl⟩ := vres_ref hres1
        refine y_ret (r := some (.ref q9)) dm_X3_of_249 rfl rfl rfl ?_
        refine ⟨_, rfl, hs1, hsc1, ?_, ?_⟩
        · rw [set_of_pt (by rw [hsc1.1, hscr9.1]) hsy1 hso1, hhb9]
          exact actH_23 (actH_24 (actH_23 hH _ _ _ _ _ _ _ _ _ _ _) _) _ _ _ _ _ _ _ _ _ _ _
        · rw [hspec, hspA, hspB]
          rw [hpo]
          exact ares_dup (show ares A hs1 (e + 1) (.inr _) _ _ _ _ from hres1)
  refine y_sw (a := verb) (46) (t := 312) (i := .lookupswitch 346 #[(33, 300), (35, 317), (36, 340), (37, 181), (38, 269), (42, 249), (43, 163), (44, 305), (45, 181), (46, 311), (60, 281), (61, 288), (62, 281), (63, 294), (64, 331), (94, 281), (95, 326), (124, 275), (126, 181)]) (len := 163) dm_X3_of_1 rfl rfl rfl (by omega) (by decide) (fun hb14 => ?_) (fun hb14 => ?_)
  · have hspec : s_one verb e v = m_told v := by unfold s_one; rw [if_neg (by omega), if_neg (by omega), if_neg (by omega), if_neg (by omega), if_neg (by omega), if_neg (by omega), if_neg (by omega), if_neg (by omega), if_neg (by omega), if_neg (by omega), if_pos (by omega)]
    have hspA : oneA verb e v = 2 := by unfold oneA; rw [if_neg (by omega), if_neg (by omega), if_neg (by omega), if_neg (by omega), if_neg (by omega), if_neg (by omega), if_neg (by omega), if_neg (by omega), if_neg (by omega), if_neg (by omega), if_pos (by omega)]
    have hspB : oneB verb e v = rsl (m_told v) := by unfold oneB; rw [if_neg (by omega), if_neg (by omega), if_neg (by omega), if_neg (by omega), if_neg (by omega), if_neg (by omega), if_neg (by omega), if_neg (by omega), if_neg (by omega), if_neg (by omega), if_pos (by omega)]
    refine me1 (pc' := 313) (L' := [(0, .ref 17), (1, ii verb), (2, .ref p)]) (S' := [.ref 17]) dm_X3_of_312 rfl rfl rfl rfl ?_
    refine me1 (pc' := 314) (L' := [(0, .ref 17), (1, ii verb), (2, .ref p)]) (S' := [.ref p, .ref 17]) dm_X3_of_313 rfl rfl rfl rfl ?_
    refine x_cv (pc' := 317) (rest := []) dm_X3_of_314 rfl (g_inv (As := [.ref p]) (S := []) h17 rfl rfl rfl (by decide)) rfl rfl rfl (o_numbersTold hx1 (by omega) hl hA hH hv (by omega) hset) ?_
    rintro x h2 hres
    obtain ⟨qz, rfl⟩ := aact_ref hres
    refine y_ret (r := some (.ref qz)) dm_X3_of_317 rfl rfl rfl ?_
    refine ⟨_, rfl, ?_⟩
    rw [hspec, hspA, hspB]
    exact aact_dup hres
  refine y_sw (a := verb) (60) (t := 282) (i := .lookupswitch 346 #[(33, 300), (35, 317), (36, 340), (37, 181), (38, 269), (42, 249), (43, 163), (44, 305), (45, 181), (46, 311), (60, 281), (61, 288), (62, 281), (63, 294), (64, 331), (94, 281), (95, 326), (124, 275), (126, 181)]) (len := 163) dm_X3_of_1 rfl rfl rfl (by omega) (by decide) (fun hb15 => ?_) (fun hb15 => ?_)
  · have hspec : s_one verb e v = m_sort verb v := by unfold s_one; rw [if_neg (by omega), if_neg (by omega), if_neg (by omega), if_neg (by omega), if_neg (by omega), if_pos (by omega)]
    have hspA : oneA verb e v = 2 := by unfold oneA; rw [if_neg (by omega), if_neg (by omega), if_neg (by omega), if_neg (by omega), if_neg (by omega), if_pos (by omega)]
    have hspB : oneB verb e v = vm v + 9 := by unfold oneB; rw [if_neg (by omega), if_neg (by omega), if_neg (by omega), if_neg (by omega), if_neg (by omega), if_pos (by omega)]
    refine me1 (pc' := 283) (L' := [(0, .ref 17), (1, ii verb), (2, .ref p)]) (S' := [.ref 17]) dm_X3_of_282 rfl rfl rfl rfl ?_
    refine me1 (pc' := 284) (L' := [(0, .ref 17), (1, ii verb), (2, .ref p)]) (S' := [ii verb, .ref 17]) dm_X3_of_283 rfl rfl rfl rfl ?_
    refine me1 (pc' := 285) (L' := [(0, .ref 17), (1, ii verb), (2, .ref p)]) (S' := [.ref p, ii verb, .ref 17]) dm_X3_of_284 rfl rfl rfl rfl ?_
    refine x_cv (pc' := 288) (rest := []) dm_X3_of_285 rfl (g_inv (As := [ii verb, .ref p]) (S := []) h17 rfl rfl rfl (by decide)) rfl rfl rfl (o_ordered hverbr hx1 (by omega) hl hA hH hv (by omega) hset) ?_
    rintro x h2 hres
    obtain ⟨qz, rfl⟩ := aact_ref hres
    refine y_ret (r := some (.ref qz)) dm_X3_of_288 rfl rfl rfl ?_
    refine ⟨_, rfl, ?_⟩
    rw [hspec, hspA, hspB]
    exact aact_dup hres
  refine y_sw (a := verb) (61) (t := 289) (i := .lookupswitch 346 #[(33, 300), (35, 317), (36, 340), (37, 181), (38, 269), (42, 249), (43, 163), (44, 305), (45, 181), (46, 311), (60, 281), (61, 288), (62, 281), (63, 294), (64, 331), (94, 281), (95, 326), (124, 275), (126, 181)]) (len := 163) dm_X3_of_1 rfl rfl rfl (by omega) (by decide) (fun hb16 => ?_) (fun hb16 => ?_)
  · have hspec : s_one verb e v = m_grp v := by unfold s_one; rw [if_neg (by omega), if_neg (by omega), if_neg (by omega), if_neg (by omega), if_neg (by omega), if_neg (by omega), if_pos (by omega)]
    have hspA : oneA verb e v = grN v + 3 := by unfold oneA; rw [if_neg (by omega), if_neg (by omega), if_neg (by omega), if_neg (by omega), if_neg (by omega), if_neg (by omega), if_pos (by omega)]
    have hspB : oneB verb e v = vm v + 10 * grN v + 9 := by unfold oneB; rw [if_neg (by omega), if_neg (by omega), if_neg (by omega), if_neg (by omega), if_neg (by omega), if_neg (by omega), if_pos (by omega)]
    refine me1 (pc' := 290) (L' := [(0, .ref 17), (1, ii verb), (2, .ref p)]) (S' := [.ref 17]) dm_X3_of_289 rfl rfl rfl rfl ?_
    refine me1 (pc' := 291) (L' := [(0, .ref 17), (1, ii verb), (2, .ref p)]) (S' := [.ref p, .ref 17]) dm_X3_of_290 rfl rfl rfl rfl ?_
    refine x_cv (pc' := 294) (rest := []) dm_X3_of_291 rfl (g_inv (As := [.ref p]) (S := []) h17 rfl rfl rfl (by decide)) rfl rfl rfl (o_groups hx1 (by omega) hl hA hH hv (by omega) hset) ?_
    rintro x h2 hres
    obtain ⟨qz, rfl⟩ := aact_ref hres
    refine y_ret (r := some (.ref qz)) dm_X3_of_294 rfl rfl rfl ?_
    refine ⟨_, rfl, ?_⟩
    rw [hspec, hspA, hspB]
    exact hres
  refine y_sw (a := verb) (62) (t := 282) (i := .lookupswitch 346 #[(33, 300), (35, 317), (36, 340), (37, 181), (38, 269), (42, 249), (43, 163), (44, 305), (45, 181), (46, 311), (60, 281), (61, 288), (62, 281), (63, 294), (64, 331), (94, 281), (95, 326), (124, 275), (126, 181)]) (len := 163) dm_X3_of_1 rfl rfl rfl (by omega) (by decide) (fun hb17 => ?_) (fun hb17 => ?_)
  · have hspec : s_one verb e v = m_sort verb v := by unfold s_one; rw [if_neg (by omega), if_neg (by omega), if_neg (by omega), if_neg (by omega), if_neg (by omega), if_pos (by omega)]
    have hspA : oneA verb e v = 2 := by unfold oneA; rw [if_neg (by omega), if_neg (by omega), if_neg (by omega), if_neg (by omega), if_neg (by omega), if_pos (by omega)]
    have hspB : oneB verb e v = vm v + 9 := by unfold oneB; rw [if_neg (by omega), if_neg (by omega), if_neg (by omega), if_neg (by omega), if_neg (by omega), if_pos (by omega)]
    refine me1 (pc' := 283) (L' := [(0, .ref 17), (1, ii verb), (2, .ref p)]) (S' := [.ref 17]) dm_X3_of_282 rfl rfl rfl rfl ?_
    refine me1 (pc' := 284) (L' := [(0, .ref 17), (1, ii verb), (2, .ref p)]) (S' := [ii verb, .ref 17]) dm_X3_of_283 rfl rfl rfl rfl ?_
    refine me1 (pc' := 285) (L' := [(0, .ref 17), (1, ii verb), (2, .ref p)]) (S' := [.ref p, ii verb, .ref 17]) dm_X3_of_284 rfl rfl rfl rfl ?_
    refine x_cv (pc' := 288) (rest := []) dm_X3_of_285 rfl (g_inv (As := [ii verb, .ref p]) (S := []) h17 rfl rfl rfl (by decide)) rfl rfl rfl (o_ordered hverbr hx1 (by omega) hl hA hH hv (by omega) hset) ?_
    rintro x h2 hres
    obtain ⟨qz, rfl⟩ := aact_ref hres
    refine y_ret (r := some (.ref qz)) dm_X3_of_288 rfl rfl rfl ?_
    refine ⟨_, rfl, ?_⟩
    rw [hspec, hspA, hspB]
    exact aact_dup hres
  refine y_sw (a := verb) (63) (t := 295) (i := .lookupswitch 346 #[(33, 300), (35, 317), (36, 340), (37, 181), (38, 269), (42, 249), (43, 163), (44, 305), (45, 181), (46, 311), (60, 281), (61, 288), (62, 281), (63, 294), (64, 331), (94, 281), (95, 326), (124, 275), (126, 181)]) (len := 163) dm_X3_of_1 rfl rfl rfl (by omega) (by decide) (fun hb18 => ?_) (fun hb18 => ?_)
  · have hspec : s_one verb e v = m_unl (e + 1) v := by unfold s_one; rw [if_neg (by omega), if_neg (by omega), if_neg (by omega), if_neg (by omega), if_neg (by omega), if_neg (by omega), if_neg (by omega), if_pos (by omega)]
    have hspA : oneA verb e v = m_unla (e + 1) v := by unfold oneA; rw [if_neg (by omega), if_neg (by omega), if_neg (by omega), if_neg (by omega), if_neg (by omega), if_neg (by omega), if_neg (by omega), if_pos (by omega)]
    have hspB : oneB verb e v = m_unlb (e + 1) v := by unfold oneB; rw [if_neg (by omega), if_neg (by omega), if_neg (by omega), if_neg (by omega), if_neg (by omega), if_neg (by omega), if_neg (by omega), if_pos (by omega)]
    refine me1 (pc' := 296) (L' := [(0, .ref 17), (1, ii verb), (2, .ref p)]) (S' := [.ref 17]) dm_X3_of_295 rfl rfl rfl rfl ?_
    refine me1 (pc' := 297) (L' := [(0, .ref 17), (1, ii verb), (2, .ref p)]) (S' := [.ref p, .ref 17]) dm_X3_of_296 rfl rfl rfl rfl ?_
    refine x_cv (pc' := 300) (rest := []) dm_X3_of_297 rfl (g_inv (As := [.ref p]) (S := []) h17 rfl rfl rfl (by decide)) rfl rfl rfl (o_unlike hx1 (by omega) hl hA hH hv (by omega) hset) ?_
    rintro x h2 hres
    obtain ⟨qz, rfl⟩ := aact_ref hres
    refine y_ret (r := some (.ref qz)) dm_X3_of_300 rfl rfl rfl ?_
    refine ⟨_, rfl, ?_⟩
    rw [hspec, hspA, hspB]
    exact hres
  refine y_sw (a := verb) (64) (t := 332) (i := .lookupswitch 346 #[(33, 300), (35, 317), (36, 340), (37, 181), (38, 269), (42, 249), (43, 163), (44, 305), (45, 181), (46, 311), (60, 281), (61, 288), (62, 281), (63, 294), (64, 331), (94, 281), (95, 326), (124, 275), (126, 181)]) (len := 163) dm_X3_of_1 rfl rfl rfl (by omega) (by decide) (fun hb19 => ?_) (fun hb19 => ?_)
  · have hspec : s_one verb e v = .inr (v1 0 (Int64.ofInt (vk v : Int))) := by unfold s_one; rw [if_neg (by omega), if_neg (by omega), if_neg (by omega), if_neg (by omega), if_neg (by omega), if_neg (by omega), if_neg (by omega), if_neg (by omega), if_neg (by omega), if_neg (by omega), if_neg (by omega), if_neg (by omega), if_neg (by omega), if_pos (by omega)]
    have hspA : oneA verb e v = 1 := by unfold oneA; rw [if_neg (by omega), if_neg (by omega), if_neg (by omega), if_neg (by omega), if_neg (by omega), if_neg (by omega), if_neg (by omega), if_neg (by omega), if_neg (by omega), if_neg (by omega), if_neg (by omega), if_neg (by omega), if_neg (by omega), if_pos (by omega)]
    have hspB : oneB verb e v = 9 := by unfold oneB; rw [if_neg (by omega), if_neg (by omega), if_neg (by omega), if_neg (by omega), if_neg (by omega), if_neg (by omega), if_neg (by omega), if_neg (by omega), if_neg (by omega), if_neg (by omega), if_neg (by omega), if_neg (by omega), if_neg (by omega), if_pos (by omega)]
    refine me1 (pc' := 333) (L' := [(0, .ref 17), (1, ii verb), (2, .ref p)]) (S' := [.ref p]) dm_X3_of_332 rfl rfl rfl rfl ?_
    refine me3 (pc' := 336) (S' := [ii (vk v : Int)]) dm_X3_of_333 (g_get (v := ii (vk v : Int)) hp rfl rfl (by omega)) rfl rfl rfl ?_
    refine y_i2l (a := (vk v : Int)) dm_X3_of_336 (pc' := 337) rfl (by omega) (by omega) ?_
    refine x_cv (pc' := 340) (rest := []) dm_X3_of_337 rfl (g_invs (As := [.long (Int64.ofInt (vk v : Int))]) (S := []) rfl rfl rfl) rfl rfl rfl (c_number (q := h.length) (by omega) (by omega) rfl ) ?_
    rintro _ _ ⟨rfl, rfl⟩
    refine y_ret (r := some (.ref h.length)) dm_X3_of_340 rfl rfl rfl ?_
    refine ⟨_, rfl, h, scrS_rf h, hH, ?_⟩
    rw [hspec, hspA, hspB]
    exact vres_one (k := 0) (by omega) (by omega) (by omega) (by omega)
  refine y_sw (a := verb) (94) (t := 282) (i := .lookupswitch 346 #[(33, 300), (35, 317), (36, 340), (37, 181), (38, 269), (42, 249), (43, 163), (44, 305), (45, 181), (46, 311), (60, 281), (61, 288), (62, 281), (63, 294), (64, 331), (94, 281), (95, 326), (124, 275), (126, 181)]) (len := 163) dm_X3_of_1 rfl rfl rfl (by omega) (by decide) (fun hb20 => ?_) (fun hb20 => ?_)
  · have hspec : s_one verb e v = m_sort verb v := by unfold s_one; rw [if_neg (by omega), if_neg (by omega), if_neg (by omega), if_neg (by omega), if_neg (by omega), if_pos (by omega)]
    have hspA : oneA verb e v = 2 := by unfold oneA; rw [if_neg (by omega), if_neg (by omega), if_neg (by omega), if_neg (by omega), if_neg (by omega), if_pos (by omega)]
    have hspB : oneB verb e v = vm v + 9 := by unfold oneB; rw [if_neg (by omega), if_neg (by omega), if_neg (by omega), if_neg (by omega), if_neg (by omega), if_pos (by omega)]
    refine me1 (pc' := 283) (L' := [(0, .ref 17), (1, ii verb), (2, .ref p)]) (S' := [.ref 17]) dm_X3_of_282 rfl rfl rfl rfl ?_
    refine me1 (pc' := 284) (L' := [(0, .ref 17), (1, ii verb), (2, .ref p)]) (S' := [ii verb, .ref 17]) dm_X3_of_283 rfl rfl rfl rfl ?_
    refine me1 (pc' := 285) (L' := [(0, .ref 17), (1, ii verb), (2, .ref p)]) (S' := [.ref p, ii verb, .ref 17]) dm_X3_of_284 rfl rfl rfl rfl ?_
    refine x_cv (pc' := 288) (rest := []) dm_X3_of_285 rfl (g_inv (As := [ii verb, .ref p]) (S := []) h17 rfl rfl rfl (by decide)) rfl rfl rfl (o_ordered hverbr hx1 (by omega) hl hA hH hv (by omega) hset) ?_
    rintro x h2 hres
    obtain ⟨qz, rfl⟩ := aact_ref hres
    refine y_ret (r := some (.ref qz)) dm_X3_of_288 rfl rfl rfl ?_
    refine ⟨_, rfl, ?_⟩
    rw [hspec, hspA, hspB]
    exact aact_dup hres
  refine y_sw (a := verb) (95) (t := 327) (i := .lookupswitch 346 #[(33, 300), (35, 317), (36, 340), (37, 181), (38, 269), (42, 249), (43, 163), (44, 305), (45, 181), (46, 311), (60, 281), (61, 288), (62, 281), (63, 294), (64, 331), (94, 281), (95, 326), (124, 275), (126, 181)]) (len := 163) dm_X3_of_1 rfl rfl rfl (by omega) (by decide) (fun hb21 => ?_) (fun hb21 => ?_)
  · have hspec : s_one verb e v = m_shape v := by unfold s_one; rw [if_neg (by omega), if_neg (by omega), if_neg (by omega), if_neg (by omega), if_neg (by omega), if_neg (by omega), if_neg (by omega), if_neg (by omega), if_neg (by omega), if_neg (by omega), if_neg (by omega), if_neg (by omega), if_pos (by omega)]
    have hspA : oneA verb e v = 2 := by unfold oneA; rw [if_neg (by omega), if_neg (by omega), if_neg (by omega), if_neg (by omega), if_neg (by omega), if_neg (by omega), if_neg (by omega), if_neg (by omega), if_neg (by omega), if_neg (by omega), if_neg (by omega), if_neg (by omega), if_pos (by omega)]
    have hspB : oneB verb e v = 11 := by unfold oneB; rw [if_neg (by omega), if_neg (by omega), if_neg (by omega), if_neg (by omega), if_neg (by omega), if_neg (by omega), if_neg (by omega), if_neg (by omega), if_neg (by omega), if_neg (by omega), if_neg (by omega), if_neg (by omega), if_pos (by omega)]
    refine me1 (pc' := 328) (L' := [(0, .ref 17), (1, ii verb), (2, .ref p)]) (S' := [.ref p]) dm_X3_of_327 rfl rfl rfl rfl ?_
    refine x_cv (pc' := 331) (rest := []) dm_X3_of_328 rfl (g_invs (As := [.ref p]) (S := []) rfl rfl rfl) rfl rfl rfl (o_shape hx1 (by omega) hl hA hH hv (by omega) hset) ?_
    rintro x h2 hres
    obtain ⟨qz, rfl⟩ := aact_ref hres
    refine y_ret (r := some (.ref qz)) dm_X3_of_331 rfl rfl rfl ?_
    refine ⟨_, rfl, ?_⟩
    rw [hspec, hspA, hspB]
    exact aact_dup hres
  refine y_sw (a := verb) (124) (t := 276) (i := .lookupswitch 346 #[(33, 300), (35, 317), (36, 340), (37, 181), (38, 269), (42, 249), (43, 163), (44, 305), (45, 181), (46, 311), (60, 281), (61, 288), (62, 281), (63, 294), (64, 331), (94, 281), (95, 326), (124, 275), (126, 181)]) (len := 163) dm_X3_of_1 rfl rfl rfl (by omega) (by decide) (fun hb22 => ?_) (fun hb22 => ?_)
  · have hspec : s_one verb e v = m_turn v := by unfold s_one; rw [if_neg (by omega), if_neg (by omega), if_neg (by omega), if_neg (by omega), if_pos (by omega)]
    have hspA : oneA verb e v = 2 := by unfold oneA; rw [if_neg (by omega), if_neg (by omega), if_neg (by omega), if_neg (by omega), if_pos (by omega)]
    have hspB : oneB verb e v = pcl v (vm v) + 9 := by unfold oneB; rw [if_neg (by omega), if_neg (by omega), if_neg (by omega), if_neg (by omega), if_pos (by omega)]
    refine me1 (pc' := 277) (L' := [(0, .ref 17), (1, ii verb), (2, .ref p)]) (S' := [.ref 17]) dm_X3_of_276 rfl rfl rfl rfl ?_
    refine me1 (pc' := 278) (L' := [(0, .ref 17), (1, ii verb), (2, .ref p)]) (S' := [.ref p, .ref 17]) dm_X3_of_277 rfl rfl rfl rfl ?_
    refine x_cv (pc' := 281) (rest := []) dm_X3_of_278 rfl (g_inv (As := [.ref p]) (S := []) h17 rfl rfl rfl (by decide)) rfl rfl rfl (o_turned hx1 (by omega) hl hA hH hv (by omega) hset) ?_
    rintro x h2 hres
    obtain ⟨qz, rfl⟩ := aact_ref hres
    refine y_ret (r := some (.ref qz)) dm_X3_of_281 rfl rfl rfl ?_
    refine ⟨_, rfl, ?_⟩
    rw [hspec, hspA, hspB]
    exact aact_dup hres
  refine y_sw (a := verb) (126) (t := 182) (i := .lookupswitch 346 #[(33, 300), (35, 317), (36, 340), (37, 181), (38, 269), (42, 249), (43, 163), (44, 305), (45, 181), (46, 311), (60, 281), (61, 288), (62, 281), (63, 294), (64, 331), (94, 281), (95, 326), (124, 275), (126, 181)]) (len := 163) dm_X3_of_1 rfl rfl rfl (by omega) (by decide) (fun hb23 => ?_) (fun hb23 => ?_)
  · have hspec : s_one verb e v = d_pair (vbo verb) (e + 1) (v1 0 0) v := by unfold s_one; rw [if_neg (by omega), if_pos (by omega)]
    have hspA : oneA verb e v = pcA (d_pair (vbo verb) (e + 1) (v1 0 0) v) (prA (e + 1) (v1 0 0) v) := by unfold oneA; rw [if_neg (by omega), if_pos (by omega)]
    have hspB : oneB verb e v = pcB (d_pair (vbo verb) (e + 1) (v1 0 0) v) (prB (e + 1) (v1 0 0) v) := by unfold oneB; rw [if_neg (by omega), if_pos (by omega)]
    refine me1 (pc' := 183) (L' := [(0, .ref 17), (1, ii verb), (2, .ref p)]) (S' := [.ref 17]) dm_X3_of_182 rfl rfl rfl rfl ?_
    refine me3 (pc' := 186) (S' := [.ref 23]) dm_X3_of_183 (g_get (v := .ref 23) h17 rfl rfl (by decide)) rfl rfl rfl ?_
    refine me1 (pc' := 187) (L' := [(0, .ref 17), (1, ii verb), (2, .ref p)]) (S' := [ii verb, .ref 23]) dm_X3_of_186 rfl rfl rfl rfl ?_
    refine me0 (pc' := 189) (S' := [ii 37, ii verb, .ref 23]) dm_X3_of_187 rfl rfl rfl rfl ?_
    refine y_2ne (a := verb) (b := 37) (t := 197) (pc' := 192) dm_X3_of_189 rfl rfl (by omega) (fun hb24 => ?_) (fun hb24 => ?_)
    · refine me1 (pc' := 198) (L' := [(0, .ref 17), (1, ii verb), (2, .ref p)]) (S' := [ii verb, .ref 23]) dm_X3_of_197 rfl rfl rfl rfl ?_
      refine pg_st0 (S' := [ii (vbo verb), .ref 23]) (congrArg (fun z => ii z :: [.ref 23]) (by first | (exfalso; omega) | (unfold vbo; first | rw [if_pos (by omega)] | rw [if_neg (by omega)]))) ?_
      refine x_cn (pc' := 201) (rest := []) dm_X3_of_198 rfl (g_inv (As := [ii (vbo verb)]) (S := []) ho0 rfl rfl rfl (by decide)) rfl rfl rfl (p_ready (by omega) (by decide) ho0) ?_
      rintro _ rfl
      refine me1 (pc' := 202) (L' := [(0, .ref 17), (1, ii verb), (2, .ref p)]) (S' := [.ref 17]) dm_X3_of_201 rfl rfl rfl rfl ?_
      refine me3 (pc' := 205) (S' := [.ref 23]) dm_X3_of_202 (g_get (v := .ref 23) (hl_ne (by decide) h17) rfl rfl (by decide)) rfl rfl rfl ?_
      refine me1 (pc' := 206) (L' := [(0, .ref 17), (1, ii verb), (2, .ref p)]) (S' := [.ref 17, .ref 23]) dm_X3_of_205 rfl rfl rfl rfl ?_
      refine me3 (pc' := 209) (S' := [.ref 25, .ref 23]) dm_X3_of_206 (g_get (v := .ref 25) (hl_ne (by decide) h17) rfl rfl (by decide)) rfl rfl rfl ?_
      refine me1 (pc' := 210) (L' := [(0, .ref 17), (1, ii verb), (2, .ref p)]) (S' := [.ref p, .ref 25, .ref 23]) dm_X3_of_209 rfl rfl rfl rfl ?_
      refine me0 (pc' := 211) (S' := [ii 0, .ref p, .ref 25, .ref 23]) dm_X3_of_210 rfl rfl rfl rfl ?_
      have hAr : okA A ((h).set 23 (cO 5 [ii (vbo verb), ii 0, .ref 24, ii 0, ii 0, ii 0, ii 0, zz false, ro0, va0, ii 0, ii 0])) := fun x hx => by rw [List.length_set]; exact hA x hx
      refine x_cn (pc' := 214) (rest := []) dm_X3_of_211 rfl (g_inv (As := [.ref 25, .ref p, ii 0]) (S := []) (hl_set (hl_lt ho0)) rfl rfl rfl (by decide)) rfl rfl rfl ((show pgN xt (d - 1) _ _ _ _ from p_ask (A := A) (o := 23) (nq := 24) (vb := vbo verb) hx1 (by omega) (by omega) (e + 1) (h := (h).set 23 (cO 5 [ii (vbo verb), ii 0, .ref 24, ii 0, ii 0, ii 0, ii 0, zz false, ro0, va0, ii 0, ii 0])) (m0 := 0) (N0 := N0) (sz := 0) (lv := 0) (ar := 0) (vm_ := 0) (nu := 0) (vu := 0) (rw_ := false) (ro := ro0) (va := va0) (by omega) hAr (cv_set (nA hA (Or.inl (by decide))) hz1) (cv_set (nA hA (Or.inl (by decide))) hv) (hl_set (hl_lt ho0)) (hl_ne (by decide) hnq0) (by omega) (by omega) (by omega) (by omega))) ?_
      rintro _ ⟨m1, N1, fq, sq, lq, uq, rq, rfl, hk1⟩
      rw [List.set_set]
      obtain ⟨hfr9, hsr9⟩ := pair_rng hk1 (cv_wf hz1) (cv_wf hv) hz9 hset (by omega)
      refine me1 (pc' := 215) (L' := [(0, .ref 17), (1, ii verb), (2, .ref p)]) (S' := [.ref 17]) dm_X3_of_214 rfl rfl rfl rfl ?_
      refine me3 (pc' := 218) (S' := [.ref 23]) dm_X3_of_215 (g_get (v := .ref 23) (hl_ne (by decide) (hl_ne (by decide) h17)) rfl rfl (by decide)) rfl rfl rfl ?_
      by_cases hz9 : fq ≠ 0 ∨ 1000 < sq ∨ 5 < lq
      · obtain ⟨hpe, hpe1, hpe2⟩ := pair_err hk1 hz9
        refine x_cv (pc' := 221) (rest := []) dm_X3_of_218 rfl (g_inv (As := []) (S := []) (hl_ne (by decide) (hl_set (hl_lt ho0))) rfl rfl rfl (by decide)) rfl rfl rfl ((show pgV xt (d - 1) _ _ _ (fun x h' => x = ii 1 ∧ h' = ((h).set 23 (cO 5 [ii (vbo verb), ii (fE fq sq lq), .ref 24, ii sq, ii lq, ii ((m1 : Nat) : Int), ii uq, zz rq, ro0, va0, ii 0, ii 0])).set 24 (cJ 1000 N1)) from by have z := p_endsT (xt := xt) (d := d - 1) (o := 23) (nq := 24) (h := ((h).set 23 (cO 5 [ii (vbo verb), ii fq, .ref 24, ii sq, ii lq, ii ((m1 : Nat) : Int), ii uq, zz rq, ro0, va0, ii 0, ii 0])).set 24 (cJ 1000 N1)) (by omega) (by decide) (hl_ne (by decide) (hl_set (hl_lt ho0))) hfr9 hsr9 hz9; rw [setoq (by decide)] at z; exact z)) ?_
        rintro _ _ ⟨rfl, rfl⟩
        refine me_1f (pc' := 224) dm_X3_of_221 rfl (by decide) rfl ?_
        refine me1 (pc' := 225) (L' := [(0, .ref 17), (1, ii verb), (2, .ref p)]) (S' := [.ref 17]) dm_X3_of_224 rfl rfl rfl rfl ?_
        refine me3 (pc' := 228) (S' := [.ref 23]) dm_X3_of_225 (g_get (v := .ref 23) (hl_ne (by decide) (hl_ne (by decide) h17)) rfl rfl (by decide)) rfl rfl rfl ?_
        refine x_cp (pc' := 231) (v := ii (fE fq sq lq)) (rest := []) dm_X3_of_228 rfl (g_inv (As := []) (S := []) (hl_ne (by decide) (hl_set (hl_lt ho0))) rfl rfl rfl (by decide)) rfl rfl rfl (p_error (by omega) (by decide) (hl_ne (by decide) (hl_set (hl_lt ho0)))) ?_
        refine x_cv (pc' := 234) (rest := []) dm_X3_of_231 rfl (g_invs (As := [ii (fE fq sq lq)]) (S := []) rfl rfl rfl) rfl rfl rfl (c_fault (q := h.length) (by omega) (by simp; omega) (by simp) (by omega)) ?_
        rintro _ _ ⟨rfl, rfl⟩
        refine me2 (pc' := 249) (S' := [.ref h.length]) dm_X3_of_234 rfl rfl rfl ?_
        refine y_ret (r := some (.ref h.length)) dm_X3_of_249 rfl rfl rfl ?_
        refine ⟨_, rfl, ((h).set 23 (cO 5 [ii (vbo verb), ii (fE fq sq lq), .ref 24, ii sq, ii lq, ii ((m1 : Nat) : Int), ii uq, zz rq, ro0, va0, ii 0, ii 0])).set 24 (cJ 1000 N1), scrS_tr (scrS_set (e' := cO 5 [ii (vbo verb), ii (fE fq sq lq), .ref 24, ii sq, ii lq, ii ((m1 : Nat) : Int), ii uq, zz rq, ro0, va0, ii 0, ii 0]) (by unfold scr; decide) ho0 rfl) (scrS_set (e' := cJ 1000 N1) (by unfold scr; decide) (hl_ne (by decide) hnq0) rfl), actH_24 (actH_23 hH _ _ _ _ _ _ _ _ _ _ _) _, ?_⟩
        rw [hspec, hspA, hspB]
        rw [hpe]
        have hfz := ares_fq (A := A) (h := ((h).set 23 (cO 5 [ii (vbo verb), ii (fE fq sq lq), .ref 24, ii sq, ii lq, ii ((m1 : Nat) : Int), ii uq, zz rq, ro0, va0, ii 0, ii 0])).set 24 (cJ 1000 N1)) (e := e + 2) (a := 1) (b := 9) (q := h.length) (fE fq sq lq).toNat (by simp) (by simp; omega) (Nat.le_refl _) (Nat.le_refl _)
        rw [show (((fE fq sq lq).toNat : Nat) : Int) = fE fq sq lq by omega] at hfz
        exact hfz
      · obtain ⟨hq0, hpo, hpF, hpS, hpL, hps, hpl, hpm, hpu, hpr, hpN, hpC, hpM⟩ := pair_ok hk1 (cv_wf hz1) (cv_wf hv) hz9
        have hobx : (((h).set 23 (cO 5 [ii (vbo verb), ii fq, .ref 24, ii sq, ii lq, ii ((m1 : Nat) : Int), ii uq, zz rq, ro0, va0, ii 0, ii 0])).set 24 (cJ 1000 N1))[23]? = some (PO (vbo verb) 0 24 sq lq ((m1 : Nat) : Int) ((paM (e + 1) (v1 0 0) v : Nat) : Int) rq ro0 va0 0 0) := by rw [← hpu, ← hq0]; exact hl_ne (by decide) (hl_set (hl_lt ho0))
        have hnqx : (((h).set 23 (cO 5 [ii (vbo verb), ii fq, .ref 24, ii sq, ii lq, ii ((m1 : Nat) : Int), ii uq, zz rq, ro0, va0, ii 0, ii 0])).set 24 (cJ 1000 N1))[24]? = some (cJ 1000 N1) := hl_set (by rw [List.length_set]; exact hl_lt hnq0)
        obtain ⟨hb9, hhb9⟩ : ∃ hb9 : mj_H, hb9 = ((h).set 23 (cO 5 [ii (vbo verb), ii fq, .ref 24, ii sq, ii lq, ii ((m1 : Nat) : Int), ii uq, zz rq, ro0, va0, ii 0, ii 0])).set 24 (cJ 1000 N1) := ⟨_, rfl⟩
        have hscr9 : scrS h hb9 := by rw [hhb9]; exact scrS_tr (scrS_set (e' := cO 5 [ii (vbo verb), ii fq, .ref 24, ii sq, ii lq, ii ((m1 : Nat) : Int), ii uq, zz rq, ro0, va0, ii 0, ii 0]) (by unfold scr; decide) ho0 rfl) (scrS_set (e' := cJ 1000 N1) (by unfold scr; decide) (hl_ne (by decide) hnq0) rfl)
        rw [← hhb9] at hobx hnqx ⊢
        refine x_cv (pc' := 221) (rest := []) dm_X3_of_218 rfl (g_inv (As := []) (S := []) hobx rfl rfl rfl (by decide)) rfl rfl rfl ((show pgV xt (d - 1) _ _ hb9 _ from p_endsF (m := m1) (u := paM (e + 1) (v1 0 0) v) (nu := 0) (vu := 0) (by omega) (by rw [hscr9.1]; exact hl) (by omega) hobx hnqx (by omega) (by omega) (by omega) (by omega))) ?_
        rintro _ hE ⟨rfl, ra, vals9, X9, hE1, hX2, hXs, hra, hva⟩
        refine me_1t (pc' := 237) dm_X3_of_221 rfl (by decide) ?_
        refine me1 (pc' := 238) (L' := [(0, .ref 17), (1, ii verb), (2, .ref p)]) (S' := [.ref 17]) dm_X3_of_237 rfl rfl rfl rfl ?_
        refine me3 (pc' := 241) (S' := [.ref 23]) dm_X3_of_238 (g_get (v := .ref 23) (by rw [hE1, hhb9]; exact hl_app (hl_ne (by decide) (hl_ne (by decide) (hl_ne (by decide) h17)))) rfl rfl (by decide)) rfl rfl rfl ?_
        refine me1 (pc' := 242) (L' := [(0, .ref 17), (1, ii verb), (2, .ref p)]) (S' := [.ref 17, .ref 23]) dm_X3_of_241 rfl rfl rfl rfl ?_
        refine me3 (pc' := 245) (S' := [.ref 25, .ref 23]) dm_X3_of_242 (g_get (v := .ref 25) (by rw [hE1, hhb9]; exact hl_app (hl_ne (by decide) (hl_ne (by decide) (hl_ne (by decide) h17)))) rfl rfl (by decide)) rfl rfl rfl ?_
        refine me1 (pc' := 246) (L' := [(0, .ref 17), (1, ii verb), (2, .ref p)]) (S' := [.ref p, .ref 25, .ref 23]) dm_X3_of_245 rfl rfl rfl rfl ?_
        have hlb9 : hb9.length = h.length := hscr9.1
        have hlE : hE.length = h.length + X9.length := by rw [hE1, List.length_append, List.length_set, hscr9.1]
        have hraL : h.length ≤ ra → ra < h.length + X9.length := by intro z; rcases hra with y | y; (have := y.2; omega); (have y3 := hl_lt y.2.2; rw [hlE] at y3; rw [y.2.1] at z ⊢; rw [hscr9.1] at y3 ⊢; exact y3)
        have hkp : ∀ x c, A x → h[x]? = some c → (rowA A h ra) x ∧ hE[x]? = some c := fun x c hx hg => ⟨Or.inl hx, by rw [hE1]; exact hl_app (hl_ne (fun z => nA hA (Or.inl (by decide)) (z ▸ hx)) ((hscr9.2.2 x (fun z => by have := hA x hx; unfold scr at z; omega)).trans hg))⟩
        have hAE : okA (rowA A h ra) hE := fun x hx => by rcases hx with hx | hx; (have := hA x hx; omega); (have := hraL (by omega); omega)
        obtain ⟨mr9, F9, hrow9, hR9⟩ : ∃ mr F, rowAt (rowA A h ra) hE ra mr F ∧ (paR (e + 1) (v1 0 0) v = true → paC (e + 1) (v1 0 0) v ≤ mr ∧ ∀ j, j < mr → F j = N1 j) := by rcases hra with ⟨y1, y2⟩ | ⟨y1, y2, y3⟩; (exact ⟨0, fun _ => 0, Or.inl ⟨y2, rfl⟩, fun z => by rw [← hpr, y1] at z; cases z⟩); (refine ⟨m1, _, Or.inr ⟨by omega, by rw [y2]; exact y3, by omega, Or.inr ⟨by rw [y2, hscr9.1]; exact Nat.le_refl _, rfl⟩⟩, fun _ => ⟨by omega, fun j hj => cpy_at hj⟩⟩)
        have hva9 : paM (e + 1) (v1 0 0) v = 0 ∧ vals9 = .null ∨ ∃ va, vals9 = .ref va ∧ 127 ≤ va ∧ ¬ (rowA A h ra) va ∧ hE[va]? = some (cA 4 (paM (e + 1) (v1 0 0) v) (fun _ => none)) := by rcases hva with y | ⟨y0, va, y1, y2, y3, y4, y5⟩; exact Or.inl y; (exact Or.inr ⟨va, y1, Nat.le_trans hl (hlb9 ▸ y2), fun z => z.elim (fun z => absurd (hA va z).1 (by rw [hlb9] at y2; omega)) (fun z => y4 z.2), y5⟩)
        refine x_cv (pc' := 249) (rest := []) dm_X3_of_246 rfl (g_inv (As := [.ref 25, .ref p]) (S := []) (by rw [hE1]; exact hl_app (hl_set (hl_lt hobx))) rfl rfl rfl (by decide)) rfl rfl rfl (p_makeU (A := (rowA A h ra)) (h := hE) (d := d - 1) (e := e) (o := 23) (nq := 24) (vb := vbo verb) hx1 (by omega) (by omega) (by omega) (by omega) hAE (cv_keep hkp hz1) (cv_keep hkp hv) (by omega) (by rw [hE1]; exact hl_app (hl_set (hl_lt hobx))) (by rw [hE1]; exact hl_app (hl_ne (by decide) hnqx)) hrow9 hpF hpN hpC hR9 rfl (by omega) hpS hva9) ?_
        rintro x h4 ⟨va9, arr9, V9, hmk, hva1, hva2⟩
        have hvz9 : arr9 → h.length ≤ va9 ∧ va9 < h.length + X9.length := fun z => by obtain ⟨y1, y2⟩ := hva1 z; rcases hva with ⟨_, y3⟩ | ⟨y0, va, y3, y4, y5, _⟩; (rw [y1] at y3; cases y3); (rw [y1] at y3; cases y3; rw [hscr9.1] at y4; exact ⟨y4, by omega⟩)
        obtain ⟨hs1, hsc1, hsy1, hso1, hres1⟩ := mk_done hl (by omega) hscr9 hobx hX2 hXs rfl hpm.symm (by rw [← hE1]; exact hmk) hraL hvz9 hva2
        obtain ⟨q9, rfl⟩ := vres_ref hres1
        refine y_ret (r := some (.ref q9)) dm_X3_of_249 rfl rfl rfl ?_
        refine ⟨_, rfl, hs1, hsc1, ?_, ?_⟩
        · rw [set_of_pt (by rw [hsc1.1, hscr9.1]) hsy1 hso1, hhb9]
          exact actH_23 (actH_24 (actH_23 hH _ _ _ _ _ _ _ _ _ _ _) _) _ _ _ _ _ _ _ _ _ _ _
        · rw [hspec, hspA, hspB]
          rw [hpo]
          exact ares_dup (show ares A hs1 (e + 1) (.inr _) _ _ _ _ from hres1)
    · refine me0 (pc' := 194) (S' := [ii 119, .ref 23]) dm_X3_of_192 rfl rfl rfl rfl ?_
      refine me2 (pc' := 198) (S' := [ii 119, .ref 23]) dm_X3_of_194 rfl rfl rfl ?_
      refine pg_st0 (S' := [ii (vbo verb), .ref 23]) (congrArg (fun z => ii z :: [.ref 23]) (by first | (exfalso; omega) | (unfold vbo; first | rw [if_pos (by omega)] | rw [if_neg (by omega)]))) ?_
      refine x_cn (pc' := 201) (rest := []) dm_X3_of_198 rfl (g_inv (As := [ii (vbo verb)]) (S := []) ho0 rfl rfl rfl (by decide)) rfl rfl rfl (p_ready (by omega) (by decide) ho0) ?_
      rintro _ rfl
      refine me1 (pc' := 202) (L' := [(0, .ref 17), (1, ii verb), (2, .ref p)]) (S' := [.ref 17]) dm_X3_of_201 rfl rfl rfl rfl ?_
      refine me3 (pc' := 205) (S' := [.ref 23]) dm_X3_of_202 (g_get (v := .ref 23) (hl_ne (by decide) h17) rfl rfl (by decide)) rfl rfl rfl ?_
      refine me1 (pc' := 206) (L' := [(0, .ref 17), (1, ii verb), (2, .ref p)]) (S' := [.ref 17, .ref 23]) dm_X3_of_205 rfl rfl rfl rfl ?_
      refine me3 (pc' := 209) (S' := [.ref 25, .ref 23]) dm_X3_of_206 (g_get (v := .ref 25) (hl_ne (by decide) h17) rfl rfl (by decide)) rfl rfl rfl ?_
      refine me1 (pc' := 210) (L' := [(0, .ref 17), (1, ii verb), (2, .ref p)]) (S' := [.ref p, .ref 25, .ref 23]) dm_X3_of_209 rfl rfl rfl rfl ?_
      refine me0 (pc' := 211) (S' := [ii 0, .ref p, .ref 25, .ref 23]) dm_X3_of_210 rfl rfl rfl rfl ?_
      have hAr : okA A ((h).set 23 (cO 5 [ii (vbo verb), ii 0, .ref 24, ii 0, ii 0, ii 0, ii 0, zz false, ro0, va0, ii 0, ii 0])) := fun x hx => by rw [List.length_set]; exact hA x hx
      refine x_cn (pc' := 214) (rest := []) dm_X3_of_211 rfl (g_inv (As := [.ref 25, .ref p, ii 0]) (S := []) (hl_set (hl_lt ho0)) rfl rfl rfl (by decide)) rfl rfl rfl ((show pgN xt (d - 1) _ _ _ _ from p_ask (A := A) (o := 23) (nq := 24) (vb := vbo verb) hx1 (by omega) (by omega) (e + 1) (h := (h).set 23 (cO 5 [ii (vbo verb), ii 0, .ref 24, ii 0, ii 0, ii 0, ii 0, zz false, ro0, va0, ii 0, ii 0])) (m0 := 0) (N0 := N0) (sz := 0) (lv := 0) (ar := 0) (vm_ := 0) (nu := 0) (vu := 0) (rw_ := false) (ro := ro0) (va := va0) (by omega) hAr (cv_set (nA hA (Or.inl (by decide))) hz1) (cv_set (nA hA (Or.inl (by decide))) hv) (hl_set (hl_lt ho0)) (hl_ne (by decide) hnq0) (by omega) (by omega) (by omega) (by omega))) ?_
      rintro _ ⟨m1, N1, fq, sq, lq, uq, rq, rfl, hk1⟩
      rw [List.set_set]
      obtain ⟨hfr9, hsr9⟩ := pair_rng hk1 (cv_wf hz1) (cv_wf hv) hz9 hset (by omega)
      refine me1 (pc' := 215) (L' := [(0, .ref 17), (1, ii verb), (2, .ref p)]) (S' := [.ref 17]) dm_X3_of_214 rfl rfl rfl rfl ?_
      refine me3 (pc' := 218) (S' := [.ref 23]) dm_X3_of_215 (g_get (v := .ref 23) (hl_ne (by decide) (hl_ne (by decide) h17)) rfl rfl (by decide)) rfl rfl rfl ?_
      by_cases hz9 : fq ≠ 0 ∨ 1000 < sq ∨ 5 < lq
      · obtain ⟨hpe, hpe1, hpe2⟩ := pair_err hk1 hz9
        refine x_cv (pc' := 221) (rest := []) dm_X3_of_218 rfl (g_inv (As := []) (S := []) (hl_ne (by decide) (hl_set (hl_lt ho0))) rfl rfl rfl (by decide)) rfl rfl rfl ((show pgV xt (d - 1) _ _ _ (fun x h' => x = ii 1 ∧ h' = ((h).set 23 (cO 5 [ii (vbo verb), ii (fE fq sq lq), .ref 24, ii sq, ii lq, ii ((m1 : Nat) : Int), ii uq, zz rq, ro0, va0, ii 0, ii 0])).set 24 (cJ 1000 N1)) from by have z := p_endsT (xt := xt) (d := d - 1) (o := 23) (nq := 24) (h := ((h).set 23 (cO 5 [ii (vbo verb), ii fq, .ref 24, ii sq, ii lq, ii ((m1 : Nat) : Int), ii uq, zz rq, ro0, va0, ii 0, ii 0])).set 24 (cJ 1000 N1)) (by omega) (by decide) (hl_ne (by decide) (hl_set (hl_lt ho0))) hfr9 hsr9 hz9; rw [setoq (by decide)] at z; exact z)) ?_
        rintro _ _ ⟨rfl, rfl⟩
        refine me_1f (pc' := 224) dm_X3_of_221 rfl (by decide) rfl ?_
        refine me1 (pc' := 225) (L' := [(0, .ref 17), (1, ii verb), (2, .ref p)]) (S' := [.ref 17]) dm_X3_of_224 rfl rfl rfl rfl ?_
        refine me3 (pc' := 228) (S' := [.ref 23]) dm_X3_of_225 (g_get (v := .ref 23) (hl_ne (by decide) (hl_ne (by decide) h17)) rfl rfl (by decide)) rfl rfl rfl ?_
        refine x_cp (pc' := 231) (v := ii (fE fq sq lq)) (rest := []) dm_X3_of_228 rfl (g_inv (As := []) (S := []) (hl_ne (by decide) (hl_set (hl_lt ho0))) rfl rfl rfl (by decide)) rfl rfl rfl (p_error (by omega) (by decide) (hl_ne (by decide) (hl_set (hl_lt ho0)))) ?_
        refine x_cv (pc' := 234) (rest := []) dm_X3_of_231 rfl (g_invs (As := [ii (fE fq sq lq)]) (S := []) rfl rfl rfl) rfl rfl rfl (c_fault (q := h.length) (by omega) (by simp; omega) (by simp) (by omega)) ?_
        rintro _ _ ⟨rfl, rfl⟩
        refine me2 (pc' := 249) (S' := [.ref h.length]) dm_X3_of_234 rfl rfl rfl ?_
        refine y_ret (r := some (.ref h.length)) dm_X3_of_249 rfl rfl rfl ?_
        refine ⟨_, rfl, ((h).set 23 (cO 5 [ii (vbo verb), ii (fE fq sq lq), .ref 24, ii sq, ii lq, ii ((m1 : Nat) : Int), ii uq, zz rq, ro0, va0, ii 0, ii 0])).set 24 (cJ 1000 N1), scrS_tr (scrS_set (e' := cO 5 [ii (vbo verb), ii (fE fq sq lq), .ref 24, ii sq, ii lq, ii ((m1 : Nat) : Int), ii uq, zz rq, ro0, va0, ii 0, ii 0]) (by unfold scr; decide) ho0 rfl) (scrS_set (e' := cJ 1000 N1) (by unfold scr; decide) (hl_ne (by decide) hnq0) rfl), actH_24 (actH_23 hH _ _ _ _ _ _ _ _ _ _ _) _, ?_⟩
        rw [hspec, hspA, hspB]
        rw [hpe]
        have hfz := ares_fq (A := A) (h := ((h).set 23 (cO 5 [ii (vbo verb), ii (fE fq sq lq), .ref 24, ii sq, ii lq, ii ((m1 : Nat) : Int), ii uq, zz rq, ro0, va0, ii 0, ii 0])).set 24 (cJ 1000 N1)) (e := e + 2) (a := 1) (b := 9) (q := h.length) (fE fq sq lq).toNat (by simp) (by simp; omega) (Nat.le_refl _) (Nat.le_refl _)
        rw [show (((fE fq sq lq).toNat : Nat) : Int) = fE fq sq lq by omega] at hfz
        exact hfz
      · obtain ⟨hq0, hpo, hpF, hpS, hpL, hps, hpl, hpm, hpu, hpr, hpN, hpC, hpM⟩ := pair_ok hk1 (cv_wf hz1) (cv_wf hv) hz9
        have hobx : (((h).set 23 (cO 5 [ii (vbo verb), ii fq, .ref 24, ii sq, ii lq, ii ((m1 : Nat) : Int), ii uq, zz rq, ro0, va0, ii 0, ii 0])).set 24 (cJ 1000 N1))[23]? = some (PO (vbo verb) 0 24 sq lq ((m1 : Nat) : Int) ((paM (e + 1) (v1 0 0) v : Nat) : Int) rq ro0 va0 0 0) := by rw [← hpu, ← hq0]; exact hl_ne (by decide) (hl_set (hl_lt ho0))
        have hnqx : (((h).set 23 (cO 5 [ii (vbo verb), ii fq, .ref 24, ii sq, ii lq, ii ((m1 : Nat) : Int), ii uq, zz rq, ro0, va0, ii 0, ii 0])).set 24 (cJ 1000 N1))[24]? = some (cJ 1000 N1) := hl_set (by rw [List.length_set]; exact hl_lt hnq0)
        obtain ⟨hb9, hhb9⟩ : ∃ hb9 : mj_H, hb9 = ((h).set 23 (cO 5 [ii (vbo verb), ii fq, .ref 24, ii sq, ii lq, ii ((m1 : Nat) : Int), ii uq, zz rq, ro0, va0, ii 0, ii 0])).set 24 (cJ 1000 N1) := ⟨_, rfl⟩
        have hscr9 : scrS h hb9 := by rw [hhb9]; exact scrS_tr (scrS_set (e' := cO 5 [ii (vbo verb), ii fq, .ref 24, ii sq, ii lq, ii ((m1 : Nat) : Int), ii uq, zz rq, ro0, va0, ii 0, ii 0]) (by unfold scr; decide) ho0 rfl) (scrS_set (e' := cJ 1000 N1) (by unfold scr; decide) (hl_ne (by decide) hnq0) rfl)
        rw [← hhb9] at hobx hnqx ⊢
        refine x_cv (pc' := 221) (rest := []) dm_X3_of_218 rfl (g_inv (As := []) (S := []) hobx rfl rfl rfl (by decide)) rfl rfl rfl ((show pgV xt (d - 1) _ _ hb9 _ from p_endsF (m := m1) (u := paM (e + 1) (v1 0 0) v) (nu := 0) (vu := 0) (by omega) (by rw [hscr9.1]; exact hl) (by omega) hobx hnqx (by omega) (by omega) (by omega) (by omega))) ?_
        rintro _ hE ⟨rfl, ra, vals9, X9, hE1, hX2, hXs, hra, hva⟩
        refine me_1t (pc' := 237) dm_X3_of_221 rfl (by decide) ?_
        refine me1 (pc' := 238) (L' := [(0, .ref 17), (1, ii verb), (2, .ref p)]) (S' := [.ref 17]) dm_X3_of_237 rfl rfl rfl rfl ?_
        refine me3 (pc' := 241) (S' := [.ref 23]) dm_X3_of_238 (g_get (v := .ref 23) (by rw [hE1, hhb9]; exact hl_app (hl_ne (by decide) (hl_ne (by decide) (hl_ne (by decide) h17)))) rfl rfl (by decide)) rfl rfl rfl ?_
        refine me1 (pc' := 242) (L' := [(0, .ref 17), (1, ii verb), (2, .ref p)]) (S' := [.ref 17, .ref 23]) dm_X3_of_241 rfl rfl rfl rfl ?_
        refine me3 (pc' := 245) (S' := [.ref 25, .ref 23]) dm_X3_of_242 (g_get (v := .ref 25) (by rw [hE1, hhb9]; exact hl_app (hl_ne (by decide) (hl_ne (by decide) (hl_ne (by decide) h17)))) rfl rfl (by decide)) rfl rfl rfl ?_
        refine me1 (pc' := 246) (L' := [(0, .ref 17), (1, ii verb), (2, .ref p)]) (S' := [.ref p, .ref 25, .ref 23]) dm_X3_of_245 rfl rfl rfl rfl ?_
        have hlb9 : hb9.length = h.length := hscr9.1
        have hlE : hE.length = h.length + X9.length := by rw [hE1, List.length_append, List.length_set, hscr9.1]
        have hraL : h.length ≤ ra → ra < h.length + X9.length := by intro z; rcases hra with y | y; (have := y.2; omega); (have y3 := hl_lt y.2.2; rw [hlE] at y3; rw [y.2.1] at z ⊢; rw [hscr9.1] at y3 ⊢; exact y3)
        have hkp : ∀ x c, A x → h[x]? = some c → (rowA A h ra) x ∧ hE[x]? = some c := fun x c hx hg => ⟨Or.inl hx, by rw [hE1]; exact hl_app (hl_ne (fun z => nA hA (Or.inl (by decide)) (z ▸ hx)) ((hscr9.2.2 x (fun z => by have := hA x hx; unfold scr at z; omega)).trans hg))⟩
        have hAE : okA (rowA A h ra) hE := fun x hx => by rcases hx with hx | hx; (have := hA x hx; omega); (have := hraL (by omega); omega)
        obtain ⟨mr9, F9, hrow9, hR9⟩ : ∃ mr F, rowAt (rowA A h ra) hE ra mr F ∧ (paR (e + 1) (v1 0 0) v = true → paC (e + 1) (v1 0 0) v ≤ mr ∧ ∀ j, j < mr → F j = N1 j) := by rcases hra with ⟨y1, y2⟩ | ⟨y1, y2, y3⟩; (exact ⟨0, fun _ => 0, Or.inl ⟨y2, rfl⟩, fun z => by rw [← hpr, y1] at z; cases z⟩); (refine ⟨m1, _, Or.inr ⟨by omega, by rw [y2]; exact y3, by omega, Or.inr ⟨by rw [y2, hscr9.1]; exact Nat.le_refl _, rfl⟩⟩, fun _ => ⟨by omega, fun j hj => cpy_at hj⟩⟩)
        have hva9 : paM (e + 1) (v1 0 0) v = 0 ∧ vals9 = .null ∨ ∃ va, vals9 = .ref va ∧ 127 ≤ va ∧ ¬ (rowA A h ra) va ∧ hE[va]? = some (cA 4 (paM (e + 1) (v1 0 0) v) (fun _ => none)) := by rcases hva with y | ⟨y0, va, y1, y2, y3, y4, y5⟩; exact Or.inl y; (exact Or.inr ⟨va, y1, Nat.le_trans hl (hlb9 ▸ y2), fun z => z.elim (fun z => absurd (hA va z).1 (by rw [hlb9] at y2; omega)) (fun z => y4 z.2), y5⟩)
        refine x_cv (pc' := 249) (rest := []) dm_X3_of_246 rfl (g_inv (As := [.ref 25, .ref p]) (S := []) (by rw [hE1]; exact hl_app (hl_set (hl_lt hobx))) rfl rfl rfl (by decide)) rfl rfl rfl (p_makeU (A := (rowA A h ra)) (h := hE) (d := d - 1) (e := e) (o := 23) (nq := 24) (vb := vbo verb) hx1 (by omega) (by omega) (by omega) (by omega) hAE (cv_keep hkp hz1) (cv_keep hkp hv) (by omega) (by rw [hE1]; exact hl_app (hl_set (hl_lt hobx))) (by rw [hE1]; exact hl_app (hl_ne (by decide) hnqx)) hrow9 hpF hpN hpC hR9 rfl (by omega) hpS hva9) ?_
        rintro x h4 ⟨va9, arr9, V9, hmk, hva1, hva2⟩
        have hvz9 : arr9 → h.length ≤ va9 ∧ va9 < h.length + X9.length := fun z => by obtain ⟨y1, y2⟩ := hva1 z; rcases hva with ⟨_, y3⟩ | ⟨y0, va, y3, y4, y5, _⟩; (rw [y1] at y3; cases y3); (rw [y1] at y3; cases y3; rw [hscr9.1] at y4; exact ⟨y4, by omega⟩)
        obtain ⟨hs1, hsc1, hsy1, hso1, hres1⟩ := mk_done hl (by omega) hscr9 hobx hX2 hXs rfl hpm.symm (by rw [← hE1]; exact hmk) hraL hvz9 hva2
        obtain ⟨q9, rfl⟩ := vres_ref hres1
        refine y_ret (r := some (.ref q9)) dm_X3_of_249 rfl rfl rfl ?_
        refine ⟨_, rfl, hs1, hsc1, ?_, ?_⟩
        · rw [set_of_pt (by rw [hsc1.1, hscr9.1]) hsy1 hso1, hhb9]
          exact actH_23 (actH_24 (actH_23 hH _ _ _ _ _ _ _ _ _ _ _) _) _ _ _ _ _ _ _ _ _ _ _
        · rw [hspec, hspA, hspB]
          rw [hpo]
          exact ares_dup (show ares A hs1 (e + 1) (.inr _) _ _ _ _ from hres1)
  refine me2 (pc' := 347) (S' := []) dm_X3_of_1 (sw_ldef [Int32.ofInt 33, Int32.ofInt 35, Int32.ofInt 36, Int32.ofInt 37, Int32.ofInt 38, Int32.ofInt 42, Int32.ofInt 43, Int32.ofInt 44, Int32.ofInt 45, Int32.ofInt 46, Int32.ofInt 60, Int32.ofInt 61, Int32.ofInt 62, Int32.ofInt 63, Int32.ofInt 64, Int32.ofInt 94, Int32.ofInt 95, Int32.ofInt 124, Int32.ofInt 126] rfl rfl rfl ⟨y_no (by omega) (by decide) hb1, y_no (by omega) (by decide) hb2, y_no (by omega) (by decide) hb3, y_no (by omega) (by decide) hb4, y_no (by omega) (by decide) hb6, y_no (by omega) (by decide) hb7, y_no (by omega) (by decide) hb9, y_no (by omega) (by decide) hb11, y_no (by omega) (by decide) hb12, y_no (by omega) (by decide) hb14, y_no (by omega) (by decide) hb15, y_no (by omega) (by decide) hb16, y_no (by omega) (by decide) hb17, y_no (by omega) (by decide) hb18, y_no (by omega) (by decide) hb19, y_no (by omega) (by decide) hb20, y_no (by omega) (by decide) hb21, y_no (by omega) (by decide) hb22, y_no (by omega) (by decide) hb23, trivial⟩) rfl rfl ?_
  have hspec : s_one verb e v = .inl 1 := by unfold s_one; rw [if_neg (by omega), if_neg (by omega), if_neg (by omega), if_neg (by omega), if_neg (by omega), if_neg (by omega), if_neg (by omega), if_neg (by omega), if_neg (by omega), if_neg (by omega), if_neg (by omega), if_neg (by omega), if_neg (by omega), if_neg (by omega), if_neg (by omega)]
  have hspA : oneA verb e v = 1 := by unfold oneA; rw [if_neg (by omega), if_neg (by omega), if_neg (by omega), if_neg (by omega), if_neg (by omega), if_neg (by omega), if_neg (by omega), if_neg (by omega), if_neg (by omega), if_neg (by omega), if_neg (by omega), if_neg (by omega), if_neg (by omega), if_neg (by omega), if_neg (by omega)]
  have hspB : oneB verb e v = 9 := by unfold oneB; rw [if_neg (by omega), if_neg (by omega), if_neg (by omega), if_neg (by omega), if_neg (by omega), if_neg (by omega), if_neg (by omega), if_neg (by omega), if_neg (by omega), if_neg (by omega), if_neg (by omega), if_neg (by omega), if_neg (by omega), if_neg (by omega), if_neg (by omega)]
  refine me0 (pc' := 348) (S' := [ii 1]) dm_X3_of_347 rfl rfl rfl rfl ?_
  refine x_cv (pc' := 351) (rest := []) dm_X3_of_348 rfl (g_invs (As := [ii 1]) (S := []) rfl rfl rfl) rfl rfl rfl (c_fault (q := h.length) (by omega) (by omega) rfl (by omega)) ?_
  rintro _ _ ⟨rfl, rfl⟩
  refine y_ret (r := some (.ref h.length)) dm_X3_of_351 rfl rfl rfl ?_
  refine ⟨_, rfl, h, scrS_rf h, hH, ?_⟩
  rw [hspec, hspA, hspB]
  exact ares_f 1 (by omega) (by omega) (by omega)
