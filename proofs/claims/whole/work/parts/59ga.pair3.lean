def cmpL (a b : Int64) : Int := if a.toInt < b.toInt then -1 else if a.toInt = b.toInt then 0 else 1
theorem cmpL_r (a b : Int64) : -1 ≤ cmpL a b ∧ cmpL a b ≤ 1 := by
  unfold cmpL; by_cases h : a.toInt < b.toInt
  · rw [if_pos h]; omega
  · rw [if_neg h]; by_cases h2 : a.toInt = b.toInt
    · rw [if_pos h2]; omega
    · rw [if_neg h2]; omega
/-- what an act makes of two numbers: a fault, and a number -/
def outF (vb : Int) (k1 k2 : Nat) (a b : Int64) : Int × Int64 :=
  if vb = 61 then (0, if ((k1 = 1 ∨ k1 = 3) ↔ (k2 = 1 ∨ k2 = 3)) ∧ a.toInt = b.toInt then Int64.ofInt 1 else Int64.ofInt 0)
  else if ¬ ((k1 = 1 ∨ k1 = 3) ↔ (k2 = 1 ∨ k2 = 3)) ∨ ((k1 = 1 ∨ k1 = 3) ∧ ¬ (vb = 60 ∨ vb = 62)) then (5, Int64.ofInt 0)
  else if vb = 60 then (0, if a.toInt < b.toInt then Int64.ofInt 1 else Int64.ofInt 0)
  else if vb = 62 then (0, if b.toInt < a.toInt then Int64.ofInt 1 else Int64.ofInt 0)
  else if vb = 43 then (if ovf (a.toInt + b.toInt) = true then 6 else 0, a + b)
  else if vb = 45 then (if ovf (a.toInt - b.toInt) = true then 6 else 0, a - b)
  else if vb = 42 then (if ovf (a.toInt * b.toInt) = true then 6 else 0, a * b)
  else if vb = 37 then quoF a b
  else if vb = 33 then rstF b a
  else if vb = 38 then (0, lmn a b)
  else if vb = 124 then (0, lmx a b)
  else if vb = 126 then (0, if b.toInt = 0 then Int64.ofInt 1 else Int64.ofInt 0)
  else if vb = 119 then (0, Int64.ofInt (cmpL b (Int64.ofInt 0)))
  else (1, Int64.ofInt 0)
set_option maxRecDepth 20000 in
theorem pm_J13_compare_74951 : mj_mmof pg_ms 98 = some ((⟨"java/lang/Long", "compare", "(JJ)I"⟩, prog_17_method_42_code, 4, (Option.some Jvm.ClassFile.FieldType.int)), 14, false, mj_dec prog_17_method_42_code) := rfl
theorem dm_J13_compare_74951_0 : mj_dec prog_17_method_42_code 0 = some (.lload_n 0, 1) := by decide +kernel
theorem dm_J13_compare_74951_1 : mj_dec prog_17_method_42_code 1 = some (.lload_n 2, 1) := by decide +kernel
theorem dm_J13_compare_74951_2 : mj_dec prog_17_method_42_code 2 = some (.lcmp, 1) := by decide +kernel
theorem dm_J13_compare_74951_3 : mj_dec prog_17_method_42_code 3 = some (.ifCond .ge 7, 3) := by decide +kernel
theorem dm_J13_compare_74951_6 : mj_dec prog_17_method_42_code 6 = some (.iconst (-1), 1) := by decide +kernel
theorem dm_J13_compare_74951_7 : mj_dec prog_17_method_42_code 7 = some (.goto 14, 3) := by decide +kernel
theorem dm_J13_compare_74951_10 : mj_dec prog_17_method_42_code 10 = some (.lload_n 0, 1) := by decide +kernel
theorem dm_J13_compare_74951_11 : mj_dec prog_17_method_42_code 11 = some (.lload_n 2, 1) := by decide +kernel
theorem dm_J13_compare_74951_12 : mj_dec prog_17_method_42_code 12 = some (.lcmp, 1) := by decide +kernel
theorem dm_J13_compare_74951_13 : mj_dec prog_17_method_42_code 13 = some (.ifCond .ne 7, 3) := by decide +kernel
theorem dm_J13_compare_74951_16 : mj_dec prog_17_method_42_code 16 = some (.iconst 0, 1) := by decide +kernel
theorem dm_J13_compare_74951_17 : mj_dec prog_17_method_42_code 17 = some (.goto 4, 3) := by decide +kernel
theorem dm_J13_compare_74951_20 : mj_dec prog_17_method_42_code 20 = some (.iconst 1, 1) := by decide +kernel
theorem dm_J13_compare_74951_21 : mj_dec prog_17_method_42_code 21 = some (.ireturn, 1) := by decide +kernel
theorem l_compare {xt : mj_X} {d : Nat} {h : mj_H} {a b : Int64} (hd : 1 ≤ d) : pgP xt d 98 [.long a, .long b] h (ii (cmpL a b)) := by
  refine x_enter pm_J13_compare_74951 (L0 := [(0, .long a), (2, .long b)]) rfl (Nat.le_of_ble_eq_true rfl) (by omega) ?_
  refine me1 (pc' := 1) (L' := [(0, .long a), (2, .long b)]) (S' := [.long a]) dm_J13_compare_74951_0 rfl rfl rfl rfl ?_
  refine me1 (pc' := 2) (L' := [(0, .long a), (2, .long b)]) (S' := [.long b, .long a]) dm_J13_compare_74951_1 rfl rfl rfl rfl ?_
  refine y_lge (x := a) (y := b) (t := 10) (pc1 := 3) (pc' := 6) dm_J13_compare_74951_2 rfl dm_J13_compare_74951_3 rfl rfl (fun hb1 => ?_) (fun hb1 => ?_)
  · refine me1 (pc' := 11) (L' := [(0, .long a), (2, .long b)]) (S' := [.long a]) dm_J13_compare_74951_10 rfl rfl rfl rfl ?_
    refine me1 (pc' := 12) (L' := [(0, .long a), (2, .long b)]) (S' := [.long b, .long a]) dm_J13_compare_74951_11 rfl rfl rfl rfl ?_
    refine y_lne (x := a) (y := b) (t := 20) (pc1 := 13) (pc' := 16) dm_J13_compare_74951_12 rfl dm_J13_compare_74951_13 rfl rfl (fun hb2 => ?_) (fun hb2 => ?_)
    · have hb2i : ¬ (a).toInt = (b).toInt := fun z => hb2 (Int64.toInt_inj.mp z)
      refine me0 (pc' := 21) (S' := [ii 1]) dm_J13_compare_74951_20 rfl rfl rfl rfl ?_
      refine y_ret (r := some (ii 1)) dm_J13_compare_74951_21 rfl rfl rfl ?_
      refine ⟨congrArg some (n_ii ?_), rfl⟩
      unfold cmpL
      rw [if_neg (by omega), if_neg (by omega)]
    · have hb2i := congrArg Int64.toInt hb2
      refine me0 (pc' := 17) (S' := [ii 0]) dm_J13_compare_74951_16 rfl rfl rfl rfl ?_
      refine me2 (pc' := 21) (S' := [ii 0]) dm_J13_compare_74951_17 rfl rfl rfl ?_
      refine y_ret (r := some (ii 0)) dm_J13_compare_74951_21 rfl rfl rfl ?_
      refine ⟨congrArg some (n_ii ?_), rfl⟩
      unfold cmpL
      rw [if_neg (by omega), if_pos (by omega)]
  · refine me0 (pc' := 7) (S' := [ii (-1)]) dm_J13_compare_74951_6 rfl rfl rfl rfl ?_
    refine me2 (pc' := 21) (S' := [ii (-1)]) dm_J13_compare_74951_7 rfl rfl rfl ?_
    refine y_ret (r := some (ii (-1))) dm_J13_compare_74951_21 rfl rfl rfl ?_
    refine ⟨congrArg some (n_ii ?_), rfl⟩
    unfold cmpL
    rw [if_pos (by omega)]
set_option maxRecDepth 20000 in
theorem pm_X5_outcome : mj_mmof pg_ms 91 = some ((⟨"ArrayCalculator$Paired", "outcome", "(LArrayCalculator$Value;LArrayCalculator$Value;I)J"⟩, prog_7_method_10_code, 10, (Option.some Jvm.ClassFile.FieldType.long)), 5, false, mj_dec prog_7_method_10_code) := rfl
theorem dm_X5_outcome_0 : mj_dec prog_7_method_10_code 0 = some (.aload_n 1, 1) := by decide +kernel
theorem dm_X5_outcome_1 : mj_dec prog_7_method_10_code 1 = some (.iload_n 3, 1) := by decide +kernel
theorem dm_X5_outcome_2 : mj_dec prog_7_method_10_code 2 = some (.invokevirtual 140, 3) := by decide +kernel
theorem dm_X5_outcome_5 : mj_dec prog_7_method_10_code 5 = some (.lstore 4, 2) := by decide +kernel
theorem dm_X5_outcome_7 : mj_dec prog_7_method_10_code 7 = some (.aload_n 2, 1) := by decide +kernel
theorem dm_X5_outcome_8 : mj_dec prog_7_method_10_code 8 = some (.iload_n 3, 1) := by decide +kernel
theorem dm_X5_outcome_9 : mj_dec prog_7_method_10_code 9 = some (.invokevirtual 140, 3) := by decide +kernel
theorem dm_X5_outcome_12 : mj_dec prog_7_method_10_code 12 = some (.lstore 6, 2) := by decide +kernel
theorem dm_X5_outcome_14 : mj_dec prog_7_method_10_code 14 = some (.aload_n 1, 1) := by decide +kernel
theorem dm_X5_outcome_15 : mj_dec prog_7_method_10_code 15 = some (.invokevirtual 144, 3) := by decide +kernel
theorem dm_X5_outcome_18 : mj_dec prog_7_method_10_code 18 = some (.aload_n 2, 1) := by decide +kernel
theorem dm_X5_outcome_19 : mj_dec prog_7_method_10_code 19 = some (.invokevirtual 144, 3) := by decide +kernel
theorem dm_X5_outcome_22 : mj_dec prog_7_method_10_code 22 = some (.if_icmp .ne 7, 3) := by decide +kernel
theorem dm_X5_outcome_25 : mj_dec prog_7_method_10_code 25 = some (.iconst 1, 1) := by decide +kernel
theorem dm_X5_outcome_26 : mj_dec prog_7_method_10_code 26 = some (.goto 4, 3) := by decide +kernel
theorem dm_X5_outcome_29 : mj_dec prog_7_method_10_code 29 = some (.iconst 0, 1) := by decide +kernel
theorem dm_X5_outcome_30 : mj_dec prog_7_method_10_code 30 = some (.istore 8, 2) := by decide +kernel
theorem dm_X5_outcome_32 : mj_dec prog_7_method_10_code 32 = some (.aload_n 0, 1) := by decide +kernel
theorem dm_X5_outcome_33 : mj_dec prog_7_method_10_code 33 = some (.getfield 21, 3) := by decide +kernel
theorem dm_X5_outcome_36 : mj_dec prog_7_method_10_code 36 = some (.bipush 61, 2) := by decide +kernel
theorem dm_X5_outcome_38 : mj_dec prog_7_method_10_code 38 = some (.if_icmp .ne 22, 3) := by decide +kernel
theorem dm_X5_outcome_41 : mj_dec prog_7_method_10_code 41 = some (.iload 8, 2) := by decide +kernel
theorem dm_X5_outcome_43 : mj_dec prog_7_method_10_code 43 = some (.ifCond .eq 15, 3) := by decide +kernel
theorem dm_X5_outcome_46 : mj_dec prog_7_method_10_code 46 = some (.lload 4, 2) := by decide +kernel
theorem dm_X5_outcome_48 : mj_dec prog_7_method_10_code 48 = some (.lload 6, 2) := by decide +kernel
theorem dm_X5_outcome_50 : mj_dec prog_7_method_10_code 50 = some (.lcmp, 1) := by decide +kernel
theorem dm_X5_outcome_51 : mj_dec prog_7_method_10_code 51 = some (.ifCond .ne 7, 3) := by decide +kernel
theorem dm_X5_outcome_54 : mj_dec prog_7_method_10_code 54 = some (.lconst 1, 1) := by decide +kernel
theorem dm_X5_outcome_55 : mj_dec prog_7_method_10_code 55 = some (.goto 4, 3) := by decide +kernel
theorem dm_X5_outcome_58 : mj_dec prog_7_method_10_code 58 = some (.lconst 0, 1) := by decide +kernel
theorem dm_X5_outcome_59 : mj_dec prog_7_method_10_code 59 = some (.lreturn, 1) := by decide +kernel
theorem dm_X5_outcome_60 : mj_dec prog_7_method_10_code 60 = some (.aload_n 0, 1) := by decide +kernel
theorem dm_X5_outcome_61 : mj_dec prog_7_method_10_code 61 = some (.getfield 21, 3) := by decide +kernel
theorem dm_X5_outcome_64 : mj_dec prog_7_method_10_code 64 = some (.bipush 60, 2) := by decide +kernel
theorem dm_X5_outcome_66 : mj_dec prog_7_method_10_code 66 = some (.if_icmp .eq 12, 3) := by decide +kernel
theorem dm_X5_outcome_69 : mj_dec prog_7_method_10_code 69 = some (.aload_n 0, 1) := by decide +kernel
theorem dm_X5_outcome_70 : mj_dec prog_7_method_10_code 70 = some (.getfield 21, 3) := by decide +kernel
theorem dm_X5_outcome_73 : mj_dec prog_7_method_10_code 73 = some (.bipush 62, 2) := by decide +kernel
theorem dm_X5_outcome_75 : mj_dec prog_7_method_10_code 75 = some (.if_icmp .ne 7, 3) := by decide +kernel
theorem dm_X5_outcome_78 : mj_dec prog_7_method_10_code 78 = some (.iconst 1, 1) := by decide +kernel
theorem dm_X5_outcome_79 : mj_dec prog_7_method_10_code 79 = some (.goto 4, 3) := by decide +kernel
theorem dm_X5_outcome_82 : mj_dec prog_7_method_10_code 82 = some (.iconst 0, 1) := by decide +kernel
theorem dm_X5_outcome_83 : mj_dec prog_7_method_10_code 83 = some (.istore 9, 2) := by decide +kernel
theorem dm_X5_outcome_85 : mj_dec prog_7_method_10_code 85 = some (.iload 8, 2) := by decide +kernel
theorem dm_X5_outcome_87 : mj_dec prog_7_method_10_code 87 = some (.ifCond .eq 15, 3) := by decide +kernel
theorem dm_X5_outcome_90 : mj_dec prog_7_method_10_code 90 = some (.aload_n 1, 1) := by decide +kernel
theorem dm_X5_outcome_91 : mj_dec prog_7_method_10_code 91 = some (.invokevirtual 144, 3) := by decide +kernel
theorem dm_X5_outcome_94 : mj_dec prog_7_method_10_code 94 = some (.ifCond .eq 15, 3) := by decide +kernel
theorem dm_X5_outcome_97 : mj_dec prog_7_method_10_code 97 = some (.iload 9, 2) := by decide +kernel
theorem dm_X5_outcome_99 : mj_dec prog_7_method_10_code 99 = some (.ifCond .ne 10, 3) := by decide +kernel
theorem dm_X5_outcome_102 : mj_dec prog_7_method_10_code 102 = some (.aload_n 0, 1) := by decide +kernel
theorem dm_X5_outcome_103 : mj_dec prog_7_method_10_code 103 = some (.iconst 5, 1) := by decide +kernel
theorem dm_X5_outcome_104 : mj_dec prog_7_method_10_code 104 = some (.putfield 25, 3) := by decide +kernel
theorem dm_X5_outcome_107 : mj_dec prog_7_method_10_code 107 = some (.lconst 0, 1) := by decide +kernel
theorem dm_X5_outcome_108 : mj_dec prog_7_method_10_code 108 = some (.lreturn, 1) := by decide +kernel
theorem dm_X5_outcome_109 : mj_dec prog_7_method_10_code 109 = some (.aload_n 0, 1) := by decide +kernel
theorem dm_X5_outcome_110 : mj_dec prog_7_method_10_code 110 = some (.getfield 21, 3) := by decide +kernel
theorem dm_X5_outcome_113 : mj_dec prog_7_method_10_code 113 = some (.lookupswitch 260 #[(33, 214), (37, 205), (38, 223), (42, 179), (43, 127), (45, 153), (60, 99), (62, 113), (119, 252), (124, 231), (126, 239)], 99) := by decide +kernel
theorem dm_X5_outcome_212 : mj_dec prog_7_method_10_code 212 = some (.lload 4, 2) := by decide +kernel
theorem dm_X5_outcome_214 : mj_dec prog_7_method_10_code 214 = some (.lload 6, 2) := by decide +kernel
theorem dm_X5_outcome_216 : mj_dec prog_7_method_10_code 216 = some (.lcmp, 1) := by decide +kernel
theorem dm_X5_outcome_217 : mj_dec prog_7_method_10_code 217 = some (.ifCond .ge 7, 3) := by decide +kernel
theorem dm_X5_outcome_220 : mj_dec prog_7_method_10_code 220 = some (.lconst 1, 1) := by decide +kernel
theorem dm_X5_outcome_221 : mj_dec prog_7_method_10_code 221 = some (.goto 4, 3) := by decide +kernel
theorem dm_X5_outcome_224 : mj_dec prog_7_method_10_code 224 = some (.lconst 0, 1) := by decide +kernel
theorem dm_X5_outcome_225 : mj_dec prog_7_method_10_code 225 = some (.lreturn, 1) := by decide +kernel
theorem dm_X5_outcome_226 : mj_dec prog_7_method_10_code 226 = some (.lload 4, 2) := by decide +kernel
theorem dm_X5_outcome_228 : mj_dec prog_7_method_10_code 228 = some (.lload 6, 2) := by decide +kernel
theorem dm_X5_outcome_230 : mj_dec prog_7_method_10_code 230 = some (.lcmp, 1) := by decide +kernel
theorem dm_X5_outcome_231 : mj_dec prog_7_method_10_code 231 = some (.ifCond .le 7, 3) := by decide +kernel
theorem dm_X5_outcome_234 : mj_dec prog_7_method_10_code 234 = some (.lconst 1, 1) := by decide +kernel
theorem dm_X5_outcome_235 : mj_dec prog_7_method_10_code 235 = some (.goto 4, 3) := by decide +kernel
theorem dm_X5_outcome_238 : mj_dec prog_7_method_10_code 238 = some (.lconst 0, 1) := by decide +kernel
theorem dm_X5_outcome_239 : mj_dec prog_7_method_10_code 239 = some (.lreturn, 1) := by decide +kernel
theorem dm_X5_outcome_240 : mj_dec prog_7_method_10_code 240 = some (.aload_n 0, 1) := by decide +kernel
theorem dm_X5_outcome_241 : mj_dec prog_7_method_10_code 241 = some (.lload 4, 2) := by decide +kernel
theorem dm_X5_outcome_243 : mj_dec prog_7_method_10_code 243 = some (.lload 6, 2) := by decide +kernel
theorem dm_X5_outcome_245 : mj_dec prog_7_method_10_code 245 = some (.invokestatic 147, 3) := by decide +kernel
theorem dm_X5_outcome_248 : mj_dec prog_7_method_10_code 248 = some (.ifCond .eq 8, 3) := by decide +kernel
theorem dm_X5_outcome_251 : mj_dec prog_7_method_10_code 251 = some (.bipush 6, 2) := by decide +kernel
theorem dm_X5_outcome_253 : mj_dec prog_7_method_10_code 253 = some (.goto 4, 3) := by decide +kernel
theorem dm_X5_outcome_256 : mj_dec prog_7_method_10_code 256 = some (.iconst 0, 1) := by decide +kernel
theorem dm_X5_outcome_257 : mj_dec prog_7_method_10_code 257 = some (.putfield 25, 3) := by decide +kernel
theorem dm_X5_outcome_260 : mj_dec prog_7_method_10_code 260 = some (.lload 4, 2) := by decide +kernel
theorem dm_X5_outcome_262 : mj_dec prog_7_method_10_code 262 = some (.lload 6, 2) := by decide +kernel
theorem dm_X5_outcome_264 : mj_dec prog_7_method_10_code 264 = some (.ladd, 1) := by decide +kernel
theorem dm_X5_outcome_265 : mj_dec prog_7_method_10_code 265 = some (.lreturn, 1) := by decide +kernel
theorem dm_X5_outcome_266 : mj_dec prog_7_method_10_code 266 = some (.aload_n 0, 1) := by decide +kernel
theorem dm_X5_outcome_267 : mj_dec prog_7_method_10_code 267 = some (.lload 4, 2) := by decide +kernel
theorem dm_X5_outcome_269 : mj_dec prog_7_method_10_code 269 = some (.lload 6, 2) := by decide +kernel
theorem dm_X5_outcome_271 : mj_dec prog_7_method_10_code 271 = some (.invokestatic 151, 3) := by decide +kernel
theorem dm_X5_outcome_274 : mj_dec prog_7_method_10_code 274 = some (.ifCond .eq 8, 3) := by decide +kernel
theorem dm_X5_outcome_277 : mj_dec prog_7_method_10_code 277 = some (.bipush 6, 2) := by decide +kernel
theorem dm_X5_outcome_279 : mj_dec prog_7_method_10_code 279 = some (.goto 4, 3) := by decide +kernel
theorem dm_X5_outcome_282 : mj_dec prog_7_method_10_code 282 = some (.iconst 0, 1) := by decide +kernel
theorem dm_X5_outcome_283 : mj_dec prog_7_method_10_code 283 = some (.putfield 25, 3) := by decide +kernel
theorem dm_X5_outcome_286 : mj_dec prog_7_method_10_code 286 = some (.lload 4, 2) := by decide +kernel
theorem dm_X5_outcome_288 : mj_dec prog_7_method_10_code 288 = some (.lload 6, 2) := by decide +kernel
theorem dm_X5_outcome_290 : mj_dec prog_7_method_10_code 290 = some (.lsub, 1) := by decide +kernel
theorem dm_X5_outcome_291 : mj_dec prog_7_method_10_code 291 = some (.lreturn, 1) := by decide +kernel
theorem dm_X5_outcome_292 : mj_dec prog_7_method_10_code 292 = some (.aload_n 0, 1) := by decide +kernel
theorem dm_X5_outcome_293 : mj_dec prog_7_method_10_code 293 = some (.lload 4, 2) := by decide +kernel
theorem dm_X5_outcome_295 : mj_dec prog_7_method_10_code 295 = some (.lload 6, 2) := by decide +kernel
theorem dm_X5_outcome_297 : mj_dec prog_7_method_10_code 297 = some (.invokestatic 154, 3) := by decide +kernel
theorem dm_X5_outcome_300 : mj_dec prog_7_method_10_code 300 = some (.ifCond .eq 8, 3) := by decide +kernel
theorem dm_X5_outcome_303 : mj_dec prog_7_method_10_code 303 = some (.bipush 6, 2) := by decide +kernel
theorem dm_X5_outcome_305 : mj_dec prog_7_method_10_code 305 = some (.goto 4, 3) := by decide +kernel
theorem dm_X5_outcome_308 : mj_dec prog_7_method_10_code 308 = some (.iconst 0, 1) := by decide +kernel
theorem dm_X5_outcome_309 : mj_dec prog_7_method_10_code 309 = some (.putfield 25, 3) := by decide +kernel
theorem dm_X5_outcome_312 : mj_dec prog_7_method_10_code 312 = some (.lload 4, 2) := by decide +kernel
theorem dm_X5_outcome_314 : mj_dec prog_7_method_10_code 314 = some (.lload 6, 2) := by decide +kernel
theorem dm_X5_outcome_316 : mj_dec prog_7_method_10_code 316 = some (.lmul, 1) := by decide +kernel
theorem dm_X5_outcome_317 : mj_dec prog_7_method_10_code 317 = some (.lreturn, 1) := by decide +kernel
theorem dm_X5_outcome_318 : mj_dec prog_7_method_10_code 318 = some (.aload_n 0, 1) := by decide +kernel
theorem dm_X5_outcome_319 : mj_dec prog_7_method_10_code 319 = some (.lload 4, 2) := by decide +kernel
theorem dm_X5_outcome_321 : mj_dec prog_7_method_10_code 321 = some (.lload 6, 2) := by decide +kernel
theorem dm_X5_outcome_323 : mj_dec prog_7_method_10_code 323 = some (.invokevirtual 157, 3) := by decide +kernel
theorem dm_X5_outcome_326 : mj_dec prog_7_method_10_code 326 = some (.lreturn, 1) := by decide +kernel
theorem dm_X5_outcome_327 : mj_dec prog_7_method_10_code 327 = some (.aload_n 0, 1) := by decide +kernel
theorem dm_X5_outcome_328 : mj_dec prog_7_method_10_code 328 = some (.lload 6, 2) := by decide +kernel
theorem dm_X5_outcome_330 : mj_dec prog_7_method_10_code 330 = some (.lload 4, 2) := by decide +kernel
theorem dm_X5_outcome_332 : mj_dec prog_7_method_10_code 332 = some (.invokevirtual 161, 3) := by decide +kernel
theorem dm_X5_outcome_335 : mj_dec prog_7_method_10_code 335 = some (.lreturn, 1) := by decide +kernel
theorem dm_X5_outcome_336 : mj_dec prog_7_method_10_code 336 = some (.lload 4, 2) := by decide +kernel
theorem dm_X5_outcome_338 : mj_dec prog_7_method_10_code 338 = some (.lload 6, 2) := by decide +kernel
theorem dm_X5_outcome_340 : mj_dec prog_7_method_10_code 340 = some (.invokestatic 164, 3) := by decide +kernel
theorem dm_X5_outcome_343 : mj_dec prog_7_method_10_code 343 = some (.lreturn, 1) := by decide +kernel
theorem dm_X5_outcome_344 : mj_dec prog_7_method_10_code 344 = some (.lload 4, 2) := by decide +kernel
theorem dm_X5_outcome_346 : mj_dec prog_7_method_10_code 346 = some (.lload 6, 2) := by decide +kernel
theorem dm_X5_outcome_348 : mj_dec prog_7_method_10_code 348 = some (.invokestatic 167, 3) := by decide +kernel
theorem dm_X5_outcome_351 : mj_dec prog_7_method_10_code 351 = some (.lreturn, 1) := by decide +kernel
theorem dm_X5_outcome_352 : mj_dec prog_7_method_10_code 352 = some (.lload 6, 2) := by decide +kernel
theorem dm_X5_outcome_354 : mj_dec prog_7_method_10_code 354 = some (.lconst 0, 1) := by decide +kernel
theorem dm_X5_outcome_355 : mj_dec prog_7_method_10_code 355 = some (.lcmp, 1) := by decide +kernel
theorem dm_X5_outcome_356 : mj_dec prog_7_method_10_code 356 = some (.ifCond .ne 7, 3) := by decide +kernel
theorem dm_X5_outcome_359 : mj_dec prog_7_method_10_code 359 = some (.lconst 1, 1) := by decide +kernel
theorem dm_X5_outcome_360 : mj_dec prog_7_method_10_code 360 = some (.goto 4, 3) := by decide +kernel
theorem dm_X5_outcome_363 : mj_dec prog_7_method_10_code 363 = some (.lconst 0, 1) := by decide +kernel
theorem dm_X5_outcome_364 : mj_dec prog_7_method_10_code 364 = some (.lreturn, 1) := by decide +kernel
theorem dm_X5_outcome_365 : mj_dec prog_7_method_10_code 365 = some (.lload 6, 2) := by decide +kernel
theorem dm_X5_outcome_367 : mj_dec prog_7_method_10_code 367 = some (.lconst 0, 1) := by decide +kernel
theorem dm_X5_outcome_368 : mj_dec prog_7_method_10_code 368 = some (.invokestatic 169, 3) := by decide +kernel
theorem dm_X5_outcome_371 : mj_dec prog_7_method_10_code 371 = some (.i2l, 1) := by decide +kernel
theorem dm_X5_outcome_372 : mj_dec prog_7_method_10_code 372 = some (.lreturn, 1) := by decide +kernel
theorem dm_X5_outcome_373 : mj_dec prog_7_method_10_code 373 = some (.aload_n 0, 1) := by decide +kernel
theorem dm_X5_outcome_374 : mj_dec prog_7_method_10_code 374 = some (.iconst 1, 1) := by decide +kernel
theorem dm_X5_outcome_375 : mj_dec prog_7_method_10_code 375 = some (.putfield 25, 3) := by decide +kernel
theorem dm_X5_outcome_378 : mj_dec prog_7_method_10_code 378 = some (.lconst 0, 1) := by decide +kernel
theorem dm_X5_outcome_379 : mj_dec prog_7_method_10_code 379 = some (.lreturn, 1) := by decide +kernel
theorem p_outcome {xt : mj_X} {d e p : Nat} {A : Nat → Prop} {h : mj_H} {v : VV} {q : Nat} {w : VV} {i : Int} {f1 : Nat → Value} (hx1 : xt 1 = some (.long, 0, f1)) (hd : 3 ≤ d) (hv : cv A h (e + 1) p v) (hw : cv A h (e + 1) q w) (hi : -2147483648 ≤ i ∧ i ≤ 2147483647) {o nq : Nat} {vb sz lv nm vm_ nu vu : Int} {rw_ : Bool} {ro va : Value} (ho2 : 2 ≤ o) (ho : h[o]? = some (PO vb 0 nq sz lv nm vm_ rw_ ro va nu vu)) (hvb : -2147483648 ≤ vb ∧ vb ≤ 2147483647) : pgV xt d 91 [.ref o, .ref p, .ref q, ii i] h (fun x h' => x = .long (outF vb (vk v) (vk w) (vnum v i) (vnum w i)).2 ∧ h' = h.set o (PO vb (outF vb (vk v) (vk w) (vnum v i) (vnum w i)).1 nq sz lv nm vm_ rw_ ro va nu vu)) := by
  have h0 : (Int64.ofInt 0).toInt = 0 := by decide
  have hm1 : (Int64.ofInt (-1)).toInt = -1 := by decide
  have h1_ : (Int64.ofInt 1).toInt = 1 := by decide
  have hmx : (Int64.ofInt 9223372036854775807).toInt = 9223372036854775807 := by decide
  have hmn : (Int64.ofInt (-9223372036854775808)).toInt = -9223372036854775808 := by decide
  have hcv := vw1_c hv.1
  have hcw := vw1_c hw.1
  obtain ⟨row, fr, vals, hp, hp2, hpA, hvk, hvm, hvc, hvs, hvl⟩ := cv_val hv
  obtain ⟨row2, fr2, vals2, hq, hq2, hqA, hwk, hwm, hwc, hws, hwl⟩ := cv_val hw
  have hcm := cmpL_r (vnum w i) (Int64.ofInt 0)
  have r1 := l_rng (vnum v i)
  have r2 := l_rng (vnum w i)
  refine x_enter pm_X5_outcome (L0 := [(0, .ref o), (1, .ref p), (2, .ref q), (3, ii i)]) rfl (Nat.le_of_ble_eq_true rfl) (by omega) ?_
  have cut109 : (¬ vb = 61) → ((vk v = 1 ∨ vk v = 3) ↔ (vk w = 1 ∨ vk w = 3)) → (¬ ((vk v = 1 ∨ vk v = 3) ∧ ¬ (vb = 60 ∨ vb = 62))) → pgE xt (d - 1) 5 10 false (Option.some Jvm.ClassFile.FieldType.long) (mj_dec prog_7_method_10_code) 109 [(0, .ref o), (1, .ref p), (2, .ref q), (3, ii i), (4, .long (vnum v i)), (6, .long (vnum w i))] [] h (fun r h' => ∃ x, r = some x ∧ (fun x h' => x = .long (outF vb (vk v) (vk w) (vnum v i) (vnum w i)).2 ∧ h' = h.set o (PO vb (outF vb (vk v) (vk w) (vnum v i) (vnum w i)).1 nq sz lv nm vm_ rw_ ro va nu vu)) x h') := by
    intro hA0 hA1 hA2
    refine me1 (pc' := 110) (L' := [(0, .ref o), (1, .ref p), (2, .ref q), (3, ii i), (4, .long (vnum v i)), (6, .long (vnum w i))]) (S' := [.ref o]) dm_X5_outcome_109 rfl rfl rfl rfl ?_
    refine me3 (pc' := 113) (S' := [ii vb]) dm_X5_outcome_110 (g_get (v := ii vb) ho rfl rfl (by omega)) rfl rfl rfl ?_
    refine y_sw (a := vb) (33) (t := 327) (i := .lookupswitch 260 #[(33, 214), (37, 205), (38, 223), (42, 179), (43, 127), (45, 153), (60, 99), (62, 113), (119, 252), (124, 231), (126, 239)]) (len := 99) dm_X5_outcome_113 rfl rfl rfl (by omega) (by decide) (fun hb1 => ?_) (fun hb1 => ?_)
    · refine me1 (pc' := 328) (L' := [(0, .ref o), (1, .ref p), (2, .ref q), (3, ii i), (4, .long (vnum v i)), (6, .long (vnum w i))]) (S' := [.ref o]) dm_X5_outcome_327 rfl rfl rfl rfl ?_
      refine me1 (pc' := 330) (L' := [(0, .ref o), (1, .ref p), (2, .ref q), (3, ii i), (4, .long (vnum v i)), (6, .long (vnum w i))]) (S' := [.long (vnum w i), .ref o]) dm_X5_outcome_328 rfl rfl rfl rfl ?_
      refine me1 (pc' := 332) (L' := [(0, .ref o), (1, .ref p), (2, .ref q), (3, ii i), (4, .long (vnum v i)), (6, .long (vnum w i))]) (S' := [.long (vnum v i), .long (vnum w i), .ref o]) dm_X5_outcome_330 rfl rfl rfl rfl ?_
      refine x_cv (pc' := 335) (rest := []) dm_X5_outcome_332 rfl (g_inv (As := [.long (vnum w i), .long (vnum v i)]) (S := []) ho rfl rfl rfl (by omega)) rfl rfl rfl (p_rest (by omega) ho2 ho) ?_
      rintro x h2 hres
      obtain ⟨rfl, rfl⟩ := hres
      refine y_ret (r := some (.long ((rstF (vnum w i) (vnum v i)).2))) dm_X5_outcome_335 rfl rfl rfl ?_
      refine ⟨_, rfl, ?_⟩
      have hz : (outF vb (vk v) (vk w) (vnum v i) (vnum w i)) = rstF (vnum w i) (vnum v i) := by unfold outF; rw [if_neg (by omega), if_neg (by omega), if_neg (by omega), if_neg (by omega), if_neg (by omega), if_neg (by omega), if_neg (by omega), if_neg (by omega), if_pos (by omega)]
      rw [hz]; exact ⟨rfl, rfl⟩
    refine y_sw (a := vb) (37) (t := 318) (i := .lookupswitch 260 #[(33, 214), (37, 205), (38, 223), (42, 179), (43, 127), (45, 153), (60, 99), (62, 113), (119, 252), (124, 231), (126, 239)]) (len := 99) dm_X5_outcome_113 rfl rfl rfl (by omega) (by decide) (fun hb2 => ?_) (fun hb2 => ?_)
    · refine me1 (pc' := 319) (L' := [(0, .ref o), (1, .ref p), (2, .ref q), (3, ii i), (4, .long (vnum v i)), (6, .long (vnum w i))]) (S' := [.ref o]) dm_X5_outcome_318 rfl rfl rfl rfl ?_
      refine me1 (pc' := 321) (L' := [(0, .ref o), (1, .ref p), (2, .ref q), (3, ii i), (4, .long (vnum v i)), (6, .long (vnum w i))]) (S' := [.long (vnum v i), .ref o]) dm_X5_outcome_319 rfl rfl rfl rfl ?_
      refine me1 (pc' := 323) (L' := [(0, .ref o), (1, .ref p), (2, .ref q), (3, ii i), (4, .long (vnum v i)), (6, .long (vnum w i))]) (S' := [.long (vnum w i), .long (vnum v i), .ref o]) dm_X5_outcome_321 rfl rfl rfl rfl ?_
      refine x_cv (pc' := 326) (rest := []) dm_X5_outcome_323 rfl (g_inv (As := [.long (vnum v i), .long (vnum w i)]) (S := []) ho rfl rfl rfl (by omega)) rfl rfl rfl (p_quotient (by omega) ho2 ho) ?_
      rintro x h2 hres
      obtain ⟨rfl, rfl⟩ := hres
      refine y_ret (r := some (.long ((quoF (vnum v i) (vnum w i)).2))) dm_X5_outcome_326 rfl rfl rfl ?_
      refine ⟨_, rfl, ?_⟩
      have hz : (outF vb (vk v) (vk w) (vnum v i) (vnum w i)) = quoF (vnum v i) (vnum w i) := by unfold outF; rw [if_neg (by omega), if_neg (by omega), if_neg (by omega), if_neg (by omega), if_neg (by omega), if_neg (by omega), if_neg (by omega), if_pos (by omega)]
      rw [hz]; exact ⟨rfl, rfl⟩
    refine y_sw (a := vb) (38) (t := 336) (i := .lookupswitch 260 #[(33, 214), (37, 205), (38, 223), (42, 179), (43, 127), (45, 153), (60, 99), (62, 113), (119, 252), (124, 231), (126, 239)]) (len := 99) dm_X5_outcome_113 rfl rfl rfl (by omega) (by decide) (fun hb3 => ?_) (fun hb3 => ?_)
    · refine me1 (pc' := 338) (L' := [(0, .ref o), (1, .ref p), (2, .ref q), (3, ii i), (4, .long (vnum v i)), (6, .long (vnum w i))]) (S' := [.long (vnum v i)]) dm_X5_outcome_336 rfl rfl rfl rfl ?_
      refine me1 (pc' := 340) (L' := [(0, .ref o), (1, .ref p), (2, .ref q), (3, ii i), (4, .long (vnum v i)), (6, .long (vnum w i))]) (S' := [.long (vnum w i), .long (vnum v i)]) dm_X5_outcome_338 rfl rfl rfl rfl ?_
      refine y_pr (i := .iadd) (pc' := 343) (S' := [.long (lmn (vnum v i) (vnum w i))]) dm_X5_outcome_340 rfl (p_lmin rfl) (by omega) rfl ?_
      refine y_ret (r := some (.long (lmn (vnum v i) (vnum w i)))) dm_X5_outcome_343 rfl rfl rfl ?_
      refine ⟨_, rfl, ?_⟩
      have hz : (outF vb (vk v) (vk w) (vnum v i) (vnum w i)) = (0, lmn (vnum v i) (vnum w i)) := by unfold outF; rw [if_neg (by omega), if_neg (by omega), if_neg (by omega), if_neg (by omega), if_neg (by omega), if_neg (by omega), if_neg (by omega), if_neg (by omega), if_neg (by omega), if_pos (by omega)]
      rw [hz]; exact ⟨rfl, (hl_self ho).symm⟩
    refine y_sw (a := vb) (42) (t := 292) (i := .lookupswitch 260 #[(33, 214), (37, 205), (38, 223), (42, 179), (43, 127), (45, 153), (60, 99), (62, 113), (119, 252), (124, 231), (126, 239)]) (len := 99) dm_X5_outcome_113 rfl rfl rfl (by omega) (by decide) (fun hb4 => ?_) (fun hb4 => ?_)
    · refine me1 (pc' := 293) (L' := [(0, .ref o), (1, .ref p), (2, .ref q), (3, ii i), (4, .long (vnum v i)), (6, .long (vnum w i))]) (S' := [.ref o]) dm_X5_outcome_292 rfl rfl rfl rfl ?_
      refine me1 (pc' := 295) (L' := [(0, .ref o), (1, .ref p), (2, .ref q), (3, ii i), (4, .long (vnum v i)), (6, .long (vnum w i))]) (S' := [.long (vnum v i), .ref o]) dm_X5_outcome_293 rfl rfl rfl rfl ?_
      refine me1 (pc' := 297) (L' := [(0, .ref o), (1, .ref p), (2, .ref q), (3, ii i), (4, .long (vnum v i)), (6, .long (vnum w i))]) (S' := [.long (vnum w i), .long (vnum v i), .ref o]) dm_X5_outcome_295 rfl rfl rfl rfl ?_
      refine x_cp (pc' := 300) (v := zz (ovf ((vnum v i).toInt * (vnum w i).toInt))) (rest := [.ref o]) dm_X5_outcome_297 rfl (g_invs (As := [.long (vnum v i), .long (vnum w i)]) (S := [.ref o]) rfl rfl rfl) rfl rfl rfl (p_beyondProduct (by omega)) ?_
      refine y_zeq (c := ovf ((vnum v i).toInt * (vnum w i).toInt)) (t := 308) (pc' := 303) dm_X5_outcome_300 rfl rfl (fun hb5 => ?_) (fun hb5 => ?_)
      · refine me0 (pc' := 309) (S' := [ii 0, .ref o]) dm_X5_outcome_308 rfl rfl rfl rfl ?_
        refine me3 (pc' := 312) (S' := []) (h1 := (h).set o (cO 5 [ii vb, ii 0, .ref nq, ii sz, ii lv, ii nm, ii vm_, zz rw_, ro, va, ii nu, ii vu])) dm_X5_outcome_309 (g_put (fs' := [ii vb, ii 0, .ref nq, ii sz, ii lv, ii nm, ii vm_, zz rw_, ro, va, ii nu, ii vu]) ho rfl rfl rfl (by simp) rfl (by decide) (fun z => by cases z) (by omega)) rfl rfl rfl ?_
        refine me1 (pc' := 314) (L' := [(0, .ref o), (1, .ref p), (2, .ref q), (3, ii i), (4, .long (vnum v i)), (6, .long (vnum w i))]) (S' := [.long (vnum v i)]) dm_X5_outcome_312 rfl rfl rfl rfl ?_
        refine me1 (pc' := 316) (L' := [(0, .ref o), (1, .ref p), (2, .ref q), (3, ii i), (4, .long (vnum v i)), (6, .long (vnum w i))]) (S' := [.long (vnum w i), .long (vnum v i)]) dm_X5_outcome_314 rfl rfl rfl rfl ?_
        refine me0 (pc' := 317) (S' := [.long ((vnum v i) * (vnum w i))]) dm_X5_outcome_316 rfl rfl rfl rfl ?_
        refine y_ret (r := some (.long ((vnum v i) * (vnum w i)))) dm_X5_outcome_317 rfl rfl rfl ?_
        refine ⟨_, rfl, ?_⟩
        have hz : (outF vb (vk v) (vk w) (vnum v i) (vnum w i)) = (0, (vnum v i) * (vnum w i)) := by unfold outF; rw [if_neg (by omega), if_neg (by omega), if_neg (by omega), if_neg (by omega), if_neg (by omega), if_neg (by omega), if_pos (by omega), if_neg (by rw [(by assumption : ovf _ = false)]; decide)]
        rw [hz]; exact ⟨rfl, rfl⟩
      · refine me0 (pc' := 305) (S' := [ii 6, .ref o]) dm_X5_outcome_303 rfl rfl rfl rfl ?_
        refine me2 (pc' := 309) (S' := [ii 6, .ref o]) dm_X5_outcome_305 rfl rfl rfl ?_
        refine me3 (pc' := 312) (S' := []) (h1 := (h).set o (cO 5 [ii vb, ii 6, .ref nq, ii sz, ii lv, ii nm, ii vm_, zz rw_, ro, va, ii nu, ii vu])) dm_X5_outcome_309 (g_put (fs' := [ii vb, ii 6, .ref nq, ii sz, ii lv, ii nm, ii vm_, zz rw_, ro, va, ii nu, ii vu]) ho rfl rfl rfl (by simp) rfl (by decide) (fun z => by cases z) (by omega)) rfl rfl rfl ?_
        refine me1 (pc' := 314) (L' := [(0, .ref o), (1, .ref p), (2, .ref q), (3, ii i), (4, .long (vnum v i)), (6, .long (vnum w i))]) (S' := [.long (vnum v i)]) dm_X5_outcome_312 rfl rfl rfl rfl ?_
        refine me1 (pc' := 316) (L' := [(0, .ref o), (1, .ref p), (2, .ref q), (3, ii i), (4, .long (vnum v i)), (6, .long (vnum w i))]) (S' := [.long (vnum w i), .long (vnum v i)]) dm_X5_outcome_314 rfl rfl rfl rfl ?_
        refine me0 (pc' := 317) (S' := [.long ((vnum v i) * (vnum w i))]) dm_X5_outcome_316 rfl rfl rfl rfl ?_
        refine y_ret (r := some (.long ((vnum v i) * (vnum w i)))) dm_X5_outcome_317 rfl rfl rfl ?_
        refine ⟨_, rfl, ?_⟩
        have hz : (outF vb (vk v) (vk w) (vnum v i) (vnum w i)) = (6, (vnum v i) * (vnum w i)) := by unfold outF; rw [if_neg (by omega), if_neg (by omega), if_neg (by omega), if_neg (by omega), if_neg (by omega), if_neg (by omega), if_pos (by omega), if_pos (by assumption)]
        rw [hz]; exact ⟨rfl, rfl⟩
    refine y_sw (a := vb) (43) (t := 240) (i := .lookupswitch 260 #[(33, 214), (37, 205), (38, 223), (42, 179), (43, 127), (45, 153), (60, 99), (62, 113), (119, 252), (124, 231), (126, 239)]) (len := 99) dm_X5_outcome_113 rfl rfl rfl (by omega) (by decide) (fun hb6 => ?_) (fun hb6 => ?_)
    · refine me1 (pc' := 241) (L' := [(0, .ref o), (1, .ref p), (2, .ref q), (3, ii i), (4, .long (vnum v i)), (6, .long (vnum w i))]) (S' := [.ref o]) dm_X5_outcome_240 rfl rfl rfl rfl ?_
      refine me1 (pc' := 243) (L' := [(0, .ref o), (1, .ref p), (2, .ref q), (3, ii i), (4, .long (vnum v i)), (6, .long (vnum w i))]) (S' := [.long (vnum v i), .ref o]) dm_X5_outcome_241 rfl rfl rfl rfl ?_
      refine me1 (pc' := 245) (L' := [(0, .ref o), (1, .ref p), (2, .ref q), (3, ii i), (4, .long (vnum v i)), (6, .long (vnum w i))]) (S' := [.long (vnum w i), .long (vnum v i), .ref o]) dm_X5_outcome_243 rfl rfl rfl rfl ?_
      refine x_cp (pc' := 248) (v := zz (ovf ((vnum v i).toInt + (vnum w i).toInt))) (rest := [.ref o]) dm_X5_outcome_245 rfl (g_invs (As := [.long (vnum v i), .long (vnum w i)]) (S := [.ref o]) rfl rfl rfl) rfl rfl rfl (p_beyondSum (by omega)) ?_
      refine y_zeq (c := ovf ((vnum v i).toInt + (vnum w i).toInt)) (t := 256) (pc' := 251) dm_X5_outcome_248 rfl rfl (fun hb7 => ?_) (fun hb7 => ?_)
      · refine me0 (pc' := 257) (S' := [ii 0, .ref o]) dm_X5_outcome_256 rfl rfl rfl rfl ?_
        refine me3 (pc' := 260) (S' := []) (h1 := (h).set o (cO 5 [ii vb, ii 0, .ref nq, ii sz, ii lv, ii nm, ii vm_, zz rw_, ro, va, ii nu, ii vu])) dm_X5_outcome_257 (g_put (fs' := [ii vb, ii 0, .ref nq, ii sz, ii lv, ii nm, ii vm_, zz rw_, ro, va, ii nu, ii vu]) ho rfl rfl rfl (by simp) rfl (by decide) (fun z => by cases z) (by omega)) rfl rfl rfl ?_
        refine me1 (pc' := 262) (L' := [(0, .ref o), (1, .ref p), (2, .ref q), (3, ii i), (4, .long (vnum v i)), (6, .long (vnum w i))]) (S' := [.long (vnum v i)]) dm_X5_outcome_260 rfl rfl rfl rfl ?_
        refine me1 (pc' := 264) (L' := [(0, .ref o), (1, .ref p), (2, .ref q), (3, ii i), (4, .long (vnum v i)), (6, .long (vnum w i))]) (S' := [.long (vnum w i), .long (vnum v i)]) dm_X5_outcome_262 rfl rfl rfl rfl ?_
        refine me0 (pc' := 265) (S' := [.long ((vnum v i) + (vnum w i))]) dm_X5_outcome_264 rfl rfl rfl rfl ?_
        refine y_ret (r := some (.long ((vnum v i) + (vnum w i)))) dm_X5_outcome_265 rfl rfl rfl ?_
        refine ⟨_, rfl, ?_⟩
        have hz : (outF vb (vk v) (vk w) (vnum v i) (vnum w i)) = (0, (vnum v i) + (vnum w i)) := by unfold outF; rw [if_neg (by omega), if_neg (by omega), if_neg (by omega), if_neg (by omega), if_pos (by omega), if_neg (by rw [(by assumption : ovf _ = false)]; decide)]
        rw [hz]; exact ⟨rfl, rfl⟩
      · refine me0 (pc' := 253) (S' := [ii 6, .ref o]) dm_X5_outcome_251 rfl rfl rfl rfl ?_
        refine me2 (pc' := 257) (S' := [ii 6, .ref o]) dm_X5_outcome_253 rfl rfl rfl ?_
        refine me3 (pc' := 260) (S' := []) (h1 := (h).set o (cO 5 [ii vb, ii 6, .ref nq, ii sz, ii lv, ii nm, ii vm_, zz rw_, ro, va, ii nu, ii vu])) dm_X5_outcome_257 (g_put (fs' := [ii vb, ii 6, .ref nq, ii sz, ii lv, ii nm, ii vm_, zz rw_, ro, va, ii nu, ii vu]) ho rfl rfl rfl (by simp) rfl (by decide) (fun z => by cases z) (by omega)) rfl rfl rfl ?_
        refine me1 (pc' := 262) (L' := [(0, .ref o), (1, .ref p), (2, .ref q), (3, ii i), (4, .long (vnum v i)), (6, .long (vnum w i))]) (S' := [.long (vnum v i)]) dm_X5_outcome_260 rfl rfl rfl rfl ?_
        refine me1 (pc' := 264) (L' := [(0, .ref o), (1, .ref p), (2, .ref q), (3, ii i), (4, .long (vnum v i)), (6, .long (vnum w i))]) (S' := [.long (vnum w i), .long (vnum v i)]) dm_X5_outcome_262 rfl rfl rfl rfl ?_
        refine me0 (pc' := 265) (S' := [.long ((vnum v i) + (vnum w i))]) dm_X5_outcome_264 rfl rfl rfl rfl ?_
        refine y_ret (r := some (.long ((vnum v i) + (vnum w i)))) dm_X5_outcome_265 rfl rfl rfl ?_
        refine ⟨_, rfl, ?_⟩
        have hz : (outF vb (vk v) (vk w) (vnum v i) (vnum w i)) = (6, (vnum v i) + (vnum w i)) := by unfold outF; rw [if_neg (by omega), if_neg (by omega), if_neg (by omega), if_neg (by omega), if_pos (by omega), if_pos (by assumption)]
        rw [hz]; exact ⟨rfl, rfl⟩
    refine y_sw (a := vb) (45) (t := 266) (i := .lookupswitch 260 #[(33, 214), (37, 205), (38, 223), (42, 179), (43, 127), (45, 153), (60, 99), (62, 113), (119, 252), (124, 231), (126, 239)]) (len := 99) dm_X5_outcome_113 rfl rfl rfl (by omega) (by decide) (fun hb8 => ?_) (fun hb8 => ?_)
    · refine me1 (pc' := 267) (L' := [(0, .ref o), (1, .ref p), (2, .ref q), (3, ii i), (4, .long (vnum v i)), (6, .long (vnum w i))]) (S' := [.ref o]) dm_X5_outcome_266 rfl rfl rfl rfl ?_
      refine me1 (pc' := 269) (L' := [(0, .ref o), (1, .ref p), (2, .ref q), (3, ii i), (4, .long (vnum v i)), (6, .long (vnum w i))]) (S' := [.long (vnum v i), .ref o]) dm_X5_outcome_267 rfl rfl rfl rfl ?_
      refine me1 (pc' := 271) (L' := [(0, .ref o), (1, .ref p), (2, .ref q), (3, ii i), (4, .long (vnum v i)), (6, .long (vnum w i))]) (S' := [.long (vnum w i), .long (vnum v i), .ref o]) dm_X5_outcome_269 rfl rfl rfl rfl ?_
      refine x_cp (pc' := 274) (v := zz (ovf ((vnum v i).toInt - (vnum w i).toInt))) (rest := [.ref o]) dm_X5_outcome_271 rfl (g_invs (As := [.long (vnum v i), .long (vnum w i)]) (S := [.ref o]) rfl rfl rfl) rfl rfl rfl (p_beyondDifference (by omega)) ?_
      refine y_zeq (c := ovf ((vnum v i).toInt - (vnum w i).toInt)) (t := 282) (pc' := 277) dm_X5_outcome_274 rfl rfl (fun hb9 => ?_) (fun hb9 => ?_)
      · refine me0 (pc' := 283) (S' := [ii 0, .ref o]) dm_X5_outcome_282 rfl rfl rfl rfl ?_
        refine me3 (pc' := 286) (S' := []) (h1 := (h).set o (cO 5 [ii vb, ii 0, .ref nq, ii sz, ii lv, ii nm, ii vm_, zz rw_, ro, va, ii nu, ii vu])) dm_X5_outcome_283 (g_put (fs' := [ii vb, ii 0, .ref nq, ii sz, ii lv, ii nm, ii vm_, zz rw_, ro, va, ii nu, ii vu]) ho rfl rfl rfl (by simp) rfl (by decide) (fun z => by cases z) (by omega)) rfl rfl rfl ?_
        refine me1 (pc' := 288) (L' := [(0, .ref o), (1, .ref p), (2, .ref q), (3, ii i), (4, .long (vnum v i)), (6, .long (vnum w i))]) (S' := [.long (vnum v i)]) dm_X5_outcome_286 rfl rfl rfl rfl ?_
        refine me1 (pc' := 290) (L' := [(0, .ref o), (1, .ref p), (2, .ref q), (3, ii i), (4, .long (vnum v i)), (6, .long (vnum w i))]) (S' := [.long (vnum w i), .long (vnum v i)]) dm_X5_outcome_288 rfl rfl rfl rfl ?_
        refine me0 (pc' := 291) (S' := [.long ((vnum v i) - (vnum w i))]) dm_X5_outcome_290 rfl rfl rfl rfl ?_
        refine y_ret (r := some (.long ((vnum v i) - (vnum w i)))) dm_X5_outcome_291 rfl rfl rfl ?_
        refine ⟨_, rfl, ?_⟩
        have hz : (outF vb (vk v) (vk w) (vnum v i) (vnum w i)) = (0, (vnum v i) - (vnum w i)) := by unfold outF; rw [if_neg (by omega), if_neg (by omega), if_neg (by omega), if_neg (by omega), if_neg (by omega), if_pos (by omega), if_neg (by rw [(by assumption : ovf _ = false)]; decide)]
        rw [hz]; exact ⟨rfl, rfl⟩
      · refine me0 (pc' := 279) (S' := [ii 6, .ref o]) dm_X5_outcome_277 rfl rfl rfl rfl ?_
        refine me2 (pc' := 283) (S' := [ii 6, .ref o]) dm_X5_outcome_279 rfl rfl rfl ?_
        refine me3 (pc' := 286) (S' := []) (h1 := (h).set o (cO 5 [ii vb, ii 6, .ref nq, ii sz, ii lv, ii nm, ii vm_, zz rw_, ro, va, ii nu, ii vu])) dm_X5_outcome_283 (g_put (fs' := [ii vb, ii 6, .ref nq, ii sz, ii lv, ii nm, ii vm_, zz rw_, ro, va, ii nu, ii vu]) ho rfl rfl rfl (by simp) rfl (by decide) (fun z => by cases z) (by omega)) rfl rfl rfl ?_
        refine me1 (pc' := 288) (L' := [(0, .ref o), (1, .ref p), (2, .ref q), (3, ii i), (4, .long (vnum v i)), (6, .long (vnum w i))]) (S' := [.long (vnum v i)]) dm_X5_outcome_286 rfl rfl rfl rfl ?_
        refine me1 (pc' := 290) (L' := [(0, .ref o), (1, .ref p), (2, .ref q), (3, ii i), (4, .long (vnum v i)), (6, .long (vnum w i))]) (S' := [.long (vnum w i), .long (vnum v i)]) dm_X5_outcome_288 rfl rfl rfl rfl ?_
        refine me0 (pc' := 291) (S' := [.long ((vnum v i) - (vnum w i))]) dm_X5_outcome_290 rfl rfl rfl rfl ?_
        refine y_ret (r := some (.long ((vnum v i) - (vnum w i)))) dm_X5_outcome_291 rfl rfl rfl ?_
        refine ⟨_, rfl, ?_⟩
        have hz : (outF vb (vk v) (vk w) (vnum v i) (vnum w i)) = (6, (vnum v i) - (vnum w i)) := by unfold outF; rw [if_neg (by omega), if_neg (by omega), if_neg (by omega), if_neg (by omega), if_neg (by omega), if_pos (by omega), if_pos (by assumption)]
        rw [hz]; exact ⟨rfl, rfl⟩
    refine y_sw (a := vb) (60) (t := 212) (i := .lookupswitch 260 #[(33, 214), (37, 205), (38, 223), (42, 179), (43, 127), (45, 153), (60, 99), (62, 113), (119, 252), (124, 231), (126, 239)]) (len := 99) dm_X5_outcome_113 rfl rfl rfl (by omega) (by decide) (fun hb10 => ?_) (fun hb10 => ?_)
    · refine me1 (pc' := 214) (L' := [(0, .ref o), (1, .ref p), (2, .ref q), (3, ii i), (4, .long (vnum v i)), (6, .long (vnum w i))]) (S' := [.long (vnum v i)]) dm_X5_outcome_212 rfl rfl rfl rfl ?_
      refine me1 (pc' := 216) (L' := [(0, .ref o), (1, .ref p), (2, .ref q), (3, ii i), (4, .long (vnum v i)), (6, .long (vnum w i))]) (S' := [.long (vnum w i), .long (vnum v i)]) dm_X5_outcome_214 rfl rfl rfl rfl ?_
      refine y_lge (x := vnum v i) (y := vnum w i) (t := 224) (pc1 := 217) (pc' := 220) dm_X5_outcome_216 rfl dm_X5_outcome_217 rfl rfl (fun hb11 => ?_) (fun hb11 => ?_)
      · refine me0 (pc' := 225) (S' := [.long (Int64.ofInt 0)]) dm_X5_outcome_224 rfl rfl rfl rfl ?_
        refine y_ret (r := some (.long (Int64.ofInt 0))) dm_X5_outcome_225 rfl rfl rfl ?_
        refine ⟨_, rfl, ?_⟩
        have hz : (outF vb (vk v) (vk w) (vnum v i) (vnum w i)) = (0, Int64.ofInt 0) := by unfold outF; rw [if_neg (by omega), if_neg (by omega), if_pos (by omega), if_neg (by omega)]
        rw [hz]; exact ⟨rfl, (hl_self ho).symm⟩
      · refine me0 (pc' := 221) (S' := [.long (Int64.ofInt 1)]) dm_X5_outcome_220 rfl rfl rfl rfl ?_
        refine me2 (pc' := 225) (S' := [.long (Int64.ofInt 1)]) dm_X5_outcome_221 rfl rfl rfl ?_
        refine y_ret (r := some (.long (Int64.ofInt 1))) dm_X5_outcome_225 rfl rfl rfl ?_
        refine ⟨_, rfl, ?_⟩
        have hz : (outF vb (vk v) (vk w) (vnum v i) (vnum w i)) = (0, Int64.ofInt 1) := by unfold outF; rw [if_neg (by omega), if_neg (by omega), if_pos (by omega), if_pos (by omega)]
        rw [hz]; exact ⟨rfl, (hl_self ho).symm⟩
    refine y_sw (a := vb) (62) (t := 226) (i := .lookupswitch 260 #[(33, 214), (37, 205), (38, 223), (42, 179), (43, 127), (45, 153), (60, 99), (62, 113), (119, 252), (124, 231), (126, 239)]) (len := 99) dm_X5_outcome_113 rfl rfl rfl (by omega) (by decide) (fun hb12 => ?_) (fun hb12 => ?_)
    · refine me1 (pc' := 228) (L' := [(0, .ref o), (1, .ref p), (2, .ref q), (3, ii i), (4, .long (vnum v i)), (6, .long (vnum w i))]) (S' := [.long (vnum v i)]) dm_X5_outcome_226 rfl rfl rfl rfl ?_
      refine me1 (pc' := 230) (L' := [(0, .ref o), (1, .ref p), (2, .ref q), (3, ii i), (4, .long (vnum v i)), (6, .long (vnum w i))]) (S' := [.long (vnum w i), .long (vnum v i)]) dm_X5_outcome_228 rfl rfl rfl rfl ?_
      refine y_lle (x := vnum v i) (y := vnum w i) (t := 238) (pc1 := 231) (pc' := 234) dm_X5_outcome_230 rfl dm_X5_outcome_231 rfl rfl (fun hb13 => ?_) (fun hb13 => ?_)
      · refine me0 (pc' := 239) (S' := [.long (Int64.ofInt 0)]) dm_X5_outcome_238 rfl rfl rfl rfl ?_
        refine y_ret (r := some (.long (Int64.ofInt 0))) dm_X5_outcome_239 rfl rfl rfl ?_
        refine ⟨_, rfl, ?_⟩
        have hz : (outF vb (vk v) (vk w) (vnum v i) (vnum w i)) = (0, Int64.ofInt 0) := by unfold outF; rw [if_neg (by omega), if_neg (by omega), if_neg (by omega), if_pos (by omega), if_neg (by omega)]
        rw [hz]; exact ⟨rfl, (hl_self ho).symm⟩
      · refine me0 (pc' := 235) (S' := [.long (Int64.ofInt 1)]) dm_X5_outcome_234 rfl rfl rfl rfl ?_
        refine me2 (pc' := 239) (S' := [.long (Int64.ofInt 1)]) dm_X5_outcome_235 rfl rfl rfl ?_
        refine y_ret (r := some (.long (Int64.ofInt 1))) dm_X5_outcome_239 rfl rfl rfl ?_
        refine ⟨_, rfl, ?_⟩
        have hz : (outF vb (vk v) (vk w) (vnum v i) (vnum w i)) = (0, Int64.ofInt 1) := by unfold outF; rw [if_neg (by omega), if_neg (by omega), if_neg (by omega), if_pos (by omega), if_pos (by omega)]
        rw [hz]; exact ⟨rfl, (hl_self ho).symm⟩
    refine y_sw (a := vb) (119) (t := 365) (i := .lookupswitch 260 #[(33, 214), (37, 205), (38, 223), (42, 179), (43, 127), (45, 153), (60, 99), (62, 113), (119, 252), (124, 231), (126, 239)]) (len := 99) dm_X5_outcome_113 rfl rfl rfl (by omega) (by decide) (fun hb14 => ?_) (fun hb14 => ?_)
    · refine me1 (pc' := 367) (L' := [(0, .ref o), (1, .ref p), (2, .ref q), (3, ii i), (4, .long (vnum v i)), (6, .long (vnum w i))]) (S' := [.long (vnum w i)]) dm_X5_outcome_365 rfl rfl rfl rfl ?_
      refine me0 (pc' := 368) (S' := [.long (Int64.ofInt 0), .long (vnum w i)]) dm_X5_outcome_367 rfl rfl rfl rfl ?_
      refine x_cp (pc' := 371) (v := ii (cmpL (vnum w i) (Int64.ofInt 0))) (rest := []) dm_X5_outcome_368 rfl (g_invs (As := [.long (vnum w i), .long (Int64.ofInt 0)]) (S := []) rfl rfl rfl) rfl rfl rfl (l_compare (by omega)) ?_
      refine y_i2l (a := cmpL (vnum w i) (Int64.ofInt 0)) dm_X5_outcome_371 (pc' := 372) rfl (by omega) (by omega) ?_
      refine y_ret (r := some (.long (Int64.ofInt (cmpL (vnum w i) (Int64.ofInt 0))))) dm_X5_outcome_372 rfl rfl rfl ?_
      refine ⟨_, rfl, ?_⟩
      have hz : (outF vb (vk v) (vk w) (vnum v i) (vnum w i)) = (0, Int64.ofInt (cmpL (vnum w i) (Int64.ofInt 0))) := by unfold outF; rw [if_neg (by omega), if_neg (by omega), if_neg (by omega), if_neg (by omega), if_neg (by omega), if_neg (by omega), if_neg (by omega), if_neg (by omega), if_neg (by omega), if_neg (by omega), if_neg (by omega), if_neg (by omega), if_pos (by omega)]
      rw [hz]; exact ⟨rfl, (hl_self ho).symm⟩
    refine y_sw (a := vb) (124) (t := 344) (i := .lookupswitch 260 #[(33, 214), (37, 205), (38, 223), (42, 179), (43, 127), (45, 153), (60, 99), (62, 113), (119, 252), (124, 231), (126, 239)]) (len := 99) dm_X5_outcome_113 rfl rfl rfl (by omega) (by decide) (fun hb15 => ?_) (fun hb15 => ?_)
    · refine me1 (pc' := 346) (L' := [(0, .ref o), (1, .ref p), (2, .ref q), (3, ii i), (4, .long (vnum v i)), (6, .long (vnum w i))]) (S' := [.long (vnum v i)]) dm_X5_outcome_344 rfl rfl rfl rfl ?_
      refine me1 (pc' := 348) (L' := [(0, .ref o), (1, .ref p), (2, .ref q), (3, ii i), (4, .long (vnum v i)), (6, .long (vnum w i))]) (S' := [.long (vnum w i), .long (vnum v i)]) dm_X5_outcome_346 rfl rfl rfl rfl ?_
      refine y_pr (i := .iadd) (pc' := 351) (S' := [.long (lmx (vnum v i) (vnum w i))]) dm_X5_outcome_348 rfl (p_lmax rfl) (by omega) rfl ?_
      refine y_ret (r := some (.long (lmx (vnum v i) (vnum w i)))) dm_X5_outcome_351 rfl rfl rfl ?_
      refine ⟨_, rfl, ?_⟩
      have hz : (outF vb (vk v) (vk w) (vnum v i) (vnum w i)) = (0, lmx (vnum v i) (vnum w i)) := by unfold outF; rw [if_neg (by omega), if_neg (by omega), if_neg (by omega), if_neg (by omega), if_neg (by omega), if_neg (by omega), if_neg (by omega), if_neg (by omega), if_neg (by omega), if_neg (by omega), if_pos (by omega)]
      rw [hz]; exact ⟨rfl, (hl_self ho).symm⟩
    refine y_sw (a := vb) (126) (t := 352) (i := .lookupswitch 260 #[(33, 214), (37, 205), (38, 223), (42, 179), (43, 127), (45, 153), (60, 99), (62, 113), (119, 252), (124, 231), (126, 239)]) (len := 99) dm_X5_outcome_113 rfl rfl rfl (by omega) (by decide) (fun hb16 => ?_) (fun hb16 => ?_)
    · refine me1 (pc' := 354) (L' := [(0, .ref o), (1, .ref p), (2, .ref q), (3, ii i), (4, .long (vnum v i)), (6, .long (vnum w i))]) (S' := [.long (vnum w i)]) dm_X5_outcome_352 rfl rfl rfl rfl ?_
      refine me0 (pc' := 355) (S' := [.long (Int64.ofInt 0), .long (vnum w i)]) dm_X5_outcome_354 rfl rfl rfl rfl ?_
      refine y_lne (x := vnum w i) (y := Int64.ofInt 0) (t := 363) (pc1 := 356) (pc' := 359) dm_X5_outcome_355 rfl dm_X5_outcome_356 rfl rfl (fun hb17 => ?_) (fun hb17 => ?_)
      · have hb17i : ¬ (vnum w i).toInt = (Int64.ofInt 0).toInt := fun z => hb17 (Int64.toInt_inj.mp z)
        refine me0 (pc' := 364) (S' := [.long (Int64.ofInt 0)]) dm_X5_outcome_363 rfl rfl rfl rfl ?_
        refine y_ret (r := some (.long (Int64.ofInt 0))) dm_X5_outcome_364 rfl rfl rfl ?_
        refine ⟨_, rfl, ?_⟩
        have hz : (outF vb (vk v) (vk w) (vnum v i) (vnum w i)) = (0, Int64.ofInt 0) := by unfold outF; rw [if_neg (by omega), if_neg (by omega), if_neg (by omega), if_neg (by omega), if_neg (by omega), if_neg (by omega), if_neg (by omega), if_neg (by omega), if_neg (by omega), if_neg (by omega), if_neg (by omega), if_pos (by omega), if_neg (by omega)]
        rw [hz]; exact ⟨rfl, (hl_self ho).symm⟩
      · have hb17i := congrArg Int64.toInt hb17
        refine me0 (pc' := 360) (S' := [.long (Int64.ofInt 1)]) dm_X5_outcome_359 rfl rfl rfl rfl ?_
        refine me2 (pc' := 364) (S' := [.long (Int64.ofInt 1)]) dm_X5_outcome_360 rfl rfl rfl ?_
        refine y_ret (r := some (.long (Int64.ofInt 1))) dm_X5_outcome_364 rfl rfl rfl ?_
        refine ⟨_, rfl, ?_⟩
        have hz : (outF vb (vk v) (vk w) (vnum v i) (vnum w i)) = (0, Int64.ofInt 1) := by unfold outF; rw [if_neg (by omega), if_neg (by omega), if_neg (by omega), if_neg (by omega), if_neg (by omega), if_neg (by omega), if_neg (by omega), if_neg (by omega), if_neg (by omega), if_neg (by omega), if_neg (by omega), if_pos (by omega), if_pos (by omega)]
        rw [hz]; exact ⟨rfl, (hl_self ho).symm⟩
    refine me2 (pc' := 373) (S' := []) dm_X5_outcome_113 (sw_ldef [Int32.ofInt 33, Int32.ofInt 37, Int32.ofInt 38, Int32.ofInt 42, Int32.ofInt 43, Int32.ofInt 45, Int32.ofInt 60, Int32.ofInt 62, Int32.ofInt 119, Int32.ofInt 124, Int32.ofInt 126] rfl rfl rfl ⟨y_no (by omega) (by decide) hb1, y_no (by omega) (by decide) hb2, y_no (by omega) (by decide) hb3, y_no (by omega) (by decide) hb4, y_no (by omega) (by decide) hb6, y_no (by omega) (by decide) hb8, y_no (by omega) (by decide) hb10, y_no (by omega) (by decide) hb12, y_no (by omega) (by decide) hb14, y_no (by omega) (by decide) hb15, y_no (by omega) (by decide) hb16, trivial⟩) rfl rfl ?_
    refine me1 (pc' := 374) (L' := [(0, .ref o), (1, .ref p), (2, .ref q), (3, ii i), (4, .long (vnum v i)), (6, .long (vnum w i))]) (S' := [.ref o]) dm_X5_outcome_373 rfl rfl rfl rfl ?_
    refine me0 (pc' := 375) (S' := [ii 1, .ref o]) dm_X5_outcome_374 rfl rfl rfl rfl ?_
    refine me3 (pc' := 378) (S' := []) (h1 := (h).set o (cO 5 [ii vb, ii 1, .ref nq, ii sz, ii lv, ii nm, ii vm_, zz rw_, ro, va, ii nu, ii vu])) dm_X5_outcome_375 (g_put (fs' := [ii vb, ii 1, .ref nq, ii sz, ii lv, ii nm, ii vm_, zz rw_, ro, va, ii nu, ii vu]) ho rfl rfl rfl (by simp) rfl (by decide) (fun z => by cases z) (by omega)) rfl rfl rfl ?_
    refine me0 (pc' := 379) (S' := [.long (Int64.ofInt 0)]) dm_X5_outcome_378 rfl rfl rfl rfl ?_
    refine y_ret (r := some (.long (Int64.ofInt 0))) dm_X5_outcome_379 rfl rfl rfl ?_
    refine ⟨_, rfl, ?_⟩
    have hz : (outF vb (vk v) (vk w) (vnum v i) (vnum w i)) = (1, Int64.ofInt 0) := by unfold outF; rw [if_neg (by omega), if_neg (by omega), if_neg (by omega), if_neg (by omega), if_neg (by omega), if_neg (by omega), if_neg (by omega), if_neg (by omega), if_neg (by omega), if_neg (by omega), if_neg (by omega), if_neg (by omega), if_neg (by omega)]
    rw [hz]; exact ⟨rfl, rfl⟩
  refine me1 (pc' := 1) (L' := [(0, .ref o), (1, .ref p), (2, .ref q), (3, ii i)]) (S' := [.ref p]) dm_X5_outcome_0 rfl rfl rfl rfl ?_
  refine me1 (pc' := 2) (L' := [(0, .ref o), (1, .ref p), (2, .ref q), (3, ii i)]) (S' := [ii i, .ref p]) dm_X5_outcome_1 rfl rfl rfl rfl ?_
  refine x_cp (pc' := 5) (v := .long (vnum v i)) (rest := []) dm_X5_outcome_2 rfl (g_inv (As := [ii i]) (S := []) hp rfl rfl rfl (by omega)) rfl rfl rfl (c_numberAt (i := i) hx1 (by omega) hv (by omega)) ?_
  refine me1 (pc' := 7) (L' := [(4, .long (vnum v i)), (0, .ref o), (1, .ref p), (2, .ref q), (3, ii i)]) (S' := []) dm_X5_outcome_5 rfl rfl rfl rfl ?_
  refine me1 (pc' := 8) (L' := [(4, .long (vnum v i)), (0, .ref o), (1, .ref p), (2, .ref q), (3, ii i)]) (S' := [.ref q]) dm_X5_outcome_7 rfl rfl rfl rfl ?_
  refine me1 (pc' := 9) (L' := [(4, .long (vnum v i)), (0, .ref o), (1, .ref p), (2, .ref q), (3, ii i)]) (S' := [ii i, .ref q]) dm_X5_outcome_8 rfl rfl rfl rfl ?_
  refine x_cp (pc' := 12) (v := .long (vnum w i)) (rest := []) dm_X5_outcome_9 rfl (g_inv (As := [ii i]) (S := []) hq rfl rfl rfl (by omega)) rfl rfl rfl (c_numberAt (i := i) hx1 (by omega) hw (by omega)) ?_
  refine me1 (pc' := 14) (L' := [(6, .long (vnum w i)), (4, .long (vnum v i)), (0, .ref o), (1, .ref p), (2, .ref q), (3, ii i)]) (S' := []) dm_X5_outcome_12 rfl rfl rfl rfl ?_
  refine me1 (pc' := 15) (L' := [(6, .long (vnum w i)), (4, .long (vnum v i)), (0, .ref o), (1, .ref p), (2, .ref q), (3, ii i)]) (S' := [.ref p]) dm_X5_outcome_14 rfl rfl rfl rfl ?_
  refine x_cp (pc' := 18) (v := zz (decide (vk v = 1 ∨ vk v = 3))) (rest := []) dm_X5_outcome_15 rfl (g_inv (As := []) (S := []) hp rfl rfl rfl (by omega)) rfl rfl rfl (c_ofSigns (by omega) hv) ?_
  refine me1 (pc' := 19) (L' := [(6, .long (vnum w i)), (4, .long (vnum v i)), (0, .ref o), (1, .ref p), (2, .ref q), (3, ii i)]) (S' := [.ref q, zz (decide (vk v = 1 ∨ vk v = 3))]) dm_X5_outcome_18 rfl rfl rfl rfl ?_
  refine x_cp (pc' := 22) (v := zz (decide (vk w = 1 ∨ vk w = 3))) (rest := [zz (decide (vk v = 1 ∨ vk v = 3))]) dm_X5_outcome_19 rfl (g_inv (As := []) (S := [zz (decide (vk v = 1 ∨ vk v = 3))]) hq rfl rfl rfl (by omega)) rfl rfl rfl (c_ofSigns (by omega) hw) ?_
  refine y_z2ne (c := decide (vk v = 1 ∨ vk v = 3)) (e := decide (vk w = 1 ∨ vk w = 3)) (t := 29) (pc' := 25) dm_X5_outcome_22 rfl rfl (fun hb18 => ?_) (fun hb18 => ?_)
  · replace hb18 := dNe hb18
    refine me0 (pc' := 30) (S' := [ii 0]) dm_X5_outcome_29 rfl rfl rfl rfl ?_
    refine me1 (pc' := 32) (L' := [(8, ii 0), (6, .long (vnum w i)), (4, .long (vnum v i)), (0, .ref o), (1, .ref p), (2, .ref q), (3, ii i)]) (S' := []) dm_X5_outcome_30 rfl rfl rfl rfl ?_
    refine me1 (pc' := 33) (L' := [(8, ii 0), (6, .long (vnum w i)), (4, .long (vnum v i)), (0, .ref o), (1, .ref p), (2, .ref q), (3, ii i)]) (S' := [.ref o]) dm_X5_outcome_32 rfl rfl rfl rfl ?_
    refine me3 (pc' := 36) (S' := [ii vb]) dm_X5_outcome_33 (g_get (v := ii vb) ho rfl rfl (by omega)) rfl rfl rfl ?_
    refine me0 (pc' := 38) (S' := [ii 61, ii vb]) dm_X5_outcome_36 rfl rfl rfl rfl ?_
    refine y_2ne (a := vb) (b := 61) (t := 60) (pc' := 41) dm_X5_outcome_38 rfl rfl (by omega) (fun hb19 => ?_) (fun hb19 => ?_)
    · refine me1 (pc' := 61) (L' := [(8, ii 0), (6, .long (vnum w i)), (4, .long (vnum v i)), (0, .ref o), (1, .ref p), (2, .ref q), (3, ii i)]) (S' := [.ref o]) dm_X5_outcome_60 rfl rfl rfl rfl ?_
      refine me3 (pc' := 64) (S' := [ii vb]) dm_X5_outcome_61 (g_get (v := ii vb) ho rfl rfl (by omega)) rfl rfl rfl ?_
      refine me0 (pc' := 66) (S' := [ii 60, ii vb]) dm_X5_outcome_64 rfl rfl rfl rfl ?_
      refine y_2eq (a := vb) (b := 60) (t := 78) (pc' := 69) dm_X5_outcome_66 rfl rfl (by omega) (fun hb20 => ?_) (fun hb20 => ?_)
      · refine me0 (pc' := 79) (S' := [ii 1]) dm_X5_outcome_78 rfl rfl rfl rfl ?_
        refine me2 (pc' := 83) (S' := [ii 1]) dm_X5_outcome_79 rfl rfl rfl ?_
        refine me1 (pc' := 85) (L' := [(9, ii 1), (8, ii 0), (6, .long (vnum w i)), (4, .long (vnum v i)), (0, .ref o), (1, .ref p), (2, .ref q), (3, ii i)]) (S' := []) dm_X5_outcome_83 rfl rfl rfl rfl ?_
        refine me1 (pc' := 87) (L' := [(9, ii 1), (8, ii 0), (6, .long (vnum w i)), (4, .long (vnum v i)), (0, .ref o), (1, .ref p), (2, .ref q), (3, ii i)]) (S' := [ii 0]) dm_X5_outcome_85 rfl rfl rfl rfl ?_
        refine me_1t (pc' := 102) dm_X5_outcome_87 rfl (by decide) ?_
        refine me1 (pc' := 103) (L' := [(9, ii 1), (8, ii 0), (6, .long (vnum w i)), (4, .long (vnum v i)), (0, .ref o), (1, .ref p), (2, .ref q), (3, ii i)]) (S' := [.ref o]) dm_X5_outcome_102 rfl rfl rfl rfl ?_
        refine me0 (pc' := 104) (S' := [ii 5, .ref o]) dm_X5_outcome_103 rfl rfl rfl rfl ?_
        refine me3 (pc' := 107) (S' := []) (h1 := (h).set o (cO 5 [ii vb, ii 5, .ref nq, ii sz, ii lv, ii nm, ii vm_, zz rw_, ro, va, ii nu, ii vu])) dm_X5_outcome_104 (g_put (fs' := [ii vb, ii 5, .ref nq, ii sz, ii lv, ii nm, ii vm_, zz rw_, ro, va, ii nu, ii vu]) ho rfl rfl rfl (by simp) rfl (by decide) (fun z => by cases z) (by omega)) rfl rfl rfl ?_
        refine me0 (pc' := 108) (S' := [.long (Int64.ofInt 0)]) dm_X5_outcome_107 rfl rfl rfl rfl ?_
        refine y_ret (r := some (.long (Int64.ofInt 0))) dm_X5_outcome_108 rfl rfl rfl ?_
        refine ⟨_, rfl, ?_⟩
        have hz : (outF vb (vk v) (vk w) (vnum v i) (vnum w i)) = (5, Int64.ofInt 0) := by unfold outF; rw [if_neg (by omega), if_pos (by omega)]
        rw [hz]; exact ⟨rfl, rfl⟩
      · refine me1 (pc' := 70) (L' := [(8, ii 0), (6, .long (vnum w i)), (4, .long (vnum v i)), (0, .ref o), (1, .ref p), (2, .ref q), (3, ii i)]) (S' := [.ref o]) dm_X5_outcome_69 rfl rfl rfl rfl ?_
        refine me3 (pc' := 73) (S' := [ii vb]) dm_X5_outcome_70 (g_get (v := ii vb) ho rfl rfl (by omega)) rfl rfl rfl ?_
        refine me0 (pc' := 75) (S' := [ii 62, ii vb]) dm_X5_outcome_73 rfl rfl rfl rfl ?_
        refine y_2ne (a := vb) (b := 62) (t := 82) (pc' := 78) dm_X5_outcome_75 rfl rfl (by omega) (fun hb21 => ?_) (fun hb21 => ?_)
        · refine me0 (pc' := 83) (S' := [ii 0]) dm_X5_outcome_82 rfl rfl rfl rfl ?_
          refine me1 (pc' := 85) (L' := [(9, ii 0), (8, ii 0), (6, .long (vnum w i)), (4, .long (vnum v i)), (0, .ref o), (1, .ref p), (2, .ref q), (3, ii i)]) (S' := []) dm_X5_outcome_83 rfl rfl rfl rfl ?_
          refine me1 (pc' := 87) (L' := [(9, ii 0), (8, ii 0), (6, .long (vnum w i)), (4, .long (vnum v i)), (0, .ref o), (1, .ref p), (2, .ref q), (3, ii i)]) (S' := [ii 0]) dm_X5_outcome_85 rfl rfl rfl rfl ?_
          refine me_1t (pc' := 102) dm_X5_outcome_87 rfl (by decide) ?_
          refine me1 (pc' := 103) (L' := [(9, ii 0), (8, ii 0), (6, .long (vnum w i)), (4, .long (vnum v i)), (0, .ref o), (1, .ref p), (2, .ref q), (3, ii i)]) (S' := [.ref o]) dm_X5_outcome_102 rfl rfl rfl rfl ?_
          refine me0 (pc' := 104) (S' := [ii 5, .ref o]) dm_X5_outcome_103 rfl rfl rfl rfl ?_
          refine me3 (pc' := 107) (S' := []) (h1 := (h).set o (cO 5 [ii vb, ii 5, .ref nq, ii sz, ii lv, ii nm, ii vm_, zz rw_, ro, va, ii nu, ii vu])) dm_X5_outcome_104 (g_put (fs' := [ii vb, ii 5, .ref nq, ii sz, ii lv, ii nm, ii vm_, zz rw_, ro, va, ii nu, ii vu]) ho rfl rfl rfl (by simp) rfl (by decide) (fun z => by cases z) (by omega)) rfl rfl rfl ?_
          refine me0 (pc' := 108) (S' := [.long (Int64.ofInt 0)]) dm_X5_outcome_107 rfl rfl rfl rfl ?_
          refine y_ret (r := some (.long (Int64.ofInt 0))) dm_X5_outcome_108 rfl rfl rfl ?_
          refine ⟨_, rfl, ?_⟩
          have hz : (outF vb (vk v) (vk w) (vnum v i) (vnum w i)) = (5, Int64.ofInt 0) := by unfold outF; rw [if_neg (by omega), if_pos (by omega)]
          rw [hz]; exact ⟨rfl, rfl⟩
        · refine me0 (pc' := 79) (S' := [ii 1]) dm_X5_outcome_78 rfl rfl rfl rfl ?_
          refine me2 (pc' := 83) (S' := [ii 1]) dm_X5_outcome_79 rfl rfl rfl ?_
          refine me1 (pc' := 85) (L' := [(9, ii 1), (8, ii 0), (6, .long (vnum w i)), (4, .long (vnum v i)), (0, .ref o), (1, .ref p), (2, .ref q), (3, ii i)]) (S' := []) dm_X5_outcome_83 rfl rfl rfl rfl ?_
          refine me1 (pc' := 87) (L' := [(9, ii 1), (8, ii 0), (6, .long (vnum w i)), (4, .long (vnum v i)), (0, .ref o), (1, .ref p), (2, .ref q), (3, ii i)]) (S' := [ii 0]) dm_X5_outcome_85 rfl rfl rfl rfl ?_
          refine me_1t (pc' := 102) dm_X5_outcome_87 rfl (by decide) ?_
          refine me1 (pc' := 103) (L' := [(9, ii 1), (8, ii 0), (6, .long (vnum w i)), (4, .long (vnum v i)), (0, .ref o), (1, .ref p), (2, .ref q), (3, ii i)]) (S' := [.ref o]) dm_X5_outcome_102 rfl rfl rfl rfl ?_
          refine me0 (pc' := 104) (S' := [ii 5, .ref o]) dm_X5_outcome_103 rfl rfl rfl rfl ?_
          refine me3 (pc' := 107) (S' := []) (h1 := (h).set o (cO 5 [ii vb, ii 5, .ref nq, ii sz, ii lv, ii nm, ii vm_, zz rw_, ro, va, ii nu, ii vu])) dm_X5_outcome_104 (g_put (fs' := [ii vb, ii 5, .ref nq, ii sz, ii lv, ii nm, ii vm_, zz rw_, ro, va, ii nu, ii vu]) ho rfl rfl rfl (by simp) rfl (by decide) (fun z => by cases z) (by omega)) rfl rfl rfl ?_
          refine me0 (pc' := 108) (S' := [.long (Int64.ofInt 0)]) dm_X5_outcome_107 rfl rfl rfl rfl ?_
          refine y_ret (r := some (.long (Int64.ofInt 0))) dm_X5_outcome_108 rfl rfl rfl ?_
          refine ⟨_, rfl, ?_⟩
          have hz : (outF vb (vk v) (vk w) (vnum v i) (vnum w i)) = (5, Int64.ofInt 0) := by unfold outF; rw [if_neg (by omega), if_pos (by omega)]
          rw [hz]; exact ⟨rfl, rfl⟩
    · refine me1 (pc' := 43) (L' := [(8, ii 0), (6, .long (vnum w i)), (4, .long (vnum v i)), (0, .ref o), (1, .ref p), (2, .ref q), (3, ii i)]) (S' := [ii 0]) dm_X5_outcome_41 rfl rfl rfl rfl ?_
      refine me_1t (pc' := 58) dm_X5_outcome_43 rfl (by decide) ?_
      refine me0 (pc' := 59) (S' := [.long (Int64.ofInt 0)]) dm_X5_outcome_58 rfl rfl rfl rfl ?_
      refine y_ret (r := some (.long (Int64.ofInt 0))) dm_X5_outcome_59 rfl rfl rfl ?_
      refine ⟨_, rfl, ?_⟩
      have hz : (outF vb (vk v) (vk w) (vnum v i) (vnum w i)) = (0, Int64.ofInt 0) := by unfold outF; rw [if_pos (by omega), if_neg (by omega)]
      rw [hz]; exact ⟨rfl, (hl_self ho).symm⟩
  · replace hb18 := dEq hb18
    refine me0 (pc' := 26) (S' := [ii 1]) dm_X5_outcome_25 rfl rfl rfl rfl ?_
    refine me2 (pc' := 30) (S' := [ii 1]) dm_X5_outcome_26 rfl rfl rfl ?_
    refine me1 (pc' := 32) (L' := [(8, ii 1), (6, .long (vnum w i)), (4, .long (vnum v i)), (0, .ref o), (1, .ref p), (2, .ref q), (3, ii i)]) (S' := []) dm_X5_outcome_30 rfl rfl rfl rfl ?_
    refine me1 (pc' := 33) (L' := [(8, ii 1), (6, .long (vnum w i)), (4, .long (vnum v i)), (0, .ref o), (1, .ref p), (2, .ref q), (3, ii i)]) (S' := [.ref o]) dm_X5_outcome_32 rfl rfl rfl rfl ?_
    refine me3 (pc' := 36) (S' := [ii vb]) dm_X5_outcome_33 (g_get (v := ii vb) ho rfl rfl (by omega)) rfl rfl rfl ?_
    refine me0 (pc' := 38) (S' := [ii 61, ii vb]) dm_X5_outcome_36 rfl rfl rfl rfl ?_
    refine y_2ne (a := vb) (b := 61) (t := 60) (pc' := 41) dm_X5_outcome_38 rfl rfl (by omega) (fun hb22 => ?_) (fun hb22 => ?_)
    · refine me1 (pc' := 61) (L' := [(8, ii 1), (6, .long (vnum w i)), (4, .long (vnum v i)), (0, .ref o), (1, .ref p), (2, .ref q), (3, ii i)]) (S' := [.ref o]) dm_X5_outcome_60 rfl rfl rfl rfl ?_
      refine me3 (pc' := 64) (S' := [ii vb]) dm_X5_outcome_61 (g_get (v := ii vb) ho rfl rfl (by omega)) rfl rfl rfl ?_
      refine me0 (pc' := 66) (S' := [ii 60, ii vb]) dm_X5_outcome_64 rfl rfl rfl rfl ?_
      refine y_2eq (a := vb) (b := 60) (t := 78) (pc' := 69) dm_X5_outcome_66 rfl rfl (by omega) (fun hb23 => ?_) (fun hb23 => ?_)
      · refine me0 (pc' := 79) (S' := [ii 1]) dm_X5_outcome_78 rfl rfl rfl rfl ?_
        refine me2 (pc' := 83) (S' := [ii 1]) dm_X5_outcome_79 rfl rfl rfl ?_
        refine me1 (pc' := 85) (L' := [(9, ii 1), (8, ii 1), (6, .long (vnum w i)), (4, .long (vnum v i)), (0, .ref o), (1, .ref p), (2, .ref q), (3, ii i)]) (S' := []) dm_X5_outcome_83 rfl rfl rfl rfl ?_
        refine me1 (pc' := 87) (L' := [(9, ii 1), (8, ii 1), (6, .long (vnum w i)), (4, .long (vnum v i)), (0, .ref o), (1, .ref p), (2, .ref q), (3, ii i)]) (S' := [ii 1]) dm_X5_outcome_85 rfl rfl rfl rfl ?_
        refine me_1f (pc' := 90) dm_X5_outcome_87 rfl (by decide) rfl ?_
        refine me1 (pc' := 91) (L' := [(9, ii 1), (8, ii 1), (6, .long (vnum w i)), (4, .long (vnum v i)), (0, .ref o), (1, .ref p), (2, .ref q), (3, ii i)]) (S' := [.ref p]) dm_X5_outcome_90 rfl rfl rfl rfl ?_
        refine x_cp (pc' := 94) (v := zz (decide (vk v = 1 ∨ vk v = 3))) (rest := []) dm_X5_outcome_91 rfl (g_inv (As := []) (S := []) hp rfl rfl rfl (by omega)) rfl rfl rfl (c_ofSigns (by omega) hv) ?_
        refine y_zeq (c := decide (vk v = 1 ∨ vk v = 3)) (t := 109) (pc' := 97) dm_X5_outcome_94 rfl rfl (fun hb24 => ?_) (fun hb24 => ?_)
        · replace hb24 := dF hb24
          exact pg_sub (L := [(0, .ref o), (1, .ref p), (2, .ref q), (3, ii i), (4, .long (vnum v i)), (6, .long (vnum w i))]) rfl rfl rfl (cut109 (by omega) (by omega) (by omega))
        · replace hb24 := dT hb24
          refine me1 (pc' := 99) (L' := [(9, ii 1), (8, ii 1), (6, .long (vnum w i)), (4, .long (vnum v i)), (0, .ref o), (1, .ref p), (2, .ref q), (3, ii i)]) (S' := [ii 1]) dm_X5_outcome_97 rfl rfl rfl rfl ?_
          refine me_1t (pc' := 109) dm_X5_outcome_99 rfl (by decide) ?_
          exact pg_sub (L := [(0, .ref o), (1, .ref p), (2, .ref q), (3, ii i), (4, .long (vnum v i)), (6, .long (vnum w i))]) rfl rfl rfl (cut109 (by omega) (by omega) (by omega))
      · refine me1 (pc' := 70) (L' := [(8, ii 1), (6, .long (vnum w i)), (4, .long (vnum v i)), (0, .ref o), (1, .ref p), (2, .ref q), (3, ii i)]) (S' := [.ref o]) dm_X5_outcome_69 rfl rfl rfl rfl ?_
        refine me3 (pc' := 73) (S' := [ii vb]) dm_X5_outcome_70 (g_get (v := ii vb) ho rfl rfl (by omega)) rfl rfl rfl ?_
        refine me0 (pc' := 75) (S' := [ii 62, ii vb]) dm_X5_outcome_73 rfl rfl rfl rfl ?_
        refine y_2ne (a := vb) (b := 62) (t := 82) (pc' := 78) dm_X5_outcome_75 rfl rfl (by omega) (fun hb25 => ?_) (fun hb25 => ?_)
        · refine me0 (pc' := 83) (S' := [ii 0]) dm_X5_outcome_82 rfl rfl rfl rfl ?_
          refine me1 (pc' := 85) (L' := [(9, ii 0), (8, ii 1), (6, .long (vnum w i)), (4, .long (vnum v i)), (0, .ref o), (1, .ref p), (2, .ref q), (3, ii i)]) (S' := []) dm_X5_outcome_83 rfl rfl rfl rfl ?_
          refine me1 (pc' := 87) (L' := [(9, ii 0), (8, ii 1), (6, .long (vnum w i)), (4, .long (vnum v i)), (0, .ref o), (1, .ref p), (2, .ref q), (3, ii i)]) (S' := [ii 1]) dm_X5_outcome_85 rfl rfl rfl rfl ?_
          refine me_1f (pc' := 90) dm_X5_outcome_87 rfl (by decide) rfl ?_
          refine me1 (pc' := 91) (L' := [(9, ii 0), (8, ii 1), (6, .long (vnum w i)), (4, .long (vnum v i)), (0, .ref o), (1, .ref p), (2, .ref q), (3, ii i)]) (S' := [.ref p]) dm_X5_outcome_90 rfl rfl rfl rfl ?_
          refine x_cp (pc' := 94) (v := zz (decide (vk v = 1 ∨ vk v = 3))) (rest := []) dm_X5_outcome_91 rfl (g_inv (As := []) (S := []) hp rfl rfl rfl (by omega)) rfl rfl rfl (c_ofSigns (by omega) hv) ?_
          refine y_zeq (c := decide (vk v = 1 ∨ vk v = 3)) (t := 109) (pc' := 97) dm_X5_outcome_94 rfl rfl (fun hb26 => ?_) (fun hb26 => ?_)
          · replace hb26 := dF hb26
            exact pg_sub (L := [(0, .ref o), (1, .ref p), (2, .ref q), (3, ii i), (4, .long (vnum v i)), (6, .long (vnum w i))]) rfl rfl rfl (cut109 (by omega) (by omega) (by omega))
          · replace hb26 := dT hb26
            refine me1 (pc' := 99) (L' := [(9, ii 0), (8, ii 1), (6, .long (vnum w i)), (4, .long (vnum v i)), (0, .ref o), (1, .ref p), (2, .ref q), (3, ii i)]) (S' := [ii 0]) dm_X5_outcome_97 rfl rfl rfl rfl ?_
            refine me_1f (pc' := 102) dm_X5_outcome_99 rfl (by decide) rfl ?_
            refine me1 (pc' := 103) (L' := [(9, ii 0), (8, ii 1), (6, .long (vnum w i)), (4, .long (vnum v i)), (0, .ref o), (1, .ref p), (2, .ref q), (3, ii i)]) (S' := [.ref o]) dm_X5_outcome_102 rfl rfl rfl rfl ?_
            refine me0 (pc' := 104) (S' := [ii 5, .ref o]) dm_X5_outcome_103 rfl rfl rfl rfl ?_
            refine me3 (pc' := 107) (S' := []) (h1 := (h).set o (cO 5 [ii vb, ii 5, .ref nq, ii sz, ii lv, ii nm, ii vm_, zz rw_, ro, va, ii nu, ii vu])) dm_X5_outcome_104 (g_put (fs' := [ii vb, ii 5, .ref nq, ii sz, ii lv, ii nm, ii vm_, zz rw_, ro, va, ii nu, ii vu]) ho rfl rfl rfl (by simp) rfl (by decide) (fun z => by cases z) (by omega)) rfl rfl rfl ?_
            refine me0 (pc' := 108) (S' := [.long (Int64.ofInt 0)]) dm_X5_outcome_107 rfl rfl rfl rfl ?_
            refine y_ret (r := some (.long (Int64.ofInt 0))) dm_X5_outcome_108 rfl rfl rfl ?_
            refine ⟨_, rfl, ?_⟩
            have hz : (outF vb (vk v) (vk w) (vnum v i) (vnum w i)) = (5, Int64.ofInt 0) := by unfold outF; rw [if_neg (by omega), if_pos (by omega)]
            rw [hz]; exact ⟨rfl, rfl⟩
        · refine me0 (pc' := 79) (S' := [ii 1]) dm_X5_outcome_78 rfl rfl rfl rfl ?_
          refine me2 (pc' := 83) (S' := [ii 1]) dm_X5_outcome_79 rfl rfl rfl ?_
          refine me1 (pc' := 85) (L' := [(9, ii 1), (8, ii 1), (6, .long (vnum w i)), (4, .long (vnum v i)), (0, .ref o), (1, .ref p), (2, .ref q), (3, ii i)]) (S' := []) dm_X5_outcome_83 rfl rfl rfl rfl ?_
          refine me1 (pc' := 87) (L' := [(9, ii 1), (8, ii 1), (6, .long (vnum w i)), (4, .long (vnum v i)), (0, .ref o), (1, .ref p), (2, .ref q), (3, ii i)]) (S' := [ii 1]) dm_X5_outcome_85 rfl rfl rfl rfl ?_
          refine me_1f (pc' := 90) dm_X5_outcome_87 rfl (by decide) rfl ?_
          refine me1 (pc' := 91) (L' := [(9, ii 1), (8, ii 1), (6, .long (vnum w i)), (4, .long (vnum v i)), (0, .ref o), (1, .ref p), (2, .ref q), (3, ii i)]) (S' := [.ref p]) dm_X5_outcome_90 rfl rfl rfl rfl ?_
          refine x_cp (pc' := 94) (v := zz (decide (vk v = 1 ∨ vk v = 3))) (rest := []) dm_X5_outcome_91 rfl (g_inv (As := []) (S := []) hp rfl rfl rfl (by omega)) rfl rfl rfl (c_ofSigns (by omega) hv) ?_
          refine y_zeq (c := decide (vk v = 1 ∨ vk v = 3)) (t := 109) (pc' := 97) dm_X5_outcome_94 rfl rfl (fun hb27 => ?_) (fun hb27 => ?_)
          · replace hb27 := dF hb27
            exact pg_sub (L := [(0, .ref o), (1, .ref p), (2, .ref q), (3, ii i), (4, .long (vnum v i)), (6, .long (vnum w i))]) rfl rfl rfl (cut109 (by omega) (by omega) (by omega))
          · replace hb27 := dT hb27
            refine me1 (pc' := 99) (L' := [(9, ii 1), (8, ii 1), (6, .long (vnum w i)), (4, .long (vnum v i)), (0, .ref o), (1, .ref p), (2, .ref q), (3, ii i)]) (S' := [ii 1]) dm_X5_outcome_97 rfl rfl rfl rfl ?_
            refine me_1t (pc' := 109) dm_X5_outcome_99 rfl (by decide) ?_
            exact pg_sub (L := [(0, .ref o), (1, .ref p), (2, .ref q), (3, ii i), (4, .long (vnum v i)), (6, .long (vnum w i))]) rfl rfl rfl (cut109 (by omega) (by omega) (by omega))
    · refine me1 (pc' := 43) (L' := [(8, ii 1), (6, .long (vnum w i)), (4, .long (vnum v i)), (0, .ref o), (1, .ref p), (2, .ref q), (3, ii i)]) (S' := [ii 1]) dm_X5_outcome_41 rfl rfl rfl rfl ?_
      refine me_1f (pc' := 46) dm_X5_outcome_43 rfl (by decide) rfl ?_
      refine me1 (pc' := 48) (L' := [(8, ii 1), (6, .long (vnum w i)), (4, .long (vnum v i)), (0, .ref o), (1, .ref p), (2, .ref q), (3, ii i)]) (S' := [.long (vnum v i)]) dm_X5_outcome_46 rfl rfl rfl rfl ?_
      refine me1 (pc' := 50) (L' := [(8, ii 1), (6, .long (vnum w i)), (4, .long (vnum v i)), (0, .ref o), (1, .ref p), (2, .ref q), (3, ii i)]) (S' := [.long (vnum w i), .long (vnum v i)]) dm_X5_outcome_48 rfl rfl rfl rfl ?_
      refine y_lne (x := vnum v i) (y := vnum w i) (t := 58) (pc1 := 51) (pc' := 54) dm_X5_outcome_50 rfl dm_X5_outcome_51 rfl rfl (fun hb28 => ?_) (fun hb28 => ?_)
      · have hb28i : ¬ (vnum v i).toInt = (vnum w i).toInt := fun z => hb28 (Int64.toInt_inj.mp z)
        refine me0 (pc' := 59) (S' := [.long (Int64.ofInt 0)]) dm_X5_outcome_58 rfl rfl rfl rfl ?_
        refine y_ret (r := some (.long (Int64.ofInt 0))) dm_X5_outcome_59 rfl rfl rfl ?_
        refine ⟨_, rfl, ?_⟩
        have hz : (outF vb (vk v) (vk w) (vnum v i) (vnum w i)) = (0, Int64.ofInt 0) := by unfold outF; rw [if_pos (by omega), if_neg (by omega)]
        rw [hz]; exact ⟨rfl, (hl_self ho).symm⟩
      · have hb28i := congrArg Int64.toInt hb28
        refine me0 (pc' := 55) (S' := [.long (Int64.ofInt 1)]) dm_X5_outcome_54 rfl rfl rfl rfl ?_
        refine me2 (pc' := 59) (S' := [.long (Int64.ofInt 1)]) dm_X5_outcome_55 rfl rfl rfl ?_
        refine y_ret (r := some (.long (Int64.ofInt 1))) dm_X5_outcome_59 rfl rfl rfl ?_
        refine ⟨_, rfl, ?_⟩
        have hz : (outF vb (vk v) (vk w) (vnum v i) (vnum w i)) = (0, Int64.ofInt 1) := by unfold outF; rw [if_pos (by omega), if_pos (by omega)]
        rw [hz]; exact ⟨rfl, (hl_self ho).symm⟩
