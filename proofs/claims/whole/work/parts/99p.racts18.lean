/-! the reference: numbers told by signs -/
theorem i64_dg (x y c k : Int64) : k * x + y - c = x * k + (y - c) := by
  rw [Int64.mul_comm k x, Int64.sub_eq_add_neg, Int64.sub_eq_add_neg, Int64.add_assoc]
theorem dgEnd_run {f : Nat → Int64} {m i : Nat} : ∀ n, (∀ j, i ≤ j → j < i + n → j < m ∧ isDg (f j)) → dgEnd f m i = dgEnd f m (i + n) := by
  intro n
  induction n with
  | zero => intro _; rfl
  | succ n ih =>
    intro h
    rw [ih (fun j h1 h2 => h j h1 (by omega))]
    obtain ⟨h1, h2⟩ := h (i + n) (by omega) (by omega)
    exact dgEnd_go h1 h2
theorem nmE_run {f : Nat → Int64} {m a n : Nat} (h : ∀ j, nmS f a ≤ j → j < nmS f a + n → j < m ∧ isDg (f j)) : nmE f m a = dgEnd f m (nmS f a + n) := dgEnd_run n h
theorem nmE_ge {f : Nat → Int64} {m a n : Nat} (h : ∀ j, nmS f a ≤ j → j < nmS f a + n → j < m ∧ isDg (f j)) : nmS f a + n ≤ nmE f m a := by
  rw [nmE_run h]
  exact (dgE_le (f := f) (m := m) (n := m - (nmS f a + n)) (i := nmS f a + n)).1
set_option maxRecDepth 20000 in
theorem pm_X12_numbersIn : mj_mmof pg_ms 291 = some ((⟨"ArrayCalculatorModel", "numbersIn", "(II)I"⟩, prog_14_method_41_code, 10, (Option.some Jvm.ClassFile.FieldType.int)), 12, false, mj_dec prog_14_method_41_code) := rfl
theorem dm_X12_numbersIn_0 : mj_dec prog_14_method_41_code 0 = some (.aload_n 0, 1) := by decide +kernel
theorem dm_X12_numbersIn_1 : mj_dec prog_14_method_41_code 1 = some (.iload_n 1, 1) := by decide +kernel
theorem dm_X12_numbersIn_2 : mj_dec prog_14_method_41_code 2 = some (.invokevirtual 146, 3) := by decide +kernel
theorem dm_X12_numbersIn_5 : mj_dec prog_14_method_41_code 5 = some (.iconst 1, 1) := by decide +kernel
theorem dm_X12_numbersIn_6 : mj_dec prog_14_method_41_code 6 = some (.if_icmp .eq 19, 3) := by decide +kernel
theorem dm_X12_numbersIn_9 : mj_dec prog_14_method_41_code 9 = some (.aload_n 0, 1) := by decide +kernel
theorem dm_X12_numbersIn_10 : mj_dec prog_14_method_41_code 10 = some (.iload_n 1, 1) := by decide +kernel
theorem dm_X12_numbersIn_11 : mj_dec prog_14_method_41_code 11 = some (.invokevirtual 146, 3) := by decide +kernel
theorem dm_X12_numbersIn_14 : mj_dec prog_14_method_41_code 14 = some (.iconst 3, 1) := by decide +kernel
theorem dm_X12_numbersIn_15 : mj_dec prog_14_method_41_code 15 = some (.if_icmp .eq 10, 3) := by decide +kernel
theorem dm_X12_numbersIn_18 : mj_dec prog_14_method_41_code 18 = some (.aload_n 0, 1) := by decide +kernel
theorem dm_X12_numbersIn_19 : mj_dec prog_14_method_41_code 19 = some (.iconst 3, 1) := by decide +kernel
theorem dm_X12_numbersIn_20 : mj_dec prog_14_method_41_code 20 = some (.iload_n 2, 1) := by decide +kernel
theorem dm_X12_numbersIn_21 : mj_dec prog_14_method_41_code 21 = some (.invokevirtual 190, 3) := by decide +kernel
theorem dm_X12_numbersIn_24 : mj_dec prog_14_method_41_code 24 = some (.ireturn, 1) := by decide +kernel
theorem dm_X12_numbersIn_25 : mj_dec prog_14_method_41_code 25 = some (.aload_n 0, 1) := by decide +kernel
theorem dm_X12_numbersIn_26 : mj_dec prog_14_method_41_code 26 = some (.getfield 119, 3) := by decide +kernel
theorem dm_X12_numbersIn_29 : mj_dec prog_14_method_41_code 29 = some (.istore_n 3, 1) := by decide +kernel
theorem dm_X12_numbersIn_30 : mj_dec prog_14_method_41_code 30 = some (.iconst 0, 1) := by decide +kernel
theorem dm_X12_numbersIn_31 : mj_dec prog_14_method_41_code 31 = some (.istore 4, 2) := by decide +kernel
theorem dm_X12_numbersIn_33 : mj_dec prog_14_method_41_code 33 = some (.iconst 0, 1) := by decide +kernel
theorem dm_X12_numbersIn_34 : mj_dec prog_14_method_41_code 34 = some (.istore 5, 2) := by decide +kernel
theorem dm_X12_numbersIn_36 : mj_dec prog_14_method_41_code 36 = some (.iload 5, 2) := by decide +kernel
theorem dm_X12_numbersIn_38 : mj_dec prog_14_method_41_code 38 = some (.aload_n 0, 1) := by decide +kernel
theorem dm_X12_numbersIn_39 : mj_dec prog_14_method_41_code 39 = some (.iload_n 1, 1) := by decide +kernel
theorem dm_X12_numbersIn_40 : mj_dec prog_14_method_41_code 40 = some (.invokevirtual 134, 3) := by decide +kernel
theorem dm_X12_numbersIn_43 : mj_dec prog_14_method_41_code 43 = some (.if_icmp .ge 203, 3) := by decide +kernel
theorem dm_X12_numbersIn_46 : mj_dec prog_14_method_41_code 46 = some (.aload_n 0, 1) := by decide +kernel
theorem dm_X12_numbersIn_47 : mj_dec prog_14_method_41_code 47 = some (.iload_n 1, 1) := by decide +kernel
theorem dm_X12_numbersIn_48 : mj_dec prog_14_method_41_code 48 = some (.iload 5, 2) := by decide +kernel
theorem dm_X12_numbersIn_50 : mj_dec prog_14_method_41_code 50 = some (.invokevirtual 138, 3) := by decide +kernel
theorem dm_X12_numbersIn_53 : mj_dec prog_14_method_41_code 53 = some (.ldc2_w 271, 3) := by decide +kernel
theorem dm_X12_numbersIn_56 : mj_dec prog_14_method_41_code 56 = some (.lcmp, 1) := by decide +kernel
theorem dm_X12_numbersIn_57 : mj_dec prog_14_method_41_code 57 = some (.ifCond .ne 9, 3) := by decide +kernel
theorem dm_X12_numbersIn_60 : mj_dec prog_14_method_41_code 60 = some (.iinc 5 1, 3) := by decide +kernel
theorem dm_X12_numbersIn_63 : mj_dec prog_14_method_41_code 63 = some (.goto (-27), 3) := by decide +kernel
theorem dm_X12_numbersIn_66 : mj_dec prog_14_method_41_code 66 = some (.aload_n 0, 1) := by decide +kernel
theorem dm_X12_numbersIn_67 : mj_dec prog_14_method_41_code 67 = some (.iload_n 1, 1) := by decide +kernel
theorem dm_X12_numbersIn_68 : mj_dec prog_14_method_41_code 68 = some (.iload 5, 2) := by decide +kernel
theorem dm_X12_numbersIn_70 : mj_dec prog_14_method_41_code 70 = some (.invokevirtual 138, 3) := by decide +kernel
theorem dm_X12_numbersIn_73 : mj_dec prog_14_method_41_code 73 = some (.ldc2_w 273, 3) := by decide +kernel
theorem dm_X12_numbersIn_76 : mj_dec prog_14_method_41_code 76 = some (.lcmp, 1) := by decide +kernel
theorem dm_X12_numbersIn_77 : mj_dec prog_14_method_41_code 77 = some (.ifCond .ne 7, 3) := by decide +kernel
theorem dm_X12_numbersIn_80 : mj_dec prog_14_method_41_code 80 = some (.iconst 1, 1) := by decide +kernel
theorem dm_X12_numbersIn_81 : mj_dec prog_14_method_41_code 81 = some (.goto 4, 3) := by decide +kernel
theorem dm_X12_numbersIn_84 : mj_dec prog_14_method_41_code 84 = some (.iconst 0, 1) := by decide +kernel
theorem dm_X12_numbersIn_85 : mj_dec prog_14_method_41_code 85 = some (.istore 6, 2) := by decide +kernel
theorem dm_X12_numbersIn_87 : mj_dec prog_14_method_41_code 87 = some (.iload 6, 2) := by decide +kernel
theorem dm_X12_numbersIn_89 : mj_dec prog_14_method_41_code 89 = some (.ifCond .eq 6, 3) := by decide +kernel
theorem dm_X12_numbersIn_92 : mj_dec prog_14_method_41_code 92 = some (.iinc 5 1, 3) := by decide +kernel
theorem dm_X12_numbersIn_95 : mj_dec prog_14_method_41_code 95 = some (.lconst 0, 1) := by decide +kernel
theorem dm_X12_numbersIn_96 : mj_dec prog_14_method_41_code 96 = some (.lstore 7, 2) := by decide +kernel
theorem dm_X12_numbersIn_98 : mj_dec prog_14_method_41_code 98 = some (.iconst 0, 1) := by decide +kernel
theorem dm_X12_numbersIn_99 : mj_dec prog_14_method_41_code 99 = some (.istore 9, 2) := by decide +kernel
theorem dm_X12_numbersIn_101 : mj_dec prog_14_method_41_code 101 = some (.iload 5, 2) := by decide +kernel
theorem dm_X12_numbersIn_103 : mj_dec prog_14_method_41_code 103 = some (.aload_n 0, 1) := by decide +kernel
theorem dm_X12_numbersIn_104 : mj_dec prog_14_method_41_code 104 = some (.iload_n 1, 1) := by decide +kernel
theorem dm_X12_numbersIn_105 : mj_dec prog_14_method_41_code 105 = some (.invokevirtual 134, 3) := by decide +kernel
theorem dm_X12_numbersIn_108 : mj_dec prog_14_method_41_code 108 = some (.if_icmp .ge 67, 3) := by decide +kernel
theorem dm_X12_numbersIn_111 : mj_dec prog_14_method_41_code 111 = some (.aload_n 0, 1) := by decide +kernel
theorem dm_X12_numbersIn_112 : mj_dec prog_14_method_41_code 112 = some (.iload_n 1, 1) := by decide +kernel
theorem dm_X12_numbersIn_113 : mj_dec prog_14_method_41_code 113 = some (.iload 5, 2) := by decide +kernel
theorem dm_X12_numbersIn_115 : mj_dec prog_14_method_41_code 115 = some (.invokevirtual 138, 3) := by decide +kernel
theorem dm_X12_numbersIn_118 : mj_dec prog_14_method_41_code 118 = some (.ldc2_w 275, 3) := by decide +kernel
theorem dm_X12_numbersIn_121 : mj_dec prog_14_method_41_code 121 = some (.lcmp, 1) := by decide +kernel
theorem dm_X12_numbersIn_122 : mj_dec prog_14_method_41_code 122 = some (.ifCond .lt 53, 3) := by decide +kernel
theorem dm_X12_numbersIn_125 : mj_dec prog_14_method_41_code 125 = some (.aload_n 0, 1) := by decide +kernel
theorem dm_X12_numbersIn_126 : mj_dec prog_14_method_41_code 126 = some (.iload_n 1, 1) := by decide +kernel
theorem dm_X12_numbersIn_127 : mj_dec prog_14_method_41_code 127 = some (.iload 5, 2) := by decide +kernel
theorem dm_X12_numbersIn_129 : mj_dec prog_14_method_41_code 129 = some (.invokevirtual 138, 3) := by decide +kernel
theorem dm_X12_numbersIn_132 : mj_dec prog_14_method_41_code 132 = some (.ldc2_w 277, 3) := by decide +kernel
theorem dm_X12_numbersIn_135 : mj_dec prog_14_method_41_code 135 = some (.lcmp, 1) := by decide +kernel
theorem dm_X12_numbersIn_136 : mj_dec prog_14_method_41_code 136 = some (.ifCond .gt 39, 3) := by decide +kernel
theorem dm_X12_numbersIn_139 : mj_dec prog_14_method_41_code 139 = some (.iload 9, 2) := by decide +kernel
theorem dm_X12_numbersIn_141 : mj_dec prog_14_method_41_code 141 = some (.bipush 19, 2) := by decide +kernel
theorem dm_X12_numbersIn_143 : mj_dec prog_14_method_41_code 143 = some (.if_icmp .ge 32, 3) := by decide +kernel
theorem dm_X12_numbersIn_146 : mj_dec prog_14_method_41_code 146 = some (.ldc2_w 279, 3) := by decide +kernel
theorem dm_X12_numbersIn_149 : mj_dec prog_14_method_41_code 149 = some (.lload 7, 2) := by decide +kernel
theorem dm_X12_numbersIn_151 : mj_dec prog_14_method_41_code 151 = some (.lmul, 1) := by decide +kernel
theorem dm_X12_numbersIn_152 : mj_dec prog_14_method_41_code 152 = some (.aload_n 0, 1) := by decide +kernel
theorem dm_X12_numbersIn_153 : mj_dec prog_14_method_41_code 153 = some (.iload_n 1, 1) := by decide +kernel
theorem dm_X12_numbersIn_154 : mj_dec prog_14_method_41_code 154 = some (.iload 5, 2) := by decide +kernel
theorem dm_X12_numbersIn_156 : mj_dec prog_14_method_41_code 156 = some (.invokevirtual 138, 3) := by decide +kernel
theorem dm_X12_numbersIn_159 : mj_dec prog_14_method_41_code 159 = some (.ladd, 1) := by decide +kernel
theorem dm_X12_numbersIn_160 : mj_dec prog_14_method_41_code 160 = some (.ldc2_w 275, 3) := by decide +kernel
theorem dm_X12_numbersIn_163 : mj_dec prog_14_method_41_code 163 = some (.lsub, 1) := by decide +kernel
theorem dm_X12_numbersIn_164 : mj_dec prog_14_method_41_code 164 = some (.lstore 7, 2) := by decide +kernel
theorem dm_X12_numbersIn_166 : mj_dec prog_14_method_41_code 166 = some (.iinc 9 1, 3) := by decide +kernel
theorem dm_X12_numbersIn_169 : mj_dec prog_14_method_41_code 169 = some (.iinc 5 1, 3) := by decide +kernel
theorem dm_X12_numbersIn_172 : mj_dec prog_14_method_41_code 172 = some (.goto (-71), 3) := by decide +kernel
theorem dm_X12_numbersIn_175 : mj_dec prog_14_method_41_code 175 = some (.iload 9, 2) := by decide +kernel
theorem dm_X12_numbersIn_177 : mj_dec prog_14_method_41_code 177 = some (.ifCond .eq 34, 3) := by decide +kernel
theorem dm_X12_numbersIn_180 : mj_dec prog_14_method_41_code 180 = some (.iload 9, 2) := by decide +kernel
theorem dm_X12_numbersIn_182 : mj_dec prog_14_method_41_code 182 = some (.bipush 18, 2) := by decide +kernel
theorem dm_X12_numbersIn_184 : mj_dec prog_14_method_41_code 184 = some (.if_icmp .gt 27, 3) := by decide +kernel
theorem dm_X12_numbersIn_187 : mj_dec prog_14_method_41_code 187 = some (.iload 5, 2) := by decide +kernel
theorem dm_X12_numbersIn_189 : mj_dec prog_14_method_41_code 189 = some (.aload_n 0, 1) := by decide +kernel
theorem dm_X12_numbersIn_190 : mj_dec prog_14_method_41_code 190 = some (.iload_n 1, 1) := by decide +kernel
theorem dm_X12_numbersIn_191 : mj_dec prog_14_method_41_code 191 = some (.invokevirtual 134, 3) := by decide +kernel
theorem dm_X12_numbersIn_194 : mj_dec prog_14_method_41_code 194 = some (.if_icmp .ge 24, 3) := by decide +kernel
theorem dm_X12_numbersIn_197 : mj_dec prog_14_method_41_code 197 = some (.aload_n 0, 1) := by decide +kernel
theorem dm_X12_numbersIn_198 : mj_dec prog_14_method_41_code 198 = some (.iload_n 1, 1) := by decide +kernel
theorem dm_X12_numbersIn_199 : mj_dec prog_14_method_41_code 199 = some (.iload 5, 2) := by decide +kernel
theorem dm_X12_numbersIn_201 : mj_dec prog_14_method_41_code 201 = some (.invokevirtual 138, 3) := by decide +kernel
theorem dm_X12_numbersIn_204 : mj_dec prog_14_method_41_code 204 = some (.ldc2_w 271, 3) := by decide +kernel
theorem dm_X12_numbersIn_207 : mj_dec prog_14_method_41_code 207 = some (.lcmp, 1) := by decide +kernel
theorem dm_X12_numbersIn_208 : mj_dec prog_14_method_41_code 208 = some (.ifCond .eq 10, 3) := by decide +kernel
theorem dm_X12_numbersIn_211 : mj_dec prog_14_method_41_code 211 = some (.aload_n 0, 1) := by decide +kernel
theorem dm_X12_numbersIn_212 : mj_dec prog_14_method_41_code 212 = some (.iconst 5, 1) := by decide +kernel
theorem dm_X12_numbersIn_213 : mj_dec prog_14_method_41_code 213 = some (.iload_n 2, 1) := by decide +kernel
theorem dm_X12_numbersIn_214 : mj_dec prog_14_method_41_code 214 = some (.invokevirtual 190, 3) := by decide +kernel
theorem dm_X12_numbersIn_217 : mj_dec prog_14_method_41_code 217 = some (.ireturn, 1) := by decide +kernel
theorem dm_X12_numbersIn_218 : mj_dec prog_14_method_41_code 218 = some (.aload_n 0, 1) := by decide +kernel
theorem dm_X12_numbersIn_219 : mj_dec prog_14_method_41_code 219 = some (.getfield 8, 3) := by decide +kernel
theorem dm_X12_numbersIn_222 : mj_dec prog_14_method_41_code 222 = some (.iload_n 3, 1) := by decide +kernel
theorem dm_X12_numbersIn_223 : mj_dec prog_14_method_41_code 223 = some (.iload 4, 2) := by decide +kernel
theorem dm_X12_numbersIn_225 : mj_dec prog_14_method_41_code 225 = some (.iadd, 1) := by decide +kernel
theorem dm_X12_numbersIn_226 : mj_dec prog_14_method_41_code 226 = some (.iload 6, 2) := by decide +kernel
theorem dm_X12_numbersIn_228 : mj_dec prog_14_method_41_code 228 = some (.ifCond .eq 9, 3) := by decide +kernel
theorem dm_X12_numbersIn_231 : mj_dec prog_14_method_41_code 231 = some (.lload 7, 2) := by decide +kernel
theorem dm_X12_numbersIn_233 : mj_dec prog_14_method_41_code 233 = some (.lneg, 1) := by decide +kernel
theorem dm_X12_numbersIn_234 : mj_dec prog_14_method_41_code 234 = some (.goto 5, 3) := by decide +kernel
theorem dm_X12_numbersIn_237 : mj_dec prog_14_method_41_code 237 = some (.lload 7, 2) := by decide +kernel
theorem dm_X12_numbersIn_239 : mj_dec prog_14_method_41_code 239 = some (.lastore, 1) := by decide +kernel
theorem dm_X12_numbersIn_240 : mj_dec prog_14_method_41_code 240 = some (.iinc 4 1, 3) := by decide +kernel
theorem dm_X12_numbersIn_243 : mj_dec prog_14_method_41_code 243 = some (.goto (-207), 3) := by decide +kernel
theorem dm_X12_numbersIn_246 : mj_dec prog_14_method_41_code 246 = some (.aload_n 0, 1) := by decide +kernel
theorem dm_X12_numbersIn_247 : mj_dec prog_14_method_41_code 247 = some (.aload_n 0, 1) := by decide +kernel
theorem dm_X12_numbersIn_248 : mj_dec prog_14_method_41_code 248 = some (.iconst 5, 1) := by decide +kernel
theorem dm_X12_numbersIn_249 : mj_dec prog_14_method_41_code 249 = some (.iload 4, 2) := by decide +kernel
theorem dm_X12_numbersIn_251 : mj_dec prog_14_method_41_code 251 = some (.invokevirtual 126, 3) := by decide +kernel
theorem dm_X12_numbersIn_254 : mj_dec prog_14_method_41_code 254 = some (.invokevirtual 205, 3) := by decide +kernel
theorem dm_X12_numbersIn_257 : mj_dec prog_14_method_41_code 257 = some (.ireturn, 1) := by decide +kernel
theorem r_numbersIn_ {xt : mj_X} {d e hd q b : Nat} {pre post : mj_H} {s : RS} {v : VV} {place : Int} (hm : pre.length = 102) (hd1 : 5 ≤ d) (hB : rB s) (hv : rv s (e + 1) hd v) (hh3 : 3 ≤ hd) (hq : s.1 4 = (q : Int)) (hb : s.1 3 = (b : Int)) (hq3 : 3 ≤ q) (hV2 : q < 310000) (he0 : s.1 5 = 0) (hca : 0 ≤ s.1 10 ∧ s.1 10 ≤ 100) (hC : b + 300 ≤ 820000) : pgV xt d 291 [.ref 102, ii (hd : Int), ii place] (rS pre post s) (rres pre post s (e + 1) (m_told v) place 120 1) := by
  have hB0 := hB
  obtain ⟨hB1, hB2, hB3, hB4⟩ := hB
  obtain ⟨fr, hfr, hsh, hlt, hcl, hvk, hvm, hvc, hvq, hvcl⟩ := rv_val hv
  have h48 : (Int64.ofInt 48).toInt = 48 := by decide
  have h57 : (Int64.ofInt 57).toInt = 57 := by decide
  have hq5 : vk v ≤ 5 → vq v = vm v := vq_m
  refine x_enter pm_X12_numbersIn (L0 := [(0, .ref 102), (1, ii (hd : Int)), (2, ii place)]) rfl (Nat.le_of_ble_eq_true rfl) (by omega) ?_
  refine me1 (pc' := 1) (L' := [(0, .ref 102), (1, ii (hd : Int)), (2, ii place)]) (S' := [.ref 102]) dm_X12_numbersIn_0 rfl rfl rfl rfl ?_
  refine me1 (pc' := 2) (L' := [(0, .ref 102), (1, ii (hd : Int)), (2, ii place)]) (S' := [ii (hd : Int), .ref 102]) dm_X12_numbersIn_1 rfl rfl rfl rfl ?_
  refine x_cp (pc' := 5) (v := ii (vk v : Int)) (rest := []) dm_X12_numbersIn_2 rfl (q_inv (As := [ii (hd : Int)]) (S := []) hm rfl rfl rfl) rfl rfl rfl (r_kindOf_ hm (by omega) hB0 hv) ?_
  refine me0 (pc' := 6) (S' := [ii 1, ii (vk v : Int)]) dm_X12_numbersIn_5 rfl rfl rfl rfl ?_
  refine y_2eq (a := (vk v : Int)) (b := 1) (t := 25) (pc' := 9) dm_X12_numbersIn_6 rfl rfl (by omega) (fun hb1 => ?_) (fun hb1 => ?_)
  · refine me1 (pc' := 26) (L' := [(0, .ref 102), (1, ii (hd : Int)), (2, ii place)]) (S' := [.ref 102]) dm_X12_numbersIn_25 rfl rfl rfl rfl ?_
    refine me3 (pc' := 29) (S' := [ii (s.1 3)]) dm_X12_numbersIn_26 (q_geti (v := s.1 3) hm rfl (fun m i l => rg_3 m i l) rfl) rfl rfl rfl ?_
    refine pg_st (S' := [ii (b : Int)]) (congrArg (fun z => ii z :: []) (hb)) ?_
    refine me1 (pc' := 30) (L' := [(3, ii (b : Int)), (0, .ref 102), (1, ii (hd : Int)), (2, ii place)]) (S' := []) dm_X12_numbersIn_29 rfl rfl rfl rfl ?_
    refine me0 (pc' := 31) (S' := [ii 0]) dm_X12_numbersIn_30 rfl rfl rfl rfl ?_
    refine me1 (pc' := 33) (L' := [(4, ii 0), (3, ii (b : Int)), (0, .ref 102), (1, ii (hd : Int)), (2, ii place)]) (S' := []) dm_X12_numbersIn_31 rfl rfl rfl rfl ?_
    refine me0 (pc' := 34) (S' := [ii 0]) dm_X12_numbersIn_33 rfl rfl rfl rfl ?_
    refine me1 (pc' := 36) (L' := [(5, ii 0), (4, ii 0), (3, ii (b : Int)), (0, .ref 102), (1, ii (hd : Int)), (2, ii place)]) (S' := []) dm_X12_numbersIn_34 rfl rfl rfl rfl ?_
    have lp36 : ∀ (n36 : Nat) (a : Nat) (n : Nat) (g : Nat → Int64), vm v - a = n36 → (a ≤ vm v) → (n ≤ a) → (tldT (vn v) (vm v) 0 0 (fun _ => 0) = tldT (vn v) (vm v) a n g) → pgE xt (d - 1) 12 10 false (Option.some Jvm.ClassFile.FieldType.int) (mj_dec prog_14_method_41_code) 36 [(0, .ref 102), (1, ii (hd : Int)), (2, ii place), (3, ii (b : Int)), (4, ii ((n : Nat) : Int)), (5, ii ((a : Nat) : Int))] [] (rI pre post ((fillS s b n g).1) ((fillS s b n g).2.1) ((fillS s b n g).2.2.1) ((fillS s b n g).2.2.2)) (fun r h' => ∃ x, r = some x ∧ rres pre post s (e + 1) (m_told v) place 120 1 x h') := by
      intro n36
      induction n36 using Nat.strongRecOn with
      | ind n36 ih36 =>
        intro a n g hm36 ha hn htl
        have hBT : rB (fillS s b n g) := hB0
        have hvT : rv (fillS s b n g) (e + 1) hd v := rv_ext (rext_fill (rext_rf s) (by omega) g) hh3 hv
        refine me1 (pc' := 38) (L' := [(0, .ref 102), (1, ii (hd : Int)), (2, ii place), (3, ii (b : Int)), (4, ii ((n : Nat) : Int)), (5, ii ((a : Nat) : Int))]) (S' := [ii ((a : Nat) : Int)]) dm_X12_numbersIn_36 rfl rfl rfl rfl ?_
        refine me1 (pc' := 39) (L' := [(0, .ref 102), (1, ii (hd : Int)), (2, ii place), (3, ii (b : Int)), (4, ii ((n : Nat) : Int)), (5, ii ((a : Nat) : Int))]) (S' := [.ref 102, ii ((a : Nat) : Int)]) dm_X12_numbersIn_38 rfl rfl rfl rfl ?_
        refine me1 (pc' := 40) (L' := [(0, .ref 102), (1, ii (hd : Int)), (2, ii place), (3, ii (b : Int)), (4, ii ((n : Nat) : Int)), (5, ii ((a : Nat) : Int))]) (S' := [ii (hd : Int), .ref 102, ii ((a : Nat) : Int)]) dm_X12_numbersIn_39 rfl rfl rfl rfl ?_
        refine x_cp (pc' := 43) (v := ii (vm v : Int)) (rest := [ii ((a : Nat) : Int)]) dm_X12_numbersIn_40 rfl (q_inv (As := [ii (hd : Int)]) (S := [ii ((a : Nat) : Int)]) hm rfl rfl rfl) rfl rfl rfl (r_many_ hm (by omega) hBT hvT) ?_
        refine y_2ge (a := ((a : Nat) : Int)) (b := (vm v : Int)) (t := 246) (pc' := 46) dm_X12_numbersIn_43 rfl rfl (by omega) (fun hb2 => ?_) (fun hb2 => ?_)
        · refine me1 (pc' := 247) (L' := [(0, .ref 102), (1, ii (hd : Int)), (2, ii place), (3, ii (b : Int)), (4, ii ((n : Nat) : Int)), (5, ii ((a : Nat) : Int))]) (S' := [.ref 102]) dm_X12_numbersIn_246 rfl rfl rfl rfl ?_
          refine me1 (pc' := 248) (L' := [(0, .ref 102), (1, ii (hd : Int)), (2, ii place), (3, ii (b : Int)), (4, ii ((n : Nat) : Int)), (5, ii ((a : Nat) : Int))]) (S' := [.ref 102, .ref 102]) dm_X12_numbersIn_247 rfl rfl rfl rfl ?_
          refine me0 (pc' := 249) (S' := [ii 5, .ref 102, .ref 102]) dm_X12_numbersIn_248 rfl rfl rfl rfl ?_
          refine me1 (pc' := 251) (L' := [(0, .ref 102), (1, ii (hd : Int)), (2, ii place), (3, ii (b : Int)), (4, ii ((n : Nat) : Int)), (5, ii ((a : Nat) : Int))]) (S' := [ii ((n : Nat) : Int), ii 5, .ref 102, .ref 102]) dm_X12_numbersIn_249 rfl rfl rfl rfl ?_
          refine x_cv (pc' := 254) (rest := [.ref 102]) dm_X12_numbersIn_251 rfl (q_inv (As := [ii 5, ii ((n : Nat) : Int)]) (S := [.ref 102]) hm rfl rfl rfl) rfl rfl rfl (r_row_ (q := q) (b := b) (s := (fillS s b n g)) hm (by omega) hq hb (by omega) (by omega) (by omega)) ?_
          rintro _ _ ⟨rfl, rfl⟩
          refine pg_cast (h2 := rI pre post ((fillS (rowS s q b 5 ((n : Nat) : Int)) b n g).1) ((fillS (rowS s q b 5 ((n : Nat) : Int)) b n g).2.1) ((fillS (rowS s q b 5 ((n : Nat) : Int)) b n g).2.2.1) ((fillS (rowS s q b 5 ((n : Nat) : Int)) b n g).2.2.2)) rfl ?_
          have hBU : rB (fillS (rowS s q b 5 ((n : Nat) : Int)) b n g) := ⟨by show 3 ≤ (q : Int) + 1; omega, by show (q : Int) + 1 ≤ 310000; omega, by show 0 ≤ (b : Int) + ((n : Nat) : Int); omega, by show (b : Int) + ((n : Nat) : Int) ≤ 820000; omega⟩
          have hvq : rv (fillS (rowS s q b 5 ((n : Nat) : Int)) b n g) (e + 1) q (vrow 5 n g) := rv_rowS (kind := 5) (vw1_row (by omega) (by omega) (by omega)) (by show ¬ 5 = 7; omega) (by show ¬ 5 = 6; omega) rfl rfl rfl (fun _ _ => rfl)
          refine x_cv (pc' := 257) (rest := []) dm_X12_numbersIn_254 rfl (q_inv (As := [ii (q : Int)]) (S := []) hm rfl rfl rfl) rfl rfl rfl (r_settled_ (s := (fillS (rowS s q b 5 ((n : Nat) : Int)) b n g)) (fr0 := b) hm (by omega) hBU hvq (up_eq _ _ _)) ?_
          rintro _ _ ⟨rfl, rfl⟩
          refine y_ret (r := some (ii (q : Int))) dm_X12_numbersIn_257 rfl rfl rfl ?_
          have han : a = vm v := by omega
          rw [m_told_r (by omega) (htl.trans (tldT_end han))]
          have hvf := vform_le (m := n) (f := g)
          have hst := setS_row s q b (vform n g) n n 5 g
          rw [show rS pre post (setS (fillS (rowS s q b 5 ((n : Nat) : Int)) b n g) q b (vform n g) n) = rS pre post (fillS (rowS s q b ((vform n g : Nat) : Int) ((n : Nat) : Int)) b n g) from congrArg (rS pre post) hst]
          exact ⟨_, rfl, rres_row (kind := vform n g) (n := n) (w := vrow (vform n g) n g) hq hq3 hb he0 (vw1_row (by omega) (by omega) (by omega)) (by show ¬ vform n g = 7; omega) (by show ¬ vform n g = 6; omega) rfl rfl rfl (fun _ _ => rfl) (by omega) (Nat.le_refl _)⟩
        · refine me1 (pc' := 47) (L' := [(0, .ref 102), (1, ii (hd : Int)), (2, ii place), (3, ii (b : Int)), (4, ii ((n : Nat) : Int)), (5, ii ((a : Nat) : Int))]) (S' := [.ref 102]) dm_X12_numbersIn_46 rfl rfl rfl rfl ?_
          refine me1 (pc' := 48) (L' := [(0, .ref 102), (1, ii (hd : Int)), (2, ii place), (3, ii (b : Int)), (4, ii ((n : Nat) : Int)), (5, ii ((a : Nat) : Int))]) (S' := [ii (hd : Int), .ref 102]) dm_X12_numbersIn_47 rfl rfl rfl rfl ?_
          refine me1 (pc' := 50) (L' := [(0, .ref 102), (1, ii (hd : Int)), (2, ii place), (3, ii (b : Int)), (4, ii ((n : Nat) : Int)), (5, ii ((a : Nat) : Int))]) (S' := [ii ((a : Nat) : Int), ii (hd : Int), .ref 102]) dm_X12_numbersIn_48 rfl rfl rfl rfl ?_
          refine x_cp (pc' := 53) (v := .long (vn v a)) (rest := []) dm_X12_numbersIn_50 rfl (q_inv (As := [ii (hd : Int), ii ((a : Nat) : Int)]) (S := []) hm rfl rfl rfl) rfl rfl rfl (r_number_ (k := a) hm (by omega) hBT hvT (by omega) (by omega)) ?_
          refine me3 (pc' := 56) (S' := [.long (Int64.ofInt 32), .long (vn v a)]) dm_X12_numbersIn_53 rfl rfl rfl rfl ?_
          refine y_lne (x := vn v a) (y := Int64.ofInt 32) (t := 66) (pc1 := 57) (pc' := 60) dm_X12_numbersIn_56 rfl dm_X12_numbersIn_57 rfl rfl (fun hb3 => ?_) (fun hb3 => ?_)
          · have hb3i : ¬ (vn v a).toInt = (Int64.ofInt 32).toInt := fun z => hb3 (Int64.toInt_inj.mp z)
            have hn32 := hb3
            have jn95 : ∀ c : Bool, c = decide (vn v a = Int64.ofInt 95) → pgE xt (d - 1) 12 10 false (Option.some Jvm.ClassFile.FieldType.int) (mj_dec prog_14_method_41_code) 95 [(0, .ref 102), (1, ii (hd : Int)), (2, ii place), (3, ii (b : Int)), (4, ii ((n : Nat) : Int)), (5, ii ((nmS (vn v) a + 0 : Nat) : Int)), (6, zz c)] [] (rI pre post ((fillS s b n g).1) ((fillS s b n g).2.1) ((fillS s b n g).2.2.1) ((fillS s b n g).2.2.2)) (fun r h' => ∃ x, r = some x ∧ rres pre post s (e + 1) (m_told v) place 120 1 x h') := by
              intro c hcb
              refine me0 (pc' := 96) (S' := [.long (Int64.ofInt 0)]) dm_X12_numbersIn_95 rfl rfl rfl rfl ?_
              refine me1 (pc' := 98) (L' := [(7, .long (Int64.ofInt 0)), (0, .ref 102), (1, ii (hd : Int)), (2, ii place), (3, ii (b : Int)), (4, ii ((n : Nat) : Int)), (5, ii ((nmS (vn v) a + 0 : Nat) : Int)), (6, zz c)]) (S' := []) dm_X12_numbersIn_96 rfl rfl rfl rfl ?_
              refine me0 (pc' := 99) (S' := [ii 0]) dm_X12_numbersIn_98 rfl rfl rfl rfl ?_
              refine me1 (pc' := 101) (L' := [(9, ii 0), (7, .long (Int64.ofInt 0)), (0, .ref 102), (1, ii (hd : Int)), (2, ii place), (3, ii (b : Int)), (4, ii ((n : Nat) : Int)), (5, ii ((nmS (vn v) a + 0 : Nat) : Int)), (6, zz c)]) (S' := []) dm_X12_numbersIn_99 rfl rfl rfl rfl ?_
              have lp101 : ∀ (n101 : Nat) (dg : Nat), 20 - dg = n101 → (dg ≤ 19) → (∀ j, nmS (vn v) a ≤ j → j < nmS (vn v) a + dg → j < vm v ∧ isDg (vn v j)) → pgE xt (d - 1) 12 10 false (Option.some Jvm.ClassFile.FieldType.int) (mj_dec prog_14_method_41_code) 101 [(0, .ref 102), (1, ii (hd : Int)), (2, ii place), (3, ii (b : Int)), (4, ii ((n : Nat) : Int)), (5, ii ((nmS (vn v) a + dg : Nat) : Int)), (6, zz c), (7, .long (dgV (vn v) (nmS (vn v) a) dg)), (9, ii ((dg : Nat) : Int))] [] (rI pre post ((fillS s b n g).1) ((fillS s b n g).2.1) ((fillS s b n g).2.2.1) ((fillS s b n g).2.2.2)) (fun r h' => ∃ x, r = some x ∧ rres pre post s (e + 1) (m_told v) place 120 1 x h') := by
                intro n101
                induction n101 using Nat.strongRecOn with
                | ind n101 ih101 =>
                  intro dg hm101 hdg hrun
                  have hSl := nmS_le (vn v) a
                  have hPm : (nmS (vn v) a + dg) ≤ vm v := by rcases Nat.eq_zero_or_pos dg with z | z; omega; have := (hrun (nmS (vn v) a + (dg - 1)) (by omega) (by omega)).1; omega
                  refine me1 (pc' := 103) (L' := [(0, .ref 102), (1, ii (hd : Int)), (2, ii place), (3, ii (b : Int)), (4, ii ((n : Nat) : Int)), (5, ii ((nmS (vn v) a + dg : Nat) : Int)), (6, zz c), (7, .long (dgV (vn v) (nmS (vn v) a) dg)), (9, ii ((dg : Nat) : Int))]) (S' := [ii ((nmS (vn v) a + dg : Nat) : Int)]) dm_X12_numbersIn_101 rfl rfl rfl rfl ?_
                  have jn175 : (vm v ≤ (nmS (vn v) a + dg) ∨ ¬ isDg (vn v (nmS (vn v) a + dg)) ∨ dg = 19) → pgE xt (d - 1) 12 10 false (Option.some Jvm.ClassFile.FieldType.int) (mj_dec prog_14_method_41_code) 175 [(0, .ref 102), (1, ii (hd : Int)), (2, ii place), (3, ii (b : Int)), (4, ii ((n : Nat) : Int)), (5, ii ((nmS (vn v) a + dg : Nat) : Int)), (6, zz c), (7, .long (dgV (vn v) (nmS (vn v) a) dg)), (9, ii ((dg : Nat) : Int))] [] (rI pre post ((fillS s b n g).1) ((fillS s b n g).2.1) ((fillS s b n g).2.2.1) ((fillS s b n g).2.2.2)) (fun r h' => ∃ x, r = some x ∧ rres pre post s (e + 1) (m_told v) place 120 1 x h') := by
                    intro hstp
                    have hge := nmE_ge hrun
                    have hE0 : dg ≤ 18 → nmE (vn v) (vm v) a = (nmS (vn v) a + dg) := fun z18 => (nmE_run hrun).trans (dgEnd_stop (fun z => by rcases hstp with y | y | y; (have z1 := z.1; omega); exact y z.2; omega))
                    refine me1 (pc' := 177) (L' := [(0, .ref 102), (1, ii (hd : Int)), (2, ii place), (3, ii (b : Int)), (4, ii ((n : Nat) : Int)), (5, ii ((nmS (vn v) a + dg : Nat) : Int)), (6, zz c), (7, .long (dgV (vn v) (nmS (vn v) a) dg)), (9, ii ((dg : Nat) : Int))]) (S' := [ii ((dg : Nat) : Int)]) dm_X12_numbersIn_175 rfl rfl rfl rfl ?_
                    refine y_1eq (a := ((dg : Nat) : Int)) (t := 211) (pc' := 180) dm_X12_numbersIn_177 rfl rfl (by omega) (fun hb4 => ?_) (fun hb4 => ?_)
                    · have hE := hE0 (by omega)
                      refine me1 (pc' := 212) (L' := [(0, .ref 102), (1, ii (hd : Int)), (2, ii place), (3, ii (b : Int)), (4, ii ((n : Nat) : Int)), (5, ii ((nmS (vn v) a + dg : Nat) : Int)), (6, zz c), (7, .long (dgV (vn v) (nmS (vn v) a) dg)), (9, ii ((dg : Nat) : Int))]) (S' := [.ref 102]) dm_X12_numbersIn_211 rfl rfl rfl rfl ?_
                      refine me0 (pc' := 213) (S' := [ii 5, .ref 102]) dm_X12_numbersIn_212 rfl rfl rfl rfl ?_
                      refine me1 (pc' := 214) (L' := [(0, .ref 102), (1, ii (hd : Int)), (2, ii place), (3, ii (b : Int)), (4, ii ((n : Nat) : Int)), (5, ii ((nmS (vn v) a + dg : Nat) : Int)), (6, zz c), (7, .long (dgV (vn v) (nmS (vn v) a) dg)), (9, ii ((dg : Nat) : Int))]) (S' := [ii place, ii 5, .ref 102]) dm_X12_numbersIn_213 rfl rfl rfl rfl ?_
                      refine x_cv (pc' := 217) (rest := []) dm_X12_numbersIn_214 rfl (q_inv (As := [ii 5, ii place]) (S := []) hm rfl rfl rfl) rfl rfl rfl (r_fail_ (s := (fillS s b n g)) hm (by omega) he0 hca.1 hca.2) ?_
                      rintro _ _ ⟨rfl, rfl⟩
                      refine y_ret (r := some (ii (-1))) dm_X12_numbersIn_217 rfl rfl rfl ?_
                      rw [m_told_e (by omega) (htl.trans (tldT_no (by omega) hn32 (fun z => by obtain ⟨z1, z2, z3⟩ := z; first | omega | (rcases z1 with z1 | z1; omega; rw [hE] at z1; exact hnb z1))))]
                      exact ⟨_, rfl, rres_failT (rext_fill (rext_rf s) (by omega) g) (rfr_fill s b n g) (show s.1 3 ≤ _ by omega) (show s.1 4 ≤ _ by omega)⟩
                    · refine me1 (pc' := 182) (L' := [(0, .ref 102), (1, ii (hd : Int)), (2, ii place), (3, ii (b : Int)), (4, ii ((n : Nat) : Int)), (5, ii ((nmS (vn v) a + dg : Nat) : Int)), (6, zz c), (7, .long (dgV (vn v) (nmS (vn v) a) dg)), (9, ii ((dg : Nat) : Int))]) (S' := [ii ((dg : Nat) : Int)]) dm_X12_numbersIn_180 rfl rfl rfl rfl ?_
                      refine me0 (pc' := 184) (S' := [ii 18, ii ((dg : Nat) : Int)]) dm_X12_numbersIn_182 rfl rfl rfl rfl ?_
                      refine y_2gt (a := ((dg : Nat) : Int)) (b := 18) (t := 211) (pc' := 187) dm_X12_numbersIn_184 rfl rfl (by omega) (fun hb5 => ?_) (fun hb5 => ?_)
                      · refine me1 (pc' := 212) (L' := [(0, .ref 102), (1, ii (hd : Int)), (2, ii place), (3, ii (b : Int)), (4, ii ((n : Nat) : Int)), (5, ii ((nmS (vn v) a + dg : Nat) : Int)), (6, zz c), (7, .long (dgV (vn v) (nmS (vn v) a) dg)), (9, ii ((dg : Nat) : Int))]) (S' := [.ref 102]) dm_X12_numbersIn_211 rfl rfl rfl rfl ?_
                        refine me0 (pc' := 213) (S' := [ii 5, .ref 102]) dm_X12_numbersIn_212 rfl rfl rfl rfl ?_
                        refine me1 (pc' := 214) (L' := [(0, .ref 102), (1, ii (hd : Int)), (2, ii place), (3, ii (b : Int)), (4, ii ((n : Nat) : Int)), (5, ii ((nmS (vn v) a + dg : Nat) : Int)), (6, zz c), (7, .long (dgV (vn v) (nmS (vn v) a) dg)), (9, ii ((dg : Nat) : Int))]) (S' := [ii place, ii 5, .ref 102]) dm_X12_numbersIn_213 rfl rfl rfl rfl ?_
                        refine x_cv (pc' := 217) (rest := []) dm_X12_numbersIn_214 rfl (q_inv (As := [ii 5, ii place]) (S := []) hm rfl rfl rfl) rfl rfl rfl (r_fail_ (s := (fillS s b n g)) hm (by omega) he0 hca.1 hca.2) ?_
                        rintro _ _ ⟨rfl, rfl⟩
                        refine y_ret (r := some (ii (-1))) dm_X12_numbersIn_217 rfl rfl rfl ?_
                        rw [m_told_e (by omega) (htl.trans (tldT_no (by omega) hn32 (fun z => by obtain ⟨z1, z2, z3⟩ := z; first | omega | (rcases z1 with z1 | z1; omega; rw [hE] at z1; exact hnb z1))))]
                        exact ⟨_, rfl, rres_failT (rext_fill (rext_rf s) (by omega) g) (rfr_fill s b n g) (show s.1 3 ≤ _ by omega) (show s.1 4 ≤ _ by omega)⟩
                      · have hE := hE0 (by omega)
                        refine me1 (pc' := 189) (L' := [(0, .ref 102), (1, ii (hd : Int)), (2, ii place), (3, ii (b : Int)), (4, ii ((n : Nat) : Int)), (5, ii ((nmS (vn v) a + dg : Nat) : Int)), (6, zz c), (7, .long (dgV (vn v) (nmS (vn v) a) dg)), (9, ii ((dg : Nat) : Int))]) (S' := [ii ((nmS (vn v) a + dg : Nat) : Int)]) dm_X12_numbersIn_187 rfl rfl rfl rfl ?_
                        refine me1 (pc' := 190) (L' := [(0, .ref 102), (1, ii (hd : Int)), (2, ii place), (3, ii (b : Int)), (4, ii ((n : Nat) : Int)), (5, ii ((nmS (vn v) a + dg : Nat) : Int)), (6, zz c), (7, .long (dgV (vn v) (nmS (vn v) a) dg)), (9, ii ((dg : Nat) : Int))]) (S' := [.ref 102, ii ((nmS (vn v) a + dg : Nat) : Int)]) dm_X12_numbersIn_189 rfl rfl rfl rfl ?_
                        refine me1 (pc' := 191) (L' := [(0, .ref 102), (1, ii (hd : Int)), (2, ii place), (3, ii (b : Int)), (4, ii ((n : Nat) : Int)), (5, ii ((nmS (vn v) a + dg : Nat) : Int)), (6, zz c), (7, .long (dgV (vn v) (nmS (vn v) a) dg)), (9, ii ((dg : Nat) : Int))]) (S' := [ii (hd : Int), .ref 102, ii ((nmS (vn v) a + dg : Nat) : Int)]) dm_X12_numbersIn_190 rfl rfl rfl rfl ?_
                        refine x_cp (pc' := 194) (v := ii (vm v : Int)) (rest := [ii ((nmS (vn v) a + dg : Nat) : Int)]) dm_X12_numbersIn_191 rfl (q_inv (As := [ii (hd : Int)]) (S := [ii ((nmS (vn v) a + dg : Nat) : Int)]) hm rfl rfl rfl) rfl rfl rfl (r_many_ hm (by omega) hBT hvT) ?_
                        refine y_2ge (a := ((nmS (vn v) a + dg : Nat) : Int)) (b := (vm v : Int)) (t := 218) (pc' := 197) dm_X12_numbersIn_194 rfl rfl (by omega) (fun hb6 => ?_) (fun hb6 => ?_)
                        · refine me1 (pc' := 219) (L' := [(0, .ref 102), (1, ii (hd : Int)), (2, ii place), (3, ii (b : Int)), (4, ii ((n : Nat) : Int)), (5, ii ((nmS (vn v) a + dg : Nat) : Int)), (6, zz c), (7, .long (dgV (vn v) (nmS (vn v) a) dg)), (9, ii ((dg : Nat) : Int))]) (S' := [.ref 102]) dm_X12_numbersIn_218 rfl rfl rfl rfl ?_
                          refine me3 (pc' := 222) (S' := [.ref (102 + 1)]) dm_X12_numbersIn_219 (q_getr hm rfl (fun m i l => rg_0 m i l)) rfl rfl rfl ?_
                          refine me1 (pc' := 223) (L' := [(0, .ref 102), (1, ii (hd : Int)), (2, ii place), (3, ii (b : Int)), (4, ii ((n : Nat) : Int)), (5, ii ((nmS (vn v) a + dg : Nat) : Int)), (6, zz c), (7, .long (dgV (vn v) (nmS (vn v) a) dg)), (9, ii ((dg : Nat) : Int))]) (S' := [ii (b : Int), .ref (102 + 1)]) dm_X12_numbersIn_222 rfl rfl rfl rfl ?_
                          refine me1 (pc' := 225) (L' := [(0, .ref 102), (1, ii (hd : Int)), (2, ii place), (3, ii (b : Int)), (4, ii ((n : Nat) : Int)), (5, ii ((nmS (vn v) a + dg : Nat) : Int)), (6, zz c), (7, .long (dgV (vn v) (nmS (vn v) a) dg)), (9, ii ((dg : Nat) : Int))]) (S' := [ii ((n : Nat) : Int), ii (b : Int), .ref (102 + 1)]) dm_X12_numbersIn_223 rfl rfl rfl rfl ?_
                          refine y_iadd (a := (b : Int)) (b := ((n : Nat) : Int)) dm_X12_numbersIn_225 (pc' := 226) rfl ?_
                          refine me1 (pc' := 228) (L' := [(0, .ref 102), (1, ii (hd : Int)), (2, ii place), (3, ii (b : Int)), (4, ii ((n : Nat) : Int)), (5, ii ((nmS (vn v) a + dg : Nat) : Int)), (6, zz c), (7, .long (dgV (vn v) (nmS (vn v) a) dg)), (9, ii ((dg : Nat) : Int))]) (S' := [zz c, ii ((b : Int) + ((n : Nat) : Int)), .ref (102 + 1)]) dm_X12_numbersIn_226 rfl rfl rfl rfl ?_
                          refine y_zeq (c := c) (t := 237) (pc' := 231) dm_X12_numbersIn_228 rfl rfl (fun hb7 => ?_) (fun hb7 => ?_)
                          · have hcv := hb7
                            refine me1 (pc' := 239) (L' := [(0, .ref 102), (1, ii (hd : Int)), (2, ii place), (3, ii (b : Int)), (4, ii ((n : Nat) : Int)), (5, ii ((nmS (vn v) a + dg : Nat) : Int)), (6, zz c), (7, .long (dgV (vn v) (nmS (vn v) a) dg)), (9, ii ((dg : Nat) : Int))]) (S' := [.long (dgV (vn v) (nmS (vn v) a) dg), ii ((b : Int) + ((n : Nat) : Int)), .ref (102 + 1)]) dm_X12_numbersIn_237 rfl rfl rfl rfl ?_
                            have hnp : nmP (vn v) (vm v) a := ⟨by rw [hE]; first | exact Or.inr hbl | exact Or.inl (by omega), by omega, by omega⟩
                            refine pg_st (S' := [.long (nmV (vn v) a (nmS (vn v) a + dg)), ii ((b : Int) + ((n : Nat) : Int)), .ref (102 + 1)]) (congrArg (fun z => Value.long z :: [ii ((b : Int) + ((n : Nat) : Int)), .ref (102 + 1)]) (by unfold nmV; rw [if_neg (of_decide_eq_false (hcb.symm.trans hcv)), show (nmS (vn v) a + dg) - nmS (vn v) a = dg by omega])) ?_
                            refine me3 (pc' := 240) (S' := []) (h1 := rI pre post ((fillS s b n g).1) ((fillS s b n g).2.1) ((fillS s b n g).2.2.1) (va_up ((fillS s b n g).2.2.2) 0 (va_up (((fillS s b n g).2.2.2) 0) (b + n) (nmV (vn v) a (nmS (vn v) a + dg))))) dm_X12_numbersIn_239 (q_last (j := (b : Int) + ((n : Nat) : Int)) (k := 0) (n := 820000) hm (fun m i l I J => rc_0 m i l I J) (fun m i l I J f => rs_0 m i l I J f) (by omega) (by omega) (by decide)) rfl rfl rfl ?_
                            refine y_iinc (pc' := 243) (L' := [(4, ii (((n : Nat) : Int) + 1)), (0, .ref 102), (1, ii (hd : Int)), (2, ii place), (3, ii (b : Int)), (5, ii ((nmS (vn v) a + dg : Nat) : Int)), (6, zz c), (7, .long (dgV (vn v) (nmS (vn v) a) dg)), (9, ii ((dg : Nat) : Int))]) dm_X12_numbersIn_240 (y_incp (a := ((n : Nat) : Int)) (c := 1) rfl rfl (by decide)) rfl ?_
                            refine me2 (pc' := 36) (S' := []) dm_X12_numbersIn_243 rfl rfl rfl ?_
                            refine pg_cast (h2 := rI pre post ((fillS s b (n + 1) (va_up g n (nmV (vn v) a (nmS (vn v) a + dg)))).1) ((fillS s b (n + 1) (va_up g n (nmV (vn v) a (nmS (vn v) a + dg)))).2.1) ((fillS s b (n + 1) (va_up g n (nmV (vn v) a (nmS (vn v) a + dg)))).2.2.1) ((fillS s b (n + 1) (va_up g n (nmV (vn v) a (nmS (vn v) a + dg)))).2.2.2)) (fill_u s b n g _) ?_
                            exact pg_sub (L := [(0, .ref 102), (1, ii (hd : Int)), (2, ii place), (3, ii (b : Int)), (4, ii (((n + 1) : Nat) : Int)), (5, ii (((nmS (vn v) a + dg) : Nat) : Int))]) rfl rfl rfl (ih36 (vm v - (nmS (vn v) a + dg)) (by omega) (nmS (vn v) a + dg) (n + 1) (va_up g n (nmV (vn v) a (nmS (vn v) a + dg))) rfl (by omega) (by omega) (by rw [htl, tldT_nm (by omega) hn32 hnp, hE]))
                          · have hcv := hb7
                            refine me1 (pc' := 233) (L' := [(0, .ref 102), (1, ii (hd : Int)), (2, ii place), (3, ii (b : Int)), (4, ii ((n : Nat) : Int)), (5, ii ((nmS (vn v) a + dg : Nat) : Int)), (6, zz c), (7, .long (dgV (vn v) (nmS (vn v) a) dg)), (9, ii ((dg : Nat) : Int))]) (S' := [.long (dgV (vn v) (nmS (vn v) a) dg), ii ((b : Int) + ((n : Nat) : Int)), .ref (102 + 1)]) dm_X12_numbersIn_231 rfl rfl rfl rfl ?_
                            refine me0 (pc' := 234) (S' := [.long (-(dgV (vn v) (nmS (vn v) a) dg)), ii ((b : Int) + ((n : Nat) : Int)), .ref (102 + 1)]) dm_X12_numbersIn_233 rfl rfl rfl rfl ?_
                            refine me2 (pc' := 239) (S' := [.long (-(dgV (vn v) (nmS (vn v) a) dg)), ii ((b : Int) + ((n : Nat) : Int)), .ref (102 + 1)]) dm_X12_numbersIn_234 rfl rfl rfl ?_
                            have hnp : nmP (vn v) (vm v) a := ⟨by rw [hE]; first | exact Or.inr hbl | exact Or.inl (by omega), by omega, by omega⟩
                            refine pg_st (S' := [.long (nmV (vn v) a (nmS (vn v) a + dg)), ii ((b : Int) + ((n : Nat) : Int)), .ref (102 + 1)]) (congrArg (fun z => Value.long z :: [ii ((b : Int) + ((n : Nat) : Int)), .ref (102 + 1)]) (by unfold nmV; rw [if_pos (of_decide_eq_true (hcb.symm.trans hcv)), show (nmS (vn v) a + dg) - nmS (vn v) a = dg by omega])) ?_
                            refine me3 (pc' := 240) (S' := []) (h1 := rI pre post ((fillS s b n g).1) ((fillS s b n g).2.1) ((fillS s b n g).2.2.1) (va_up ((fillS s b n g).2.2.2) 0 (va_up (((fillS s b n g).2.2.2) 0) (b + n) (nmV (vn v) a (nmS (vn v) a + dg))))) dm_X12_numbersIn_239 (q_last (j := (b : Int) + ((n : Nat) : Int)) (k := 0) (n := 820000) hm (fun m i l I J => rc_0 m i l I J) (fun m i l I J f => rs_0 m i l I J f) (by omega) (by omega) (by decide)) rfl rfl rfl ?_
                            refine y_iinc (pc' := 243) (L' := [(4, ii (((n : Nat) : Int) + 1)), (0, .ref 102), (1, ii (hd : Int)), (2, ii place), (3, ii (b : Int)), (5, ii ((nmS (vn v) a + dg : Nat) : Int)), (6, zz c), (7, .long (dgV (vn v) (nmS (vn v) a) dg)), (9, ii ((dg : Nat) : Int))]) dm_X12_numbersIn_240 (y_incp (a := ((n : Nat) : Int)) (c := 1) rfl rfl (by decide)) rfl ?_
                            refine me2 (pc' := 36) (S' := []) dm_X12_numbersIn_243 rfl rfl rfl ?_
                            refine pg_cast (h2 := rI pre post ((fillS s b (n + 1) (va_up g n (nmV (vn v) a (nmS (vn v) a + dg)))).1) ((fillS s b (n + 1) (va_up g n (nmV (vn v) a (nmS (vn v) a + dg)))).2.1) ((fillS s b (n + 1) (va_up g n (nmV (vn v) a (nmS (vn v) a + dg)))).2.2.1) ((fillS s b (n + 1) (va_up g n (nmV (vn v) a (nmS (vn v) a + dg)))).2.2.2)) (fill_u s b n g _) ?_
                            exact pg_sub (L := [(0, .ref 102), (1, ii (hd : Int)), (2, ii place), (3, ii (b : Int)), (4, ii (((n + 1) : Nat) : Int)), (5, ii (((nmS (vn v) a + dg) : Nat) : Int))]) rfl rfl rfl (ih36 (vm v - (nmS (vn v) a + dg)) (by omega) (nmS (vn v) a + dg) (n + 1) (va_up g n (nmV (vn v) a (nmS (vn v) a + dg))) rfl (by omega) (by omega) (by rw [htl, tldT_nm (by omega) hn32 hnp, hE]))
                        · refine me1 (pc' := 198) (L' := [(0, .ref 102), (1, ii (hd : Int)), (2, ii place), (3, ii (b : Int)), (4, ii ((n : Nat) : Int)), (5, ii ((nmS (vn v) a + dg : Nat) : Int)), (6, zz c), (7, .long (dgV (vn v) (nmS (vn v) a) dg)), (9, ii ((dg : Nat) : Int))]) (S' := [.ref 102]) dm_X12_numbersIn_197 rfl rfl rfl rfl ?_
                          refine me1 (pc' := 199) (L' := [(0, .ref 102), (1, ii (hd : Int)), (2, ii place), (3, ii (b : Int)), (4, ii ((n : Nat) : Int)), (5, ii ((nmS (vn v) a + dg : Nat) : Int)), (6, zz c), (7, .long (dgV (vn v) (nmS (vn v) a) dg)), (9, ii ((dg : Nat) : Int))]) (S' := [ii (hd : Int), .ref 102]) dm_X12_numbersIn_198 rfl rfl rfl rfl ?_
                          refine me1 (pc' := 201) (L' := [(0, .ref 102), (1, ii (hd : Int)), (2, ii place), (3, ii (b : Int)), (4, ii ((n : Nat) : Int)), (5, ii ((nmS (vn v) a + dg : Nat) : Int)), (6, zz c), (7, .long (dgV (vn v) (nmS (vn v) a) dg)), (9, ii ((dg : Nat) : Int))]) (S' := [ii ((nmS (vn v) a + dg : Nat) : Int), ii (hd : Int), .ref 102]) dm_X12_numbersIn_199 rfl rfl rfl rfl ?_
                          refine x_cp (pc' := 204) (v := .long (vn v (nmS (vn v) a + dg))) (rest := []) dm_X12_numbersIn_201 rfl (q_inv (As := [ii (hd : Int), ii ((nmS (vn v) a + dg : Nat) : Int)]) (S := []) hm rfl rfl rfl) rfl rfl rfl (r_number_ (k := (nmS (vn v) a + dg)) hm (by omega) hBT hvT (by omega) (by omega)) ?_
                          refine me3 (pc' := 207) (S' := [.long (Int64.ofInt 32), .long (vn v (nmS (vn v) a + dg))]) dm_X12_numbersIn_204 rfl rfl rfl rfl ?_
                          refine y_leq (x := vn v (nmS (vn v) a + dg)) (y := Int64.ofInt 32) (t := 218) (pc1 := 208) (pc' := 211) dm_X12_numbersIn_207 rfl dm_X12_numbersIn_208 rfl rfl (fun hb8 => ?_) (fun hb8 => ?_)
                          · have hb8i := congrArg Int64.toInt hb8
                            have hbl := hb8
                            refine me1 (pc' := 219) (L' := [(0, .ref 102), (1, ii (hd : Int)), (2, ii place), (3, ii (b : Int)), (4, ii ((n : Nat) : Int)), (5, ii ((nmS (vn v) a + dg : Nat) : Int)), (6, zz c), (7, .long (dgV (vn v) (nmS (vn v) a) dg)), (9, ii ((dg : Nat) : Int))]) (S' := [.ref 102]) dm_X12_numbersIn_218 rfl rfl rfl rfl ?_
                            refine me3 (pc' := 222) (S' := [.ref (102 + 1)]) dm_X12_numbersIn_219 (q_getr hm rfl (fun m i l => rg_0 m i l)) rfl rfl rfl ?_
                            refine me1 (pc' := 223) (L' := [(0, .ref 102), (1, ii (hd : Int)), (2, ii place), (3, ii (b : Int)), (4, ii ((n : Nat) : Int)), (5, ii ((nmS (vn v) a + dg : Nat) : Int)), (6, zz c), (7, .long (dgV (vn v) (nmS (vn v) a) dg)), (9, ii ((dg : Nat) : Int))]) (S' := [ii (b : Int), .ref (102 + 1)]) dm_X12_numbersIn_222 rfl rfl rfl rfl ?_
                            refine me1 (pc' := 225) (L' := [(0, .ref 102), (1, ii (hd : Int)), (2, ii place), (3, ii (b : Int)), (4, ii ((n : Nat) : Int)), (5, ii ((nmS (vn v) a + dg : Nat) : Int)), (6, zz c), (7, .long (dgV (vn v) (nmS (vn v) a) dg)), (9, ii ((dg : Nat) : Int))]) (S' := [ii ((n : Nat) : Int), ii (b : Int), .ref (102 + 1)]) dm_X12_numbersIn_223 rfl rfl rfl rfl ?_
                            refine y_iadd (a := (b : Int)) (b := ((n : Nat) : Int)) dm_X12_numbersIn_225 (pc' := 226) rfl ?_
                            refine me1 (pc' := 228) (L' := [(0, .ref 102), (1, ii (hd : Int)), (2, ii place), (3, ii (b : Int)), (4, ii ((n : Nat) : Int)), (5, ii ((nmS (vn v) a + dg : Nat) : Int)), (6, zz c), (7, .long (dgV (vn v) (nmS (vn v) a) dg)), (9, ii ((dg : Nat) : Int))]) (S' := [zz c, ii ((b : Int) + ((n : Nat) : Int)), .ref (102 + 1)]) dm_X12_numbersIn_226 rfl rfl rfl rfl ?_
                            refine y_zeq (c := c) (t := 237) (pc' := 231) dm_X12_numbersIn_228 rfl rfl (fun hb9 => ?_) (fun hb9 => ?_)
                            · have hcv := hb9
                              refine me1 (pc' := 239) (L' := [(0, .ref 102), (1, ii (hd : Int)), (2, ii place), (3, ii (b : Int)), (4, ii ((n : Nat) : Int)), (5, ii ((nmS (vn v) a + dg : Nat) : Int)), (6, zz c), (7, .long (dgV (vn v) (nmS (vn v) a) dg)), (9, ii ((dg : Nat) : Int))]) (S' := [.long (dgV (vn v) (nmS (vn v) a) dg), ii ((b : Int) + ((n : Nat) : Int)), .ref (102 + 1)]) dm_X12_numbersIn_237 rfl rfl rfl rfl ?_
                              have hnp : nmP (vn v) (vm v) a := ⟨by rw [hE]; first | exact Or.inr hbl | exact Or.inl (by omega), by omega, by omega⟩
                              refine pg_st (S' := [.long (nmV (vn v) a (nmS (vn v) a + dg)), ii ((b : Int) + ((n : Nat) : Int)), .ref (102 + 1)]) (congrArg (fun z => Value.long z :: [ii ((b : Int) + ((n : Nat) : Int)), .ref (102 + 1)]) (by unfold nmV; rw [if_neg (of_decide_eq_false (hcb.symm.trans hcv)), show (nmS (vn v) a + dg) - nmS (vn v) a = dg by omega])) ?_
                              refine me3 (pc' := 240) (S' := []) (h1 := rI pre post ((fillS s b n g).1) ((fillS s b n g).2.1) ((fillS s b n g).2.2.1) (va_up ((fillS s b n g).2.2.2) 0 (va_up (((fillS s b n g).2.2.2) 0) (b + n) (nmV (vn v) a (nmS (vn v) a + dg))))) dm_X12_numbersIn_239 (q_last (j := (b : Int) + ((n : Nat) : Int)) (k := 0) (n := 820000) hm (fun m i l I J => rc_0 m i l I J) (fun m i l I J f => rs_0 m i l I J f) (by omega) (by omega) (by decide)) rfl rfl rfl ?_
                              refine y_iinc (pc' := 243) (L' := [(4, ii (((n : Nat) : Int) + 1)), (0, .ref 102), (1, ii (hd : Int)), (2, ii place), (3, ii (b : Int)), (5, ii ((nmS (vn v) a + dg : Nat) : Int)), (6, zz c), (7, .long (dgV (vn v) (nmS (vn v) a) dg)), (9, ii ((dg : Nat) : Int))]) dm_X12_numbersIn_240 (y_incp (a := ((n : Nat) : Int)) (c := 1) rfl rfl (by decide)) rfl ?_
                              refine me2 (pc' := 36) (S' := []) dm_X12_numbersIn_243 rfl rfl rfl ?_
                              refine pg_cast (h2 := rI pre post ((fillS s b (n + 1) (va_up g n (nmV (vn v) a (nmS (vn v) a + dg)))).1) ((fillS s b (n + 1) (va_up g n (nmV (vn v) a (nmS (vn v) a + dg)))).2.1) ((fillS s b (n + 1) (va_up g n (nmV (vn v) a (nmS (vn v) a + dg)))).2.2.1) ((fillS s b (n + 1) (va_up g n (nmV (vn v) a (nmS (vn v) a + dg)))).2.2.2)) (fill_u s b n g _) ?_
                              exact pg_sub (L := [(0, .ref 102), (1, ii (hd : Int)), (2, ii place), (3, ii (b : Int)), (4, ii (((n + 1) : Nat) : Int)), (5, ii (((nmS (vn v) a + dg) : Nat) : Int))]) rfl rfl rfl (ih36 (vm v - (nmS (vn v) a + dg)) (by omega) (nmS (vn v) a + dg) (n + 1) (va_up g n (nmV (vn v) a (nmS (vn v) a + dg))) rfl (by omega) (by omega) (by rw [htl, tldT_nm (by omega) hn32 hnp, hE]))
                            · have hcv := hb9
                              refine me1 (pc' := 233) (L' := [(0, .ref 102), (1, ii (hd : Int)), (2, ii place), (3, ii (b : Int)), (4, ii ((n : Nat) : Int)), (5, ii ((nmS (vn v) a + dg : Nat) : Int)), (6, zz c), (7, .long (dgV (vn v) (nmS (vn v) a) dg)), (9, ii ((dg : Nat) : Int))]) (S' := [.long (dgV (vn v) (nmS (vn v) a) dg), ii ((b : Int) + ((n : Nat) : Int)), .ref (102 + 1)]) dm_X12_numbersIn_231 rfl rfl rfl rfl ?_
                              refine me0 (pc' := 234) (S' := [.long (-(dgV (vn v) (nmS (vn v) a) dg)), ii ((b : Int) + ((n : Nat) : Int)), .ref (102 + 1)]) dm_X12_numbersIn_233 rfl rfl rfl rfl ?_
                              refine me2 (pc' := 239) (S' := [.long (-(dgV (vn v) (nmS (vn v) a) dg)), ii ((b : Int) + ((n : Nat) : Int)), .ref (102 + 1)]) dm_X12_numbersIn_234 rfl rfl rfl ?_
                              have hnp : nmP (vn v) (vm v) a := ⟨by rw [hE]; first | exact Or.inr hbl | exact Or.inl (by omega), by omega, by omega⟩
                              refine pg_st (S' := [.long (nmV (vn v) a (nmS (vn v) a + dg)), ii ((b : Int) + ((n : Nat) : Int)), .ref (102 + 1)]) (congrArg (fun z => Value.long z :: [ii ((b : Int) + ((n : Nat) : Int)), .ref (102 + 1)]) (by unfold nmV; rw [if_pos (of_decide_eq_true (hcb.symm.trans hcv)), show (nmS (vn v) a + dg) - nmS (vn v) a = dg by omega])) ?_
                              refine me3 (pc' := 240) (S' := []) (h1 := rI pre post ((fillS s b n g).1) ((fillS s b n g).2.1) ((fillS s b n g).2.2.1) (va_up ((fillS s b n g).2.2.2) 0 (va_up (((fillS s b n g).2.2.2) 0) (b + n) (nmV (vn v) a (nmS (vn v) a + dg))))) dm_X12_numbersIn_239 (q_last (j := (b : Int) + ((n : Nat) : Int)) (k := 0) (n := 820000) hm (fun m i l I J => rc_0 m i l I J) (fun m i l I J f => rs_0 m i l I J f) (by omega) (by omega) (by decide)) rfl rfl rfl ?_
                              refine y_iinc (pc' := 243) (L' := [(4, ii (((n : Nat) : Int) + 1)), (0, .ref 102), (1, ii (hd : Int)), (2, ii place), (3, ii (b : Int)), (5, ii ((nmS (vn v) a + dg : Nat) : Int)), (6, zz c), (7, .long (dgV (vn v) (nmS (vn v) a) dg)), (9, ii ((dg : Nat) : Int))]) dm_X12_numbersIn_240 (y_incp (a := ((n : Nat) : Int)) (c := 1) rfl rfl (by decide)) rfl ?_
                              refine me2 (pc' := 36) (S' := []) dm_X12_numbersIn_243 rfl rfl rfl ?_
                              refine pg_cast (h2 := rI pre post ((fillS s b (n + 1) (va_up g n (nmV (vn v) a (nmS (vn v) a + dg)))).1) ((fillS s b (n + 1) (va_up g n (nmV (vn v) a (nmS (vn v) a + dg)))).2.1) ((fillS s b (n + 1) (va_up g n (nmV (vn v) a (nmS (vn v) a + dg)))).2.2.1) ((fillS s b (n + 1) (va_up g n (nmV (vn v) a (nmS (vn v) a + dg)))).2.2.2)) (fill_u s b n g _) ?_
                              exact pg_sub (L := [(0, .ref 102), (1, ii (hd : Int)), (2, ii place), (3, ii (b : Int)), (4, ii (((n + 1) : Nat) : Int)), (5, ii (((nmS (vn v) a + dg) : Nat) : Int))]) rfl rfl rfl (ih36 (vm v - (nmS (vn v) a + dg)) (by omega) (nmS (vn v) a + dg) (n + 1) (va_up g n (nmV (vn v) a (nmS (vn v) a + dg))) rfl (by omega) (by omega) (by rw [htl, tldT_nm (by omega) hn32 hnp, hE]))
                          · have hb8i : ¬ (vn v (nmS (vn v) a + dg)).toInt = (Int64.ofInt 32).toInt := fun z => hb8 (Int64.toInt_inj.mp z)
                            have hnb := hb8
                            refine me1 (pc' := 212) (L' := [(0, .ref 102), (1, ii (hd : Int)), (2, ii place), (3, ii (b : Int)), (4, ii ((n : Nat) : Int)), (5, ii ((nmS (vn v) a + dg : Nat) : Int)), (6, zz c), (7, .long (dgV (vn v) (nmS (vn v) a) dg)), (9, ii ((dg : Nat) : Int))]) (S' := [.ref 102]) dm_X12_numbersIn_211 rfl rfl rfl rfl ?_
                            refine me0 (pc' := 213) (S' := [ii 5, .ref 102]) dm_X12_numbersIn_212 rfl rfl rfl rfl ?_
                            refine me1 (pc' := 214) (L' := [(0, .ref 102), (1, ii (hd : Int)), (2, ii place), (3, ii (b : Int)), (4, ii ((n : Nat) : Int)), (5, ii ((nmS (vn v) a + dg : Nat) : Int)), (6, zz c), (7, .long (dgV (vn v) (nmS (vn v) a) dg)), (9, ii ((dg : Nat) : Int))]) (S' := [ii place, ii 5, .ref 102]) dm_X12_numbersIn_213 rfl rfl rfl rfl ?_
                            refine x_cv (pc' := 217) (rest := []) dm_X12_numbersIn_214 rfl (q_inv (As := [ii 5, ii place]) (S := []) hm rfl rfl rfl) rfl rfl rfl (r_fail_ (s := (fillS s b n g)) hm (by omega) he0 hca.1 hca.2) ?_
                            rintro _ _ ⟨rfl, rfl⟩
                            refine y_ret (r := some (ii (-1))) dm_X12_numbersIn_217 rfl rfl rfl ?_
                            rw [m_told_e (by omega) (htl.trans (tldT_no (by omega) hn32 (fun z => by obtain ⟨z1, z2, z3⟩ := z; first | omega | (rcases z1 with z1 | z1; omega; rw [hE] at z1; exact hnb z1))))]
                            exact ⟨_, rfl, rres_failT (rext_fill (rext_rf s) (by omega) g) (rfr_fill s b n g) (show s.1 3 ≤ _ by omega) (show s.1 4 ≤ _ by omega)⟩
                  refine me1 (pc' := 104) (L' := [(0, .ref 102), (1, ii (hd : Int)), (2, ii place), (3, ii (b : Int)), (4, ii ((n : Nat) : Int)), (5, ii ((nmS (vn v) a + dg : Nat) : Int)), (6, zz c), (7, .long (dgV (vn v) (nmS (vn v) a) dg)), (9, ii ((dg : Nat) : Int))]) (S' := [.ref 102, ii ((nmS (vn v) a + dg : Nat) : Int)]) dm_X12_numbersIn_103 rfl rfl rfl rfl ?_
                  refine me1 (pc' := 105) (L' := [(0, .ref 102), (1, ii (hd : Int)), (2, ii place), (3, ii (b : Int)), (4, ii ((n : Nat) : Int)), (5, ii ((nmS (vn v) a + dg : Nat) : Int)), (6, zz c), (7, .long (dgV (vn v) (nmS (vn v) a) dg)), (9, ii ((dg : Nat) : Int))]) (S' := [ii (hd : Int), .ref 102, ii ((nmS (vn v) a + dg : Nat) : Int)]) dm_X12_numbersIn_104 rfl rfl rfl rfl ?_
                  refine x_cp (pc' := 108) (v := ii (vm v : Int)) (rest := [ii ((nmS (vn v) a + dg : Nat) : Int)]) dm_X12_numbersIn_105 rfl (q_inv (As := [ii (hd : Int)]) (S := [ii ((nmS (vn v) a + dg : Nat) : Int)]) hm rfl rfl rfl) rfl rfl rfl (r_many_ hm (by omega) hBT hvT) ?_
                  refine y_2ge (a := ((nmS (vn v) a + dg : Nat) : Int)) (b := (vm v : Int)) (t := 175) (pc' := 111) dm_X12_numbersIn_108 rfl rfl (by omega) (fun hb10 => ?_) (fun hb10 => ?_)
                  · exact pg_sub (L := [(0, .ref 102), (1, ii (hd : Int)), (2, ii place), (3, ii (b : Int)), (4, ii ((n : Nat) : Int)), (5, ii ((nmS (vn v) a + dg : Nat) : Int)), (6, zz c), (7, .long (dgV (vn v) (nmS (vn v) a) dg)), (9, ii ((dg : Nat) : Int))]) rfl rfl rfl (jn175 (Or.inl (by omega)))
                  · refine me1 (pc' := 112) (L' := [(0, .ref 102), (1, ii (hd : Int)), (2, ii place), (3, ii (b : Int)), (4, ii ((n : Nat) : Int)), (5, ii ((nmS (vn v) a + dg : Nat) : Int)), (6, zz c), (7, .long (dgV (vn v) (nmS (vn v) a) dg)), (9, ii ((dg : Nat) : Int))]) (S' := [.ref 102]) dm_X12_numbersIn_111 rfl rfl rfl rfl ?_
                    refine me1 (pc' := 113) (L' := [(0, .ref 102), (1, ii (hd : Int)), (2, ii place), (3, ii (b : Int)), (4, ii ((n : Nat) : Int)), (5, ii ((nmS (vn v) a + dg : Nat) : Int)), (6, zz c), (7, .long (dgV (vn v) (nmS (vn v) a) dg)), (9, ii ((dg : Nat) : Int))]) (S' := [ii (hd : Int), .ref 102]) dm_X12_numbersIn_112 rfl rfl rfl rfl ?_
                    refine me1 (pc' := 115) (L' := [(0, .ref 102), (1, ii (hd : Int)), (2, ii place), (3, ii (b : Int)), (4, ii ((n : Nat) : Int)), (5, ii ((nmS (vn v) a + dg : Nat) : Int)), (6, zz c), (7, .long (dgV (vn v) (nmS (vn v) a) dg)), (9, ii ((dg : Nat) : Int))]) (S' := [ii ((nmS (vn v) a + dg : Nat) : Int), ii (hd : Int), .ref 102]) dm_X12_numbersIn_113 rfl rfl rfl rfl ?_
                    refine x_cp (pc' := 118) (v := .long (vn v (nmS (vn v) a + dg))) (rest := []) dm_X12_numbersIn_115 rfl (q_inv (As := [ii (hd : Int), ii ((nmS (vn v) a + dg : Nat) : Int)]) (S := []) hm rfl rfl rfl) rfl rfl rfl (r_number_ (k := (nmS (vn v) a + dg)) hm (by omega) hBT hvT (by omega) (by omega)) ?_
                    refine me3 (pc' := 121) (S' := [.long (Int64.ofInt 48), .long (vn v (nmS (vn v) a + dg))]) dm_X12_numbersIn_118 rfl rfl rfl rfl ?_
                    refine y_llt (x := vn v (nmS (vn v) a + dg)) (y := Int64.ofInt 48) (t := 175) (pc1 := 122) (pc' := 125) dm_X12_numbersIn_121 rfl dm_X12_numbersIn_122 rfl rfl (fun hb11 => ?_) (fun hb11 => ?_)
                    · rw [h48] at hb11
                      exact pg_sub (L := [(0, .ref 102), (1, ii (hd : Int)), (2, ii place), (3, ii (b : Int)), (4, ii ((n : Nat) : Int)), (5, ii ((nmS (vn v) a + dg : Nat) : Int)), (6, zz c), (7, .long (dgV (vn v) (nmS (vn v) a) dg)), (9, ii ((dg : Nat) : Int))]) rfl rfl rfl (jn175 (Or.inr (Or.inl (fun z => by have z1 := z.1; have z2 := z.2; omega))))
                    · rw [h48] at hb11
                      refine me1 (pc' := 126) (L' := [(0, .ref 102), (1, ii (hd : Int)), (2, ii place), (3, ii (b : Int)), (4, ii ((n : Nat) : Int)), (5, ii ((nmS (vn v) a + dg : Nat) : Int)), (6, zz c), (7, .long (dgV (vn v) (nmS (vn v) a) dg)), (9, ii ((dg : Nat) : Int))]) (S' := [.ref 102]) dm_X12_numbersIn_125 rfl rfl rfl rfl ?_
                      refine me1 (pc' := 127) (L' := [(0, .ref 102), (1, ii (hd : Int)), (2, ii place), (3, ii (b : Int)), (4, ii ((n : Nat) : Int)), (5, ii ((nmS (vn v) a + dg : Nat) : Int)), (6, zz c), (7, .long (dgV (vn v) (nmS (vn v) a) dg)), (9, ii ((dg : Nat) : Int))]) (S' := [ii (hd : Int), .ref 102]) dm_X12_numbersIn_126 rfl rfl rfl rfl ?_
                      refine me1 (pc' := 129) (L' := [(0, .ref 102), (1, ii (hd : Int)), (2, ii place), (3, ii (b : Int)), (4, ii ((n : Nat) : Int)), (5, ii ((nmS (vn v) a + dg : Nat) : Int)), (6, zz c), (7, .long (dgV (vn v) (nmS (vn v) a) dg)), (9, ii ((dg : Nat) : Int))]) (S' := [ii ((nmS (vn v) a + dg : Nat) : Int), ii (hd : Int), .ref 102]) dm_X12_numbersIn_127 rfl rfl rfl rfl ?_
                      refine x_cp (pc' := 132) (v := .long (vn v (nmS (vn v) a + dg))) (rest := []) dm_X12_numbersIn_129 rfl (q_inv (As := [ii (hd : Int), ii ((nmS (vn v) a + dg : Nat) : Int)]) (S := []) hm rfl rfl rfl) rfl rfl rfl (r_number_ (k := (nmS (vn v) a + dg)) hm (by omega) hBT hvT (by omega) (by omega)) ?_
                      refine me3 (pc' := 135) (S' := [.long (Int64.ofInt 57), .long (vn v (nmS (vn v) a + dg))]) dm_X12_numbersIn_132 rfl rfl rfl rfl ?_
                      refine y_lgt (x := vn v (nmS (vn v) a + dg)) (y := Int64.ofInt 57) (t := 175) (pc1 := 136) (pc' := 139) dm_X12_numbersIn_135 rfl dm_X12_numbersIn_136 rfl rfl (fun hb12 => ?_) (fun hb12 => ?_)
                      · rw [h57] at hb12
                        exact pg_sub (L := [(0, .ref 102), (1, ii (hd : Int)), (2, ii place), (3, ii (b : Int)), (4, ii ((n : Nat) : Int)), (5, ii ((nmS (vn v) a + dg : Nat) : Int)), (6, zz c), (7, .long (dgV (vn v) (nmS (vn v) a) dg)), (9, ii ((dg : Nat) : Int))]) rfl rfl rfl (jn175 (Or.inr (Or.inl (fun z => by have z1 := z.1; have z2 := z.2; omega))))
                      · rw [h57] at hb12
                        refine me1 (pc' := 141) (L' := [(0, .ref 102), (1, ii (hd : Int)), (2, ii place), (3, ii (b : Int)), (4, ii ((n : Nat) : Int)), (5, ii ((nmS (vn v) a + dg : Nat) : Int)), (6, zz c), (7, .long (dgV (vn v) (nmS (vn v) a) dg)), (9, ii ((dg : Nat) : Int))]) (S' := [ii ((dg : Nat) : Int)]) dm_X12_numbersIn_139 rfl rfl rfl rfl ?_
                        refine me0 (pc' := 143) (S' := [ii 19, ii ((dg : Nat) : Int)]) dm_X12_numbersIn_141 rfl rfl rfl rfl ?_
                        refine y_2ge (a := ((dg : Nat) : Int)) (b := 19) (t := 175) (pc' := 146) dm_X12_numbersIn_143 rfl rfl (by omega) (fun hb13 => ?_) (fun hb13 => ?_)
                        · exact pg_sub (L := [(0, .ref 102), (1, ii (hd : Int)), (2, ii place), (3, ii (b : Int)), (4, ii ((n : Nat) : Int)), (5, ii ((nmS (vn v) a + dg : Nat) : Int)), (6, zz c), (7, .long (dgV (vn v) (nmS (vn v) a) dg)), (9, ii ((dg : Nat) : Int))]) rfl rfl rfl (jn175 (Or.inr (Or.inr (by omega))))
                        · refine me3 (pc' := 149) (S' := [.long (Int64.ofInt 10)]) dm_X12_numbersIn_146 rfl rfl rfl rfl ?_
                          refine me1 (pc' := 151) (L' := [(0, .ref 102), (1, ii (hd : Int)), (2, ii place), (3, ii (b : Int)), (4, ii ((n : Nat) : Int)), (5, ii ((nmS (vn v) a + dg : Nat) : Int)), (6, zz c), (7, .long (dgV (vn v) (nmS (vn v) a) dg)), (9, ii ((dg : Nat) : Int))]) (S' := [.long (dgV (vn v) (nmS (vn v) a) dg), .long (Int64.ofInt 10)]) dm_X12_numbersIn_149 rfl rfl rfl rfl ?_
                          refine me0 (pc' := 152) (S' := [.long ((Int64.ofInt 10) * (dgV (vn v) (nmS (vn v) a) dg))]) dm_X12_numbersIn_151 rfl rfl rfl rfl ?_
                          refine me1 (pc' := 153) (L' := [(0, .ref 102), (1, ii (hd : Int)), (2, ii place), (3, ii (b : Int)), (4, ii ((n : Nat) : Int)), (5, ii ((nmS (vn v) a + dg : Nat) : Int)), (6, zz c), (7, .long (dgV (vn v) (nmS (vn v) a) dg)), (9, ii ((dg : Nat) : Int))]) (S' := [.ref 102, .long ((Int64.ofInt 10) * (dgV (vn v) (nmS (vn v) a) dg))]) dm_X12_numbersIn_152 rfl rfl rfl rfl ?_
                          refine me1 (pc' := 154) (L' := [(0, .ref 102), (1, ii (hd : Int)), (2, ii place), (3, ii (b : Int)), (4, ii ((n : Nat) : Int)), (5, ii ((nmS (vn v) a + dg : Nat) : Int)), (6, zz c), (7, .long (dgV (vn v) (nmS (vn v) a) dg)), (9, ii ((dg : Nat) : Int))]) (S' := [ii (hd : Int), .ref 102, .long ((Int64.ofInt 10) * (dgV (vn v) (nmS (vn v) a) dg))]) dm_X12_numbersIn_153 rfl rfl rfl rfl ?_
                          refine me1 (pc' := 156) (L' := [(0, .ref 102), (1, ii (hd : Int)), (2, ii place), (3, ii (b : Int)), (4, ii ((n : Nat) : Int)), (5, ii ((nmS (vn v) a + dg : Nat) : Int)), (6, zz c), (7, .long (dgV (vn v) (nmS (vn v) a) dg)), (9, ii ((dg : Nat) : Int))]) (S' := [ii ((nmS (vn v) a + dg : Nat) : Int), ii (hd : Int), .ref 102, .long ((Int64.ofInt 10) * (dgV (vn v) (nmS (vn v) a) dg))]) dm_X12_numbersIn_154 rfl rfl rfl rfl ?_
                          refine x_cp (pc' := 159) (v := .long (vn v (nmS (vn v) a + dg))) (rest := [.long ((Int64.ofInt 10) * (dgV (vn v) (nmS (vn v) a) dg))]) dm_X12_numbersIn_156 rfl (q_inv (As := [ii (hd : Int), ii ((nmS (vn v) a + dg : Nat) : Int)]) (S := [.long ((Int64.ofInt 10) * (dgV (vn v) (nmS (vn v) a) dg))]) hm rfl rfl rfl) rfl rfl rfl (r_number_ (k := (nmS (vn v) a + dg)) hm (by omega) hBT hvT (by omega) (by omega)) ?_
                          refine me0 (pc' := 160) (S' := [.long (((Int64.ofInt 10) * (dgV (vn v) (nmS (vn v) a) dg)) + (vn v (nmS (vn v) a + dg)))]) dm_X12_numbersIn_159 rfl rfl rfl rfl ?_
                          refine me3 (pc' := 163) (S' := [.long (Int64.ofInt 48), .long (((Int64.ofInt 10) * (dgV (vn v) (nmS (vn v) a) dg)) + (vn v (nmS (vn v) a + dg)))]) dm_X12_numbersIn_160 rfl rfl rfl rfl ?_
                          refine me0 (pc' := 164) (S' := [.long ((((Int64.ofInt 10) * (dgV (vn v) (nmS (vn v) a) dg)) + (vn v (nmS (vn v) a + dg))) - (Int64.ofInt 48))]) dm_X12_numbersIn_163 rfl rfl rfl rfl ?_
                          refine pg_st (S' := [.long (dgV (vn v) (nmS (vn v) a) (dg + 1))]) (congrArg (fun z => Value.long z :: []) (i64_dg _ _ _ _)) ?_
                          refine me1 (pc' := 166) (L' := [(7, .long (dgV (vn v) (nmS (vn v) a) (dg + 1))), (0, .ref 102), (1, ii (hd : Int)), (2, ii place), (3, ii (b : Int)), (4, ii ((n : Nat) : Int)), (5, ii ((nmS (vn v) a + dg : Nat) : Int)), (6, zz c), (9, ii ((dg : Nat) : Int))]) (S' := []) dm_X12_numbersIn_164 rfl rfl rfl rfl ?_
                          refine y_iinc (pc' := 169) (L' := [(9, ii (((dg : Nat) : Int) + 1)), (7, .long (dgV (vn v) (nmS (vn v) a) (dg + 1))), (0, .ref 102), (1, ii (hd : Int)), (2, ii place), (3, ii (b : Int)), (4, ii ((n : Nat) : Int)), (5, ii ((nmS (vn v) a + dg : Nat) : Int)), (6, zz c)]) dm_X12_numbersIn_166 (y_incp (a := ((dg : Nat) : Int)) (c := 1) rfl rfl (by decide)) rfl ?_
                          refine y_iinc (pc' := 172) (L' := [(5, ii (((nmS (vn v) a + dg : Nat) : Int) + 1)), (9, ii (((dg : Nat) : Int) + 1)), (7, .long (dgV (vn v) (nmS (vn v) a) (dg + 1))), (0, .ref 102), (1, ii (hd : Int)), (2, ii place), (3, ii (b : Int)), (4, ii ((n : Nat) : Int)), (6, zz c)]) dm_X12_numbersIn_169 (y_incp (a := ((nmS (vn v) a + dg : Nat) : Int)) (c := 1) rfl rfl (by decide)) rfl ?_
                          refine me2 (pc' := 101) (S' := []) dm_X12_numbersIn_172 rfl rfl rfl ?_
                          exact pg_sub (L := [(0, .ref 102), (1, ii (hd : Int)), (2, ii place), (3, ii (b : Int)), (4, ii ((n : Nat) : Int)), (5, ii ((nmS (vn v) a + (dg + 1) : Nat) : Int)), (6, zz c), (7, .long (dgV (vn v) (nmS (vn v) a) (dg + 1))), (9, ii (((dg + 1) : Nat) : Int))]) rfl rfl rfl (ih101 (20 - (dg + 1)) (by omega) (dg + 1) rfl (by omega) (fun j h1 h2 => by by_cases z : j = (nmS (vn v) a + dg); (rw [z]; exact ⟨by omega, by constructor <;> omega⟩); exact hrun j h1 (by omega)))
              exact pg_sub (L := [(0, .ref 102), (1, ii (hd : Int)), (2, ii place), (3, ii (b : Int)), (4, ii ((n : Nat) : Int)), (5, ii ((nmS (vn v) a + 0 : Nat) : Int)), (6, zz c), (7, .long (dgV (vn v) (nmS (vn v) a) 0)), (9, ii ((0 : Nat) : Int))]) rfl rfl rfl (lp101 _ 0 rfl (by decide) (fun j h1 h2 => absurd h2 (by omega)))
            refine me1 (pc' := 67) (L' := [(0, .ref 102), (1, ii (hd : Int)), (2, ii place), (3, ii (b : Int)), (4, ii ((n : Nat) : Int)), (5, ii ((a : Nat) : Int))]) (S' := [.ref 102]) dm_X12_numbersIn_66 rfl rfl rfl rfl ?_
            refine me1 (pc' := 68) (L' := [(0, .ref 102), (1, ii (hd : Int)), (2, ii place), (3, ii (b : Int)), (4, ii ((n : Nat) : Int)), (5, ii ((a : Nat) : Int))]) (S' := [ii (hd : Int), .ref 102]) dm_X12_numbersIn_67 rfl rfl rfl rfl ?_
            refine me1 (pc' := 70) (L' := [(0, .ref 102), (1, ii (hd : Int)), (2, ii place), (3, ii (b : Int)), (4, ii ((n : Nat) : Int)), (5, ii ((a : Nat) : Int))]) (S' := [ii ((a : Nat) : Int), ii (hd : Int), .ref 102]) dm_X12_numbersIn_68 rfl rfl rfl rfl ?_
            refine x_cp (pc' := 73) (v := .long (vn v a)) (rest := []) dm_X12_numbersIn_70 rfl (q_inv (As := [ii (hd : Int), ii ((a : Nat) : Int)]) (S := []) hm rfl rfl rfl) rfl rfl rfl (r_number_ (k := a) hm (by omega) hBT hvT (by omega) (by omega)) ?_
            refine me3 (pc' := 76) (S' := [.long (Int64.ofInt 95), .long (vn v a)]) dm_X12_numbersIn_73 rfl rfl rfl rfl ?_
            refine y_lne (x := vn v a) (y := Int64.ofInt 95) (t := 84) (pc1 := 77) (pc' := 80) dm_X12_numbersIn_76 rfl dm_X12_numbersIn_77 rfl rfl (fun hb14 => ?_) (fun hb14 => ?_)
            · have hb14i : ¬ (vn v a).toInt = (Int64.ofInt 95).toInt := fun z => hb14 (Int64.toInt_inj.mp z)
              have h95 := hb14
              refine me0 (pc' := 85) (S' := [ii 0]) dm_X12_numbersIn_84 rfl rfl rfl rfl ?_
              refine me1 (pc' := 87) (L' := [(6, ii 0), (0, .ref 102), (1, ii (hd : Int)), (2, ii place), (3, ii (b : Int)), (4, ii ((n : Nat) : Int)), (5, ii ((a : Nat) : Int))]) (S' := []) dm_X12_numbersIn_85 rfl rfl rfl rfl ?_
              refine me1 (pc' := 89) (L' := [(6, ii 0), (0, .ref 102), (1, ii (hd : Int)), (2, ii place), (3, ii (b : Int)), (4, ii ((n : Nat) : Int)), (5, ii ((a : Nat) : Int))]) (S' := [ii 0]) dm_X12_numbersIn_87 rfl rfl rfl rfl ?_
              refine me_1t (pc' := 95) dm_X12_numbersIn_89 rfl (by decide) ?_
              have hS0 : nmS (vn v) a = a := by unfold nmS; rw [if_neg h95]
              rw [show ((a : Nat) : Int) = ((nmS (vn v) a + 0 : Nat) : Int) by omega]
              exact pg_sub (L := [(0, .ref 102), (1, ii (hd : Int)), (2, ii place), (3, ii (b : Int)), (4, ii ((n : Nat) : Int)), (5, ii ((nmS (vn v) a + 0 : Nat) : Int)), (6, zz false)]) rfl rfl rfl (jn95 false (decide_eq_false h95).symm)
            · have hb14i := congrArg Int64.toInt hb14
              have h95 := hb14
              refine me0 (pc' := 81) (S' := [ii 1]) dm_X12_numbersIn_80 rfl rfl rfl rfl ?_
              refine me2 (pc' := 85) (S' := [ii 1]) dm_X12_numbersIn_81 rfl rfl rfl ?_
              refine me1 (pc' := 87) (L' := [(6, ii 1), (0, .ref 102), (1, ii (hd : Int)), (2, ii place), (3, ii (b : Int)), (4, ii ((n : Nat) : Int)), (5, ii ((a : Nat) : Int))]) (S' := []) dm_X12_numbersIn_85 rfl rfl rfl rfl ?_
              refine me1 (pc' := 89) (L' := [(6, ii 1), (0, .ref 102), (1, ii (hd : Int)), (2, ii place), (3, ii (b : Int)), (4, ii ((n : Nat) : Int)), (5, ii ((a : Nat) : Int))]) (S' := [ii 1]) dm_X12_numbersIn_87 rfl rfl rfl rfl ?_
              refine me_1f (pc' := 92) dm_X12_numbersIn_89 rfl (by decide) rfl ?_
              refine y_iinc (pc' := 95) (L' := [(5, ii (((a : Nat) : Int) + 1)), (6, ii 1), (0, .ref 102), (1, ii (hd : Int)), (2, ii place), (3, ii (b : Int)), (4, ii ((n : Nat) : Int))]) dm_X12_numbersIn_92 (y_incp (a := ((a : Nat) : Int)) (c := 1) rfl rfl (by decide)) rfl ?_
              have hS0 : nmS (vn v) a = a + 1 := by unfold nmS; rw [if_pos h95]
              rw [show ((a : Nat) : Int) + 1 = ((nmS (vn v) a + 0 : Nat) : Int) by omega]
              exact pg_sub (L := [(0, .ref 102), (1, ii (hd : Int)), (2, ii place), (3, ii (b : Int)), (4, ii ((n : Nat) : Int)), (5, ii ((nmS (vn v) a + 0 : Nat) : Int)), (6, zz true)]) rfl rfl rfl (jn95 true (decide_eq_true h95).symm)
          · have hb3i := congrArg Int64.toInt hb3
            have hb32 := hb3
            refine y_iinc (pc' := 63) (L' := [(5, ii (((a : Nat) : Int) + 1)), (0, .ref 102), (1, ii (hd : Int)), (2, ii place), (3, ii (b : Int)), (4, ii ((n : Nat) : Int))]) dm_X12_numbersIn_60 (y_incp (a := ((a : Nat) : Int)) (c := 1) rfl rfl (by decide)) rfl ?_
            refine me2 (pc' := 36) (S' := []) dm_X12_numbersIn_63 rfl rfl rfl ?_
            exact pg_sub (L := [(0, .ref 102), (1, ii (hd : Int)), (2, ii place), (3, ii (b : Int)), (4, ii ((n : Nat) : Int)), (5, ii (((a + 1) : Nat) : Int))]) rfl rfl rfl (ih36 (vm v - (a + 1)) (by omega) (a + 1) n g rfl (by omega) (by omega) (htl.trans (tldT_bl (by omega) hb32)))
    refine pg_cast (h2 := rI pre post ((fillS s b 0 (fun _ => 0)).1) ((fillS s b 0 (fun _ => 0)).2.1) ((fillS s b 0 (fun _ => 0)).2.2.1) ((fillS s b 0 (fun _ => 0)).2.2.2)) (fill_0 s b (fun _ => 0)) ?_
    exact pg_sub (L := [(0, .ref 102), (1, ii (hd : Int)), (2, ii place), (3, ii (b : Int)), (4, ii ((0 : Nat) : Int)), (5, ii ((0 : Nat) : Int))]) rfl rfl rfl (lp36 _ 0 0 (fun _ => 0) rfl (Nat.zero_le _) (Nat.le_refl _) rfl)
  · refine me1 (pc' := 10) (L' := [(0, .ref 102), (1, ii (hd : Int)), (2, ii place)]) (S' := [.ref 102]) dm_X12_numbersIn_9 rfl rfl rfl rfl ?_
    refine me1 (pc' := 11) (L' := [(0, .ref 102), (1, ii (hd : Int)), (2, ii place)]) (S' := [ii (hd : Int), .ref 102]) dm_X12_numbersIn_10 rfl rfl rfl rfl ?_
    refine x_cp (pc' := 14) (v := ii (vk v : Int)) (rest := []) dm_X12_numbersIn_11 rfl (q_inv (As := [ii (hd : Int)]) (S := []) hm rfl rfl rfl) rfl rfl rfl (r_kindOf_ hm (by omega) hB0 hv) ?_
    refine me0 (pc' := 15) (S' := [ii 3, ii (vk v : Int)]) dm_X12_numbersIn_14 rfl rfl rfl rfl ?_
    refine y_2eq (a := (vk v : Int)) (b := 3) (t := 25) (pc' := 18) dm_X12_numbersIn_15 rfl rfl (by omega) (fun hb15 => ?_) (fun hb15 => ?_)
    · refine me1 (pc' := 26) (L' := [(0, .ref 102), (1, ii (hd : Int)), (2, ii place)]) (S' := [.ref 102]) dm_X12_numbersIn_25 rfl rfl rfl rfl ?_
      refine me3 (pc' := 29) (S' := [ii (s.1 3)]) dm_X12_numbersIn_26 (q_geti (v := s.1 3) hm rfl (fun m i l => rg_3 m i l) rfl) rfl rfl rfl ?_
      refine pg_st (S' := [ii (b : Int)]) (congrArg (fun z => ii z :: []) (hb)) ?_
      refine me1 (pc' := 30) (L' := [(3, ii (b : Int)), (0, .ref 102), (1, ii (hd : Int)), (2, ii place)]) (S' := []) dm_X12_numbersIn_29 rfl rfl rfl rfl ?_
      refine me0 (pc' := 31) (S' := [ii 0]) dm_X12_numbersIn_30 rfl rfl rfl rfl ?_
      refine me1 (pc' := 33) (L' := [(4, ii 0), (3, ii (b : Int)), (0, .ref 102), (1, ii (hd : Int)), (2, ii place)]) (S' := []) dm_X12_numbersIn_31 rfl rfl rfl rfl ?_
      refine me0 (pc' := 34) (S' := [ii 0]) dm_X12_numbersIn_33 rfl rfl rfl rfl ?_
      refine me1 (pc' := 36) (L' := [(5, ii 0), (4, ii 0), (3, ii (b : Int)), (0, .ref 102), (1, ii (hd : Int)), (2, ii place)]) (S' := []) dm_X12_numbersIn_34 rfl rfl rfl rfl ?_
      have lp36 : ∀ (n36 : Nat) (a : Nat) (n : Nat) (g : Nat → Int64), vm v - a = n36 → (a ≤ vm v) → (n ≤ a) → (tldT (vn v) (vm v) 0 0 (fun _ => 0) = tldT (vn v) (vm v) a n g) → pgE xt (d - 1) 12 10 false (Option.some Jvm.ClassFile.FieldType.int) (mj_dec prog_14_method_41_code) 36 [(0, .ref 102), (1, ii (hd : Int)), (2, ii place), (3, ii (b : Int)), (4, ii ((n : Nat) : Int)), (5, ii ((a : Nat) : Int))] [] (rI pre post ((fillS s b n g).1) ((fillS s b n g).2.1) ((fillS s b n g).2.2.1) ((fillS s b n g).2.2.2)) (fun r h' => ∃ x, r = some x ∧ rres pre post s (e + 1) (m_told v) place 120 1 x h') := by
        intro n36
        induction n36 using Nat.strongRecOn with
        | ind n36 ih36 =>
          intro a n g hm36 ha hn htl
          have hBT : rB (fillS s b n g) := hB0
          have hvT : rv (fillS s b n g) (e + 1) hd v := rv_ext (rext_fill (rext_rf s) (by omega) g) hh3 hv
          refine me1 (pc' := 38) (L' := [(0, .ref 102), (1, ii (hd : Int)), (2, ii place), (3, ii (b : Int)), (4, ii ((n : Nat) : Int)), (5, ii ((a : Nat) : Int))]) (S' := [ii ((a : Nat) : Int)]) dm_X12_numbersIn_36 rfl rfl rfl rfl ?_
          refine me1 (pc' := 39) (L' := [(0, .ref 102), (1, ii (hd : Int)), (2, ii place), (3, ii (b : Int)), (4, ii ((n : Nat) : Int)), (5, ii ((a : Nat) : Int))]) (S' := [.ref 102, ii ((a : Nat) : Int)]) dm_X12_numbersIn_38 rfl rfl rfl rfl ?_
          refine me1 (pc' := 40) (L' := [(0, .ref 102), (1, ii (hd : Int)), (2, ii place), (3, ii (b : Int)), (4, ii ((n : Nat) : Int)), (5, ii ((a : Nat) : Int))]) (S' := [ii (hd : Int), .ref 102, ii ((a : Nat) : Int)]) dm_X12_numbersIn_39 rfl rfl rfl rfl ?_
          refine x_cp (pc' := 43) (v := ii (vm v : Int)) (rest := [ii ((a : Nat) : Int)]) dm_X12_numbersIn_40 rfl (q_inv (As := [ii (hd : Int)]) (S := [ii ((a : Nat) : Int)]) hm rfl rfl rfl) rfl rfl rfl (r_many_ hm (by omega) hBT hvT) ?_
          refine y_2ge (a := ((a : Nat) : Int)) (b := (vm v : Int)) (t := 246) (pc' := 46) dm_X12_numbersIn_43 rfl rfl (by omega) (fun hb16 => ?_) (fun hb16 => ?_)
          · refine me1 (pc' := 247) (L' := [(0, .ref 102), (1, ii (hd : Int)), (2, ii place), (3, ii (b : Int)), (4, ii ((n : Nat) : Int)), (5, ii ((a : Nat) : Int))]) (S' := [.ref 102]) dm_X12_numbersIn_246 rfl rfl rfl rfl ?_
            refine me1 (pc' := 248) (L' := [(0, .ref 102), (1, ii (hd : Int)), (2, ii place), (3, ii (b : Int)), (4, ii ((n : Nat) : Int)), (5, ii ((a : Nat) : Int))]) (S' := [.ref 102, .ref 102]) dm_X12_numbersIn_247 rfl rfl rfl rfl ?_
            refine me0 (pc' := 249) (S' := [ii 5, .ref 102, .ref 102]) dm_X12_numbersIn_248 rfl rfl rfl rfl ?_
            refine me1 (pc' := 251) (L' := [(0, .ref 102), (1, ii (hd : Int)), (2, ii place), (3, ii (b : Int)), (4, ii ((n : Nat) : Int)), (5, ii ((a : Nat) : Int))]) (S' := [ii ((n : Nat) : Int), ii 5, .ref 102, .ref 102]) dm_X12_numbersIn_249 rfl rfl rfl rfl ?_
            refine x_cv (pc' := 254) (rest := [.ref 102]) dm_X12_numbersIn_251 rfl (q_inv (As := [ii 5, ii ((n : Nat) : Int)]) (S := [.ref 102]) hm rfl rfl rfl) rfl rfl rfl (r_row_ (q := q) (b := b) (s := (fillS s b n g)) hm (by omega) hq hb (by omega) (by omega) (by omega)) ?_
            rintro _ _ ⟨rfl, rfl⟩
            refine pg_cast (h2 := rI pre post ((fillS (rowS s q b 5 ((n : Nat) : Int)) b n g).1) ((fillS (rowS s q b 5 ((n : Nat) : Int)) b n g).2.1) ((fillS (rowS s q b 5 ((n : Nat) : Int)) b n g).2.2.1) ((fillS (rowS s q b 5 ((n : Nat) : Int)) b n g).2.2.2)) rfl ?_
            have hBU : rB (fillS (rowS s q b 5 ((n : Nat) : Int)) b n g) := ⟨by show 3 ≤ (q : Int) + 1; omega, by show (q : Int) + 1 ≤ 310000; omega, by show 0 ≤ (b : Int) + ((n : Nat) : Int); omega, by show (b : Int) + ((n : Nat) : Int) ≤ 820000; omega⟩
            have hvq : rv (fillS (rowS s q b 5 ((n : Nat) : Int)) b n g) (e + 1) q (vrow 5 n g) := rv_rowS (kind := 5) (vw1_row (by omega) (by omega) (by omega)) (by show ¬ 5 = 7; omega) (by show ¬ 5 = 6; omega) rfl rfl rfl (fun _ _ => rfl)
            refine x_cv (pc' := 257) (rest := []) dm_X12_numbersIn_254 rfl (q_inv (As := [ii (q : Int)]) (S := []) hm rfl rfl rfl) rfl rfl rfl (r_settled_ (s := (fillS (rowS s q b 5 ((n : Nat) : Int)) b n g)) (fr0 := b) hm (by omega) hBU hvq (up_eq _ _ _)) ?_
            rintro _ _ ⟨rfl, rfl⟩
            refine y_ret (r := some (ii (q : Int))) dm_X12_numbersIn_257 rfl rfl rfl ?_
            have han : a = vm v := by omega
            rw [m_told_r (by omega) (htl.trans (tldT_end han))]
            have hvf := vform_le (m := n) (f := g)
            have hst := setS_row s q b (vform n g) n n 5 g
            rw [show rS pre post (setS (fillS (rowS s q b 5 ((n : Nat) : Int)) b n g) q b (vform n g) n) = rS pre post (fillS (rowS s q b ((vform n g : Nat) : Int) ((n : Nat) : Int)) b n g) from congrArg (rS pre post) hst]
            exact ⟨_, rfl, rres_row (kind := vform n g) (n := n) (w := vrow (vform n g) n g) hq hq3 hb he0 (vw1_row (by omega) (by omega) (by omega)) (by show ¬ vform n g = 7; omega) (by show ¬ vform n g = 6; omega) rfl rfl rfl (fun _ _ => rfl) (by omega) (Nat.le_refl _)⟩
          · refine me1 (pc' := 47) (L' := [(0, .ref 102), (1, ii (hd : Int)), (2, ii place), (3, ii (b : Int)), (4, ii ((n : Nat) : Int)), (5, ii ((a : Nat) : Int))]) (S' := [.ref 102]) dm_X12_numbersIn_46 rfl rfl rfl rfl ?_
            refine me1 (pc' := 48) (L' := [(0, .ref 102), (1, ii (hd : Int)), (2, ii place), (3, ii (b : Int)), (4, ii ((n : Nat) : Int)), (5, ii ((a : Nat) : Int))]) (S' := [ii (hd : Int), .ref 102]) dm_X12_numbersIn_47 rfl rfl rfl rfl ?_
            refine me1 (pc' := 50) (L' := [(0, .ref 102), (1, ii (hd : Int)), (2, ii place), (3, ii (b : Int)), (4, ii ((n : Nat) : Int)), (5, ii ((a : Nat) : Int))]) (S' := [ii ((a : Nat) : Int), ii (hd : Int), .ref 102]) dm_X12_numbersIn_48 rfl rfl rfl rfl ?_
            refine x_cp (pc' := 53) (v := .long (vn v a)) (rest := []) dm_X12_numbersIn_50 rfl (q_inv (As := [ii (hd : Int), ii ((a : Nat) : Int)]) (S := []) hm rfl rfl rfl) rfl rfl rfl (r_number_ (k := a) hm (by omega) hBT hvT (by omega) (by omega)) ?_
            refine me3 (pc' := 56) (S' := [.long (Int64.ofInt 32), .long (vn v a)]) dm_X12_numbersIn_53 rfl rfl rfl rfl ?_
            refine y_lne (x := vn v a) (y := Int64.ofInt 32) (t := 66) (pc1 := 57) (pc' := 60) dm_X12_numbersIn_56 rfl dm_X12_numbersIn_57 rfl rfl (fun hb17 => ?_) (fun hb17 => ?_)
            · have hb17i : ¬ (vn v a).toInt = (Int64.ofInt 32).toInt := fun z => hb17 (Int64.toInt_inj.mp z)
              have hn32 := hb17
              have jn95 : ∀ c : Bool, c = decide (vn v a = Int64.ofInt 95) → pgE xt (d - 1) 12 10 false (Option.some Jvm.ClassFile.FieldType.int) (mj_dec prog_14_method_41_code) 95 [(0, .ref 102), (1, ii (hd : Int)), (2, ii place), (3, ii (b : Int)), (4, ii ((n : Nat) : Int)), (5, ii ((nmS (vn v) a + 0 : Nat) : Int)), (6, zz c)] [] (rI pre post ((fillS s b n g).1) ((fillS s b n g).2.1) ((fillS s b n g).2.2.1) ((fillS s b n g).2.2.2)) (fun r h' => ∃ x, r = some x ∧ rres pre post s (e + 1) (m_told v) place 120 1 x h') := by
                intro c hcb
                refine me0 (pc' := 96) (S' := [.long (Int64.ofInt 0)]) dm_X12_numbersIn_95 rfl rfl rfl rfl ?_
                refine me1 (pc' := 98) (L' := [(7, .long (Int64.ofInt 0)), (0, .ref 102), (1, ii (hd : Int)), (2, ii place), (3, ii (b : Int)), (4, ii ((n : Nat) : Int)), (5, ii ((nmS (vn v) a + 0 : Nat) : Int)), (6, zz c)]) (S' := []) dm_X12_numbersIn_96 rfl rfl rfl rfl ?_
                refine me0 (pc' := 99) (S' := [ii 0]) dm_X12_numbersIn_98 rfl rfl rfl rfl ?_
                refine me1 (pc' := 101) (L' := [(9, ii 0), (7, .long (Int64.ofInt 0)), (0, .ref 102), (1, ii (hd : Int)), (2, ii place), (3, ii (b : Int)), (4, ii ((n : Nat) : Int)), (5, ii ((nmS (vn v) a + 0 : Nat) : Int)), (6, zz c)]) (S' := []) dm_X12_numbersIn_99 rfl rfl rfl rfl ?_
                have lp101 : ∀ (n101 : Nat) (dg : Nat), 20 - dg = n101 → (dg ≤ 19) → (∀ j, nmS (vn v) a ≤ j → j < nmS (vn v) a + dg → j < vm v ∧ isDg (vn v j)) → pgE xt (d - 1) 12 10 false (Option.some Jvm.ClassFile.FieldType.int) (mj_dec prog_14_method_41_code) 101 [(0, .ref 102), (1, ii (hd : Int)), (2, ii place), (3, ii (b : Int)), (4, ii ((n : Nat) : Int)), (5, ii ((nmS (vn v) a + dg : Nat) : Int)), (6, zz c), (7, .long (dgV (vn v) (nmS (vn v) a) dg)), (9, ii ((dg : Nat) : Int))] [] (rI pre post ((fillS s b n g).1) ((fillS s b n g).2.1) ((fillS s b n g).2.2.1) ((fillS s b n g).2.2.2)) (fun r h' => ∃ x, r = some x ∧ rres pre post s (e + 1) (m_told v) place 120 1 x h') := by
                  intro n101
                  induction n101 using Nat.strongRecOn with
                  | ind n101 ih101 =>
                    intro dg hm101 hdg hrun
                    have hSl := nmS_le (vn v) a
                    have hPm : (nmS (vn v) a + dg) ≤ vm v := by rcases Nat.eq_zero_or_pos dg with z | z; omega; have := (hrun (nmS (vn v) a + (dg - 1)) (by omega) (by omega)).1; omega
                    refine me1 (pc' := 103) (L' := [(0, .ref 102), (1, ii (hd : Int)), (2, ii place), (3, ii (b : Int)), (4, ii ((n : Nat) : Int)), (5, ii ((nmS (vn v) a + dg : Nat) : Int)), (6, zz c), (7, .long (dgV (vn v) (nmS (vn v) a) dg)), (9, ii ((dg : Nat) : Int))]) (S' := [ii ((nmS (vn v) a + dg : Nat) : Int)]) dm_X12_numbersIn_101 rfl rfl rfl rfl ?_
                    have jn175 : (vm v ≤ (nmS (vn v) a + dg) ∨ ¬ isDg (vn v (nmS (vn v) a + dg)) ∨ dg = 19) → pgE xt (d - 1) 12 10 false (Option.some Jvm.ClassFile.FieldType.int) (mj_dec prog_14_method_41_code) 175 [(0, .ref 102), (1, ii (hd : Int)), (2, ii place), (3, ii (b : Int)), (4, ii ((n : Nat) : Int)), (5, ii ((nmS (vn v) a + dg : Nat) : Int)), (6, zz c), (7, .long (dgV (vn v) (nmS (vn v) a) dg)), (9, ii ((dg : Nat) : Int))] [] (rI pre post ((fillS s b n g).1) ((fillS s b n g).2.1) ((fillS s b n g).2.2.1) ((fillS s b n g).2.2.2)) (fun r h' => ∃ x, r = some x ∧ rres pre post s (e + 1) (m_told v) place 120 1 x h') := by
                      intro hstp
                      have hge := nmE_ge hrun
                      have hE0 : dg ≤ 18 → nmE (vn v) (vm v) a = (nmS (vn v) a + dg) := fun z18 => (nmE_run hrun).trans (dgEnd_stop (fun z => by rcases hstp with y | y | y; (have z1 := z.1; omega); exact y z.2; omega))
                      refine me1 (pc' := 177) (L' := [(0, .ref 102), (1, ii (hd : Int)), (2, ii place), (3, ii (b : Int)), (4, ii ((n : Nat) : Int)), (5, ii ((nmS (vn v) a + dg : Nat) : Int)), (6, zz c), (7, .long (dgV (vn v) (nmS (vn v) a) dg)), (9, ii ((dg : Nat) : Int))]) (S' := [ii ((dg : Nat) : Int)]) dm_X12_numbersIn_175 rfl rfl rfl rfl ?_
                      refine y_1eq (a := ((dg : Nat) : Int)) (t := 211) (pc' := 180) dm_X12_numbersIn_177 rfl rfl (by omega) (fun hb18 => ?_) (fun hb18 => ?_)
                      · have hE := hE0 (by omega)
                        refine me1 (pc' := 212) (L' := [(0, .ref 102), (1, ii (hd : Int)), (2, ii place), (3, ii (b : Int)), (4, ii ((n : Nat) : Int)), (5, ii ((nmS (vn v) a + dg : Nat) : Int)), (6, zz c), (7, .long (dgV (vn v) (nmS (vn v) a) dg)), (9, ii ((dg : Nat) : Int))]) (S' := [.ref 102]) dm_X12_numbersIn_211 rfl rfl rfl rfl ?_
                        refine me0 (pc' := 213) (S' := [ii 5, .ref 102]) dm_X12_numbersIn_212 rfl rfl rfl rfl ?_
                        refine me1 (pc' := 214) (L' := [(0, .ref 102), (1, ii (hd : Int)), (2, ii place), (3, ii (b : Int)), (4, ii ((n : Nat) : Int)), (5, ii ((nmS (vn v) a + dg : Nat) : Int)), (6, zz c), (7, .long (dgV (vn v) (nmS (vn v) a) dg)), (9, ii ((dg : Nat) : Int))]) (S' := [ii place, ii 5, .ref 102]) dm_X12_numbersIn_213 rfl rfl rfl rfl ?_
                        refine x_cv (pc' := 217) (rest := []) dm_X12_numbersIn_214 rfl (q_inv (As := [ii 5, ii place]) (S := []) hm rfl rfl rfl) rfl rfl rfl (r_fail_ (s := (fillS s b n g)) hm (by omega) he0 hca.1 hca.2) ?_
                        rintro _ _ ⟨rfl, rfl⟩
                        refine y_ret (r := some (ii (-1))) dm_X12_numbersIn_217 rfl rfl rfl ?_
                        rw [m_told_e (by omega) (htl.trans (tldT_no (by omega) hn32 (fun z => by obtain ⟨z1, z2, z3⟩ := z; first | omega | (rcases z1 with z1 | z1; omega; rw [hE] at z1; exact hnb z1))))]
                        exact ⟨_, rfl, rres_failT (rext_fill (rext_rf s) (by omega) g) (rfr_fill s b n g) (show s.1 3 ≤ _ by omega) (show s.1 4 ≤ _ by omega)⟩
                      · refine me1 (pc' := 182) (L' := [(0, .ref 102), (1, ii (hd : Int)), (2, ii place), (3, ii (b : Int)), (4, ii ((n : Nat) : Int)), (5, ii ((nmS (vn v) a + dg : Nat) : Int)), (6, zz c), (7, .long (dgV (vn v) (nmS (vn v) a) dg)), (9, ii ((dg : Nat) : Int))]) (S' := [ii ((dg : Nat) : Int)]) dm_X12_numbersIn_180 rfl rfl rfl rfl ?_
                        refine me0 (pc' := 184) (S' := [ii 18, ii ((dg : Nat) : Int)]) dm_X12_numbersIn_182 rfl rfl rfl rfl ?_
                        refine y_2gt (a := ((dg : Nat) : Int)) (b := 18) (t := 211) (pc' := 187) dm_X12_numbersIn_184 rfl rfl (by omega) (fun hb19 => ?_) (fun hb19 => ?_)
                        · refine me1 (pc' := 212) (L' := [(0, .ref 102), (1, ii (hd : Int)), (2, ii place), (3, ii (b : Int)), (4, ii ((n : Nat) : Int)), (5, ii ((nmS (vn v) a + dg : Nat) : Int)), (6, zz c), (7, .long (dgV (vn v) (nmS (vn v) a) dg)), (9, ii ((dg : Nat) : Int))]) (S' := [.ref 102]) dm_X12_numbersIn_211 rfl rfl rfl rfl ?_
                          refine me0 (pc' := 213) (S' := [ii 5, .ref 102]) dm_X12_numbersIn_212 rfl rfl rfl rfl ?_
                          refine me1 (pc' := 214) (L' := [(0, .ref 102), (1, ii (hd : Int)), (2, ii place), (3, ii (b : Int)), (4, ii ((n : Nat) : Int)), (5, ii ((nmS (vn v) a + dg : Nat) : Int)), (6, zz c), (7, .long (dgV (vn v) (nmS (vn v) a) dg)), (9, ii ((dg : Nat) : Int))]) (S' := [ii place, ii 5, .ref 102]) dm_X12_numbersIn_213 rfl rfl rfl rfl ?_
                          refine x_cv (pc' := 217) (rest := []) dm_X12_numbersIn_214 rfl (q_inv (As := [ii 5, ii place]) (S := []) hm rfl rfl rfl) rfl rfl rfl (r_fail_ (s := (fillS s b n g)) hm (by omega) he0 hca.1 hca.2) ?_
                          rintro _ _ ⟨rfl, rfl⟩
                          refine y_ret (r := some (ii (-1))) dm_X12_numbersIn_217 rfl rfl rfl ?_
                          rw [m_told_e (by omega) (htl.trans (tldT_no (by omega) hn32 (fun z => by obtain ⟨z1, z2, z3⟩ := z; first | omega | (rcases z1 with z1 | z1; omega; rw [hE] at z1; exact hnb z1))))]
                          exact ⟨_, rfl, rres_failT (rext_fill (rext_rf s) (by omega) g) (rfr_fill s b n g) (show s.1 3 ≤ _ by omega) (show s.1 4 ≤ _ by omega)⟩
                        · have hE := hE0 (by omega)
                          refine me1 (pc' := 189) (L' := [(0, .ref 102), (1, ii (hd : Int)), (2, ii place), (3, ii (b : Int)), (4, ii ((n : Nat) : Int)), (5, ii ((nmS (vn v) a + dg : Nat) : Int)), (6, zz c), (7, .long (dgV (vn v) (nmS (vn v) a) dg)), (9, ii ((dg : Nat) : Int))]) (S' := [ii ((nmS (vn v) a + dg : Nat) : Int)]) dm_X12_numbersIn_187 rfl rfl rfl rfl ?_
                          refine me1 (pc' := 190) (L' := [(0, .ref 102), (1, ii (hd : Int)), (2, ii place), (3, ii (b : Int)), (4, ii ((n : Nat) : Int)), (5, ii ((nmS (vn v) a + dg : Nat) : Int)), (6, zz c), (7, .long (dgV (vn v) (nmS (vn v) a) dg)), (9, ii ((dg : Nat) : Int))]) (S' := [.ref 102, ii ((nmS (vn v) a + dg : Nat) : Int)]) dm_X12_numbersIn_189 rfl rfl rfl rfl ?_
                          refine me1 (pc' := 191) (L' := [(0, .ref 102), (1, ii (hd : Int)), (2, ii place), (3, ii (b : Int)), (4, ii ((n : Nat) : Int)), (5, ii ((nmS (vn v) a + dg : Nat) : Int)), (6, zz c), (7, .long (dgV (vn v) (nmS (vn v) a) dg)), (9, ii ((dg : Nat) : Int))]) (S' := [ii (hd : Int), .ref 102, ii ((nmS (vn v) a + dg : Nat) : Int)]) dm_X12_numbersIn_190 rfl rfl rfl rfl ?_
                          refine x_cp (pc' := 194) (v := ii (vm v : Int)) (rest := [ii ((nmS (vn v) a + dg : Nat) : Int)]) dm_X12_numbersIn_191 rfl (q_inv (As := [ii (hd : Int)]) (S := [ii ((nmS (vn v) a + dg : Nat) : Int)]) hm rfl rfl rfl) rfl rfl rfl (r_many_ hm (by omega) hBT hvT) ?_
                          refine y_2ge (a := ((nmS (vn v) a + dg : Nat) : Int)) (b := (vm v : Int)) (t := 218) (pc' := 197) dm_X12_numbersIn_194 rfl rfl (by omega) (fun hb20 => ?_) (fun hb20 => ?_)
                          · refine me1 (pc' := 219) (L' := [(0, .ref 102), (1, ii (hd : Int)), (2, ii place), (3, ii (b : Int)), (4, ii ((n : Nat) : Int)), (5, ii ((nmS (vn v) a + dg : Nat) : Int)), (6, zz c), (7, .long (dgV (vn v) (nmS (vn v) a) dg)), (9, ii ((dg : Nat) : Int))]) (S' := [.ref 102]) dm_X12_numbersIn_218 rfl rfl rfl rfl ?_
                            refine me3 (pc' := 222) (S' := [.ref (102 + 1)]) dm_X12_numbersIn_219 (q_getr hm rfl (fun m i l => rg_0 m i l)) rfl rfl rfl ?_
                            refine me1 (pc' := 223) (L' := [(0, .ref 102), (1, ii (hd : Int)), (2, ii place), (3, ii (b : Int)), (4, ii ((n : Nat) : Int)), (5, ii ((nmS (vn v) a + dg : Nat) : Int)), (6, zz c), (7, .long (dgV (vn v) (nmS (vn v) a) dg)), (9, ii ((dg : Nat) : Int))]) (S' := [ii (b : Int), .ref (102 + 1)]) dm_X12_numbersIn_222 rfl rfl rfl rfl ?_
                            refine me1 (pc' := 225) (L' := [(0, .ref 102), (1, ii (hd : Int)), (2, ii place), (3, ii (b : Int)), (4, ii ((n : Nat) : Int)), (5, ii ((nmS (vn v) a + dg : Nat) : Int)), (6, zz c), (7, .long (dgV (vn v) (nmS (vn v) a) dg)), (9, ii ((dg : Nat) : Int))]) (S' := [ii ((n : Nat) : Int), ii (b : Int), .ref (102 + 1)]) dm_X12_numbersIn_223 rfl rfl rfl rfl ?_
                            refine y_iadd (a := (b : Int)) (b := ((n : Nat) : Int)) dm_X12_numbersIn_225 (pc' := 226) rfl ?_
                            refine me1 (pc' := 228) (L' := [(0, .ref 102), (1, ii (hd : Int)), (2, ii place), (3, ii (b : Int)), (4, ii ((n : Nat) : Int)), (5, ii ((nmS (vn v) a + dg : Nat) : Int)), (6, zz c), (7, .long (dgV (vn v) (nmS (vn v) a) dg)), (9, ii ((dg : Nat) : Int))]) (S' := [zz c, ii ((b : Int) + ((n : Nat) : Int)), .ref (102 + 1)]) dm_X12_numbersIn_226 rfl rfl rfl rfl ?_
                            refine y_zeq (c := c) (t := 237) (pc' := 231) dm_X12_numbersIn_228 rfl rfl (fun hb21 => ?_) (fun hb21 => ?_)
                            · have hcv := hb21
                              refine me1 (pc' := 239) (L' := [(0, .ref 102), (1, ii (hd : Int)), (2, ii place), (3, ii (b : Int)), (4, ii ((n : Nat) : Int)), (5, ii ((nmS (vn v) a + dg : Nat) : Int)), (6, zz c), (7, .long (dgV (vn v) (nmS (vn v) a) dg)), (9, ii ((dg : Nat) : Int))]) (S' := [.long (dgV (vn v) (nmS (vn v) a) dg), ii ((b : Int) + ((n : Nat) : Int)), .ref (102 + 1)]) dm_X12_numbersIn_237 rfl rfl rfl rfl ?_
                              have hnp : nmP (vn v) (vm v) a := ⟨by rw [hE]; first | exact Or.inr hbl | exact Or.inl (by omega), by omega, by omega⟩
                              refine pg_st (S' := [.long (nmV (vn v) a (nmS (vn v) a + dg)), ii ((b : Int) + ((n : Nat) : Int)), .ref (102 + 1)]) (congrArg (fun z => Value.long z :: [ii ((b : Int) + ((n : Nat) : Int)), .ref (102 + 1)]) (by unfold nmV; rw [if_neg (of_decide_eq_false (hcb.symm.trans hcv)), show (nmS (vn v) a + dg) - nmS (vn v) a = dg by omega])) ?_
                              refine me3 (pc' := 240) (S' := []) (h1 := rI pre post ((fillS s b n g).1) ((fillS s b n g).2.1) ((fillS s b n g).2.2.1) (va_up ((fillS s b n g).2.2.2) 0 (va_up (((fillS s b n g).2.2.2) 0) (b + n) (nmV (vn v) a (nmS (vn v) a + dg))))) dm_X12_numbersIn_239 (q_last (j := (b : Int) + ((n : Nat) : Int)) (k := 0) (n := 820000) hm (fun m i l I J => rc_0 m i l I J) (fun m i l I J f => rs_0 m i l I J f) (by omega) (by omega) (by decide)) rfl rfl rfl ?_
                              refine y_iinc (pc' := 243) (L' := [(4, ii (((n : Nat) : Int) + 1)), (0, .ref 102), (1, ii (hd : Int)), (2, ii place), (3, ii (b : Int)), (5, ii ((nmS (vn v) a + dg : Nat) : Int)), (6, zz c), (7, .long (dgV (vn v) (nmS (vn v) a) dg)), (9, ii ((dg : Nat) : Int))]) dm_X12_numbersIn_240 (y_incp (a := ((n : Nat) : Int)) (c := 1) rfl rfl (by decide)) rfl ?_
                              refine me2 (pc' := 36) (S' := []) dm_X12_numbersIn_243 rfl rfl rfl ?_
                              refine pg_cast (h2 := rI pre post ((fillS s b (n + 1) (va_up g n (nmV (vn v) a (nmS (vn v) a + dg)))).1) ((fillS s b (n + 1) (va_up g n (nmV (vn v) a (nmS (vn v) a + dg)))).2.1) ((fillS s b (n + 1) (va_up g n (nmV (vn v) a (nmS (vn v) a + dg)))).2.2.1) ((fillS s b (n + 1) (va_up g n (nmV (vn v) a (nmS (vn v) a + dg)))).2.2.2)) (fill_u s b n g _) ?_
                              exact pg_sub (L := [(0, .ref 102), (1, ii (hd : Int)), (2, ii place), (3, ii (b : Int)), (4, ii (((n + 1) : Nat) : Int)), (5, ii (((nmS (vn v) a + dg) : Nat) : Int))]) rfl rfl rfl (ih36 (vm v - (nmS (vn v) a + dg)) (by omega) (nmS (vn v) a + dg) (n + 1) (va_up g n (nmV (vn v) a (nmS (vn v) a + dg))) rfl (by omega) (by omega) (by rw [htl, tldT_nm (by omega) hn32 hnp, hE]))
                            · have hcv := hb21
                              refine me1 (pc' := 233) (L' := [(0, .ref 102), (1, ii (hd : Int)), (2, ii place), (3, ii (b : Int)), (4, ii ((n : Nat) : Int)), (5, ii ((nmS (vn v) a + dg : Nat) : Int)), (6, zz c), (7, .long (dgV (vn v) (nmS (vn v) a) dg)), (9, ii ((dg : Nat) : Int))]) (S' := [.long (dgV (vn v) (nmS (vn v) a) dg), ii ((b : Int) + ((n : Nat) : Int)), .ref (102 + 1)]) dm_X12_numbersIn_231 rfl rfl rfl rfl ?_
                              refine me0 (pc' := 234) (S' := [.long (-(dgV (vn v) (nmS (vn v) a) dg)), ii ((b : Int) + ((n : Nat) : Int)), .ref (102 + 1)]) dm_X12_numbersIn_233 rfl rfl rfl rfl ?_
                              refine me2 (pc' := 239) (S' := [.long (-(dgV (vn v) (nmS (vn v) a) dg)), ii ((b : Int) + ((n : Nat) : Int)), .ref (102 + 1)]) dm_X12_numbersIn_234 rfl rfl rfl ?_
                              have hnp : nmP (vn v) (vm v) a := ⟨by rw [hE]; first | exact Or.inr hbl | exact Or.inl (by omega), by omega, by omega⟩
                              refine pg_st (S' := [.long (nmV (vn v) a (nmS (vn v) a + dg)), ii ((b : Int) + ((n : Nat) : Int)), .ref (102 + 1)]) (congrArg (fun z => Value.long z :: [ii ((b : Int) + ((n : Nat) : Int)), .ref (102 + 1)]) (by unfold nmV; rw [if_pos (of_decide_eq_true (hcb.symm.trans hcv)), show (nmS (vn v) a + dg) - nmS (vn v) a = dg by omega])) ?_
                              refine me3 (pc' := 240) (S' := []) (h1 := rI pre post ((fillS s b n g).1) ((fillS s b n g).2.1) ((fillS s b n g).2.2.1) (va_up ((fillS s b n g).2.2.2) 0 (va_up (((fillS s b n g).2.2.2) 0) (b + n) (nmV (vn v) a (nmS (vn v) a + dg))))) dm_X12_numbersIn_239 (q_last (j := (b : Int) + ((n : Nat) : Int)) (k := 0) (n := 820000) hm (fun m i l I J => rc_0 m i l I J) (fun m i l I J f => rs_0 m i l I J f) (by omega) (by omega) (by decide)) rfl rfl rfl ?_
                              refine y_iinc (pc' := 243) (L' := [(4, ii (((n : Nat) : Int) + 1)), (0, .ref 102), (1, ii (hd : Int)), (2, ii place), (3, ii (b : Int)), (5, ii ((nmS (vn v) a + dg : Nat) : Int)), (6, zz c), (7, .long (dgV (vn v) (nmS (vn v) a) dg)), (9, ii ((dg : Nat) : Int))]) dm_X12_numbersIn_240 (y_incp (a := ((n : Nat) : Int)) (c := 1) rfl rfl (by decide)) rfl ?_
                              refine me2 (pc' := 36) (S' := []) dm_X12_numbersIn_243 rfl rfl rfl ?_
                              refine pg_cast (h2 := rI pre post ((fillS s b (n + 1) (va_up g n (nmV (vn v) a (nmS (vn v) a + dg)))).1) ((fillS s b (n + 1) (va_up g n (nmV (vn v) a (nmS (vn v) a + dg)))).2.1) ((fillS s b (n + 1) (va_up g n (nmV (vn v) a (nmS (vn v) a + dg)))).2.2.1) ((fillS s b (n + 1) (va_up g n (nmV (vn v) a (nmS (vn v) a + dg)))).2.2.2)) (fill_u s b n g _) ?_
                              exact pg_sub (L := [(0, .ref 102), (1, ii (hd : Int)), (2, ii place), (3, ii (b : Int)), (4, ii (((n + 1) : Nat) : Int)), (5, ii (((nmS (vn v) a + dg) : Nat) : Int))]) rfl rfl rfl (ih36 (vm v - (nmS (vn v) a + dg)) (by omega) (nmS (vn v) a + dg) (n + 1) (va_up g n (nmV (vn v) a (nmS (vn v) a + dg))) rfl (by omega) (by omega) (by rw [htl, tldT_nm (by omega) hn32 hnp, hE]))
                          · refine me1 (pc' := 198) (L' := [(0, .ref 102), (1, ii (hd : Int)), (2, ii place), (3, ii (b : Int)), (4, ii ((n : Nat) : Int)), (5, ii ((nmS (vn v) a + dg : Nat) : Int)), (6, zz c), (7, .long (dgV (vn v) (nmS (vn v) a) dg)), (9, ii ((dg : Nat) : Int))]) (S' := [.ref 102]) dm_X12_numbersIn_197 rfl rfl rfl rfl ?_
                            refine me1 (pc' := 199) (L' := [(0, .ref 102), (1, ii (hd : Int)), (2, ii place), (3, ii (b : Int)), (4, ii ((n : Nat) : Int)), (5, ii ((nmS (vn v) a + dg : Nat) : Int)), (6, zz c), (7, .long (dgV (vn v) (nmS (vn v) a) dg)), (9, ii ((dg : Nat) : Int))]) (S' := [ii (hd : Int), .ref 102]) dm_X12_numbersIn_198 rfl rfl rfl rfl ?_
                            refine me1 (pc' := 201) (L' := [(0, .ref 102), (1, ii (hd : Int)), (2, ii place), (3, ii (b : Int)), (4, ii ((n : Nat) : Int)), (5, ii ((nmS (vn v) a + dg : Nat) : Int)), (6, zz c), (7, .long (dgV (vn v) (nmS (vn v) a) dg)), (9, ii ((dg : Nat) : Int))]) (S' := [ii ((nmS (vn v) a + dg : Nat) : Int), ii (hd : Int), .ref 102]) dm_X12_numbersIn_199 rfl rfl rfl rfl ?_
                            refine x_cp (pc' := 204) (v := .long (vn v (nmS (vn v) a + dg))) (rest := []) dm_X12_numbersIn_201 rfl (q_inv (As := [ii (hd : Int), ii ((nmS (vn v) a + dg : Nat) : Int)]) (S := []) hm rfl rfl rfl) rfl rfl rfl (r_number_ (k := (nmS (vn v) a + dg)) hm (by omega) hBT hvT (by omega) (by omega)) ?_
                            refine me3 (pc' := 207) (S' := [.long (Int64.ofInt 32), .long (vn v (nmS (vn v) a + dg))]) dm_X12_numbersIn_204 rfl rfl rfl rfl ?_
                            refine y_leq (x := vn v (nmS (vn v) a + dg)) (y := Int64.ofInt 32) (t := 218) (pc1 := 208) (pc' := 211) dm_X12_numbersIn_207 rfl dm_X12_numbersIn_208 rfl rfl (fun hb22 => ?_) (fun hb22 => ?_)
                            · have hb22i := congrArg Int64.toInt hb22
                              have hbl := hb22
                              refine me1 (pc' := 219) (L' := [(0, .ref 102), (1, ii (hd : Int)), (2, ii place), (3, ii (b : Int)), (4, ii ((n : Nat) : Int)), (5, ii ((nmS (vn v) a + dg : Nat) : Int)), (6, zz c), (7, .long (dgV (vn v) (nmS (vn v) a) dg)), (9, ii ((dg : Nat) : Int))]) (S' := [.ref 102]) dm_X12_numbersIn_218 rfl rfl rfl rfl ?_
                              refine me3 (pc' := 222) (S' := [.ref (102 + 1)]) dm_X12_numbersIn_219 (q_getr hm rfl (fun m i l => rg_0 m i l)) rfl rfl rfl ?_
                              refine me1 (pc' := 223) (L' := [(0, .ref 102), (1, ii (hd : Int)), (2, ii place), (3, ii (b : Int)), (4, ii ((n : Nat) : Int)), (5, ii ((nmS (vn v) a + dg : Nat) : Int)), (6, zz c), (7, .long (dgV (vn v) (nmS (vn v) a) dg)), (9, ii ((dg : Nat) : Int))]) (S' := [ii (b : Int), .ref (102 + 1)]) dm_X12_numbersIn_222 rfl rfl rfl rfl ?_
                              refine me1 (pc' := 225) (L' := [(0, .ref 102), (1, ii (hd : Int)), (2, ii place), (3, ii (b : Int)), (4, ii ((n : Nat) : Int)), (5, ii ((nmS (vn v) a + dg : Nat) : Int)), (6, zz c), (7, .long (dgV (vn v) (nmS (vn v) a) dg)), (9, ii ((dg : Nat) : Int))]) (S' := [ii ((n : Nat) : Int), ii (b : Int), .ref (102 + 1)]) dm_X12_numbersIn_223 rfl rfl rfl rfl ?_
                              refine y_iadd (a := (b : Int)) (b := ((n : Nat) : Int)) dm_X12_numbersIn_225 (pc' := 226) rfl ?_
                              refine me1 (pc' := 228) (L' := [(0, .ref 102), (1, ii (hd : Int)), (2, ii place), (3, ii (b : Int)), (4, ii ((n : Nat) : Int)), (5, ii ((nmS (vn v) a + dg : Nat) : Int)), (6, zz c), (7, .long (dgV (vn v) (nmS (vn v) a) dg)), (9, ii ((dg : Nat) : Int))]) (S' := [zz c, ii ((b : Int) + ((n : Nat) : Int)), .ref (102 + 1)]) dm_X12_numbersIn_226 rfl rfl rfl rfl ?_
                              refine y_zeq (c := c) (t := 237) (pc' := 231) dm_X12_numbersIn_228 rfl rfl (fun hb23 => ?_) (fun hb23 => ?_)
                              · have hcv := hb23
                                refine me1 (pc' := 239) (L' := [(0, .ref 102), (1, ii (hd : Int)), (2, ii place), (3, ii (b : Int)), (4, ii ((n : Nat) : Int)), (5, ii ((nmS (vn v) a + dg : Nat) : Int)), (6, zz c), (7, .long (dgV (vn v) (nmS (vn v) a) dg)), (9, ii ((dg : Nat) : Int))]) (S' := [.long (dgV (vn v) (nmS (vn v) a) dg), ii ((b : Int) + ((n : Nat) : Int)), .ref (102 + 1)]) dm_X12_numbersIn_237 rfl rfl rfl rfl ?_
                                have hnp : nmP (vn v) (vm v) a := ⟨by rw [hE]; first | exact Or.inr hbl | exact Or.inl (by omega), by omega, by omega⟩
                                refine pg_st (S' := [.long (nmV (vn v) a (nmS (vn v) a + dg)), ii ((b : Int) + ((n : Nat) : Int)), .ref (102 + 1)]) (congrArg (fun z => Value.long z :: [ii ((b : Int) + ((n : Nat) : Int)), .ref (102 + 1)]) (by unfold nmV; rw [if_neg (of_decide_eq_false (hcb.symm.trans hcv)), show (nmS (vn v) a + dg) - nmS (vn v) a = dg by omega])) ?_
                                refine me3 (pc' := 240) (S' := []) (h1 := rI pre post ((fillS s b n g).1) ((fillS s b n g).2.1) ((fillS s b n g).2.2.1) (va_up ((fillS s b n g).2.2.2) 0 (va_up (((fillS s b n g).2.2.2) 0) (b + n) (nmV (vn v) a (nmS (vn v) a + dg))))) dm_X12_numbersIn_239 (q_last (j := (b : Int) + ((n : Nat) : Int)) (k := 0) (n := 820000) hm (fun m i l I J => rc_0 m i l I J) (fun m i l I J f => rs_0 m i l I J f) (by omega) (by omega) (by decide)) rfl rfl rfl ?_
                                refine y_iinc (pc' := 243) (L' := [(4, ii (((n : Nat) : Int) + 1)), (0, .ref 102), (1, ii (hd : Int)), (2, ii place), (3, ii (b : Int)), (5, ii ((nmS (vn v) a + dg : Nat) : Int)), (6, zz c), (7, .long (dgV (vn v) (nmS (vn v) a) dg)), (9, ii ((dg : Nat) : Int))]) dm_X12_numbersIn_240 (y_incp (a := ((n : Nat) : Int)) (c := 1) rfl rfl (by decide)) rfl ?_
                                refine me2 (pc' := 36) (S' := []) dm_X12_numbersIn_243 rfl rfl rfl ?_
                                refine pg_cast (h2 := rI pre post ((fillS s b (n + 1) (va_up g n (nmV (vn v) a (nmS (vn v) a + dg)))).1) ((fillS s b (n + 1) (va_up g n (nmV (vn v) a (nmS (vn v) a + dg)))).2.1) ((fillS s b (n + 1) (va_up g n (nmV (vn v) a (nmS (vn v) a + dg)))).2.2.1) ((fillS s b (n + 1) (va_up g n (nmV (vn v) a (nmS (vn v) a + dg)))).2.2.2)) (fill_u s b n g _) ?_
                                exact pg_sub (L := [(0, .ref 102), (1, ii (hd : Int)), (2, ii place), (3, ii (b : Int)), (4, ii (((n + 1) : Nat) : Int)), (5, ii (((nmS (vn v) a + dg) : Nat) : Int))]) rfl rfl rfl (ih36 (vm v - (nmS (vn v) a + dg)) (by omega) (nmS (vn v) a + dg) (n + 1) (va_up g n (nmV (vn v) a (nmS (vn v) a + dg))) rfl (by omega) (by omega) (by rw [htl, tldT_nm (by omega) hn32 hnp, hE]))
                              · have hcv := hb23
                                refine me1 (pc' := 233) (L' := [(0, .ref 102), (1, ii (hd : Int)), (2, ii place), (3, ii (b : Int)), (4, ii ((n : Nat) : Int)), (5, ii ((nmS (vn v) a + dg : Nat) : Int)), (6, zz c), (7, .long (dgV (vn v) (nmS (vn v) a) dg)), (9, ii ((dg : Nat) : Int))]) (S' := [.long (dgV (vn v) (nmS (vn v) a) dg), ii ((b : Int) + ((n : Nat) : Int)), .ref (102 + 1)]) dm_X12_numbersIn_231 rfl rfl rfl rfl ?_
                                refine me0 (pc' := 234) (S' := [.long (-(dgV (vn v) (nmS (vn v) a) dg)), ii ((b : Int) + ((n : Nat) : Int)), .ref (102 + 1)]) dm_X12_numbersIn_233 rfl rfl rfl rfl ?_
                                refine me2 (pc' := 239) (S' := [.long (-(dgV (vn v) (nmS (vn v) a) dg)), ii ((b : Int) + ((n : Nat) : Int)), .ref (102 + 1)]) dm_X12_numbersIn_234 rfl rfl rfl ?_
                                have hnp : nmP (vn v) (vm v) a := ⟨by rw [hE]; first | exact Or.inr hbl | exact Or.inl (by omega), by omega, by omega⟩
                                refine pg_st (S' := [.long (nmV (vn v) a (nmS (vn v) a + dg)), ii ((b : Int) + ((n : Nat) : Int)), .ref (102 + 1)]) (congrArg (fun z => Value.long z :: [ii ((b : Int) + ((n : Nat) : Int)), .ref (102 + 1)]) (by unfold nmV; rw [if_pos (of_decide_eq_true (hcb.symm.trans hcv)), show (nmS (vn v) a + dg) - nmS (vn v) a = dg by omega])) ?_
                                refine me3 (pc' := 240) (S' := []) (h1 := rI pre post ((fillS s b n g).1) ((fillS s b n g).2.1) ((fillS s b n g).2.2.1) (va_up ((fillS s b n g).2.2.2) 0 (va_up (((fillS s b n g).2.2.2) 0) (b + n) (nmV (vn v) a (nmS (vn v) a + dg))))) dm_X12_numbersIn_239 (q_last (j := (b : Int) + ((n : Nat) : Int)) (k := 0) (n := 820000) hm (fun m i l I J => rc_0 m i l I J) (fun m i l I J f => rs_0 m i l I J f) (by omega) (by omega) (by decide)) rfl rfl rfl ?_
                                refine y_iinc (pc' := 243) (L' := [(4, ii (((n : Nat) : Int) + 1)), (0, .ref 102), (1, ii (hd : Int)), (2, ii place), (3, ii (b : Int)), (5, ii ((nmS (vn v) a + dg : Nat) : Int)), (6, zz c), (7, .long (dgV (vn v) (nmS (vn v) a) dg)), (9, ii ((dg : Nat) : Int))]) dm_X12_numbersIn_240 (y_incp (a := ((n : Nat) : Int)) (c := 1) rfl rfl (by decide)) rfl ?_
                                refine me2 (pc' := 36) (S' := []) dm_X12_numbersIn_243 rfl rfl rfl ?_
                                refine pg_cast (h2 := rI pre post ((fillS s b (n + 1) (va_up g n (nmV (vn v) a (nmS (vn v) a + dg)))).1) ((fillS s b (n + 1) (va_up g n (nmV (vn v) a (nmS (vn v) a + dg)))).2.1) ((fillS s b (n + 1) (va_up g n (nmV (vn v) a (nmS (vn v) a + dg)))).2.2.1) ((fillS s b (n + 1) (va_up g n (nmV (vn v) a (nmS (vn v) a + dg)))).2.2.2)) (fill_u s b n g _) ?_
                                exact pg_sub (L := [(0, .ref 102), (1, ii (hd : Int)), (2, ii place), (3, ii (b : Int)), (4, ii (((n + 1) : Nat) : Int)), (5, ii (((nmS (vn v) a + dg) : Nat) : Int))]) rfl rfl rfl (ih36 (vm v - (nmS (vn v) a + dg)) (by omega) (nmS (vn v) a + dg) (n + 1) (va_up g n (nmV (vn v) a (nmS (vn v) a + dg))) rfl (by omega) (by omega) (by rw [htl, tldT_nm (by omega) hn32 hnp, hE]))
                            · have hb22i : ¬ (vn v (nmS (vn v) a + dg)).toInt = (Int64.ofInt 32).toInt := fun z => hb22 (Int64.toInt_inj.mp z)
                              have hnb := hb22
                              refine me1 (pc' := 212) (L' := [(0, .ref 102), (1, ii (hd : Int)), (2, ii place), (3, ii (b : Int)), (4, ii ((n : Nat) : Int)), (5, ii ((nmS (vn v) a + dg : Nat) : Int)), (6, zz c), (7, .long (dgV (vn v) (nmS (vn v) a) dg)), (9, ii ((dg : Nat) : Int))]) (S' := [.ref 102]) dm_X12_numbersIn_211 rfl rfl rfl rfl ?_
                              refine me0 (pc' := 213) (S' := [ii 5, .ref 102]) dm_X12_numbersIn_212 rfl rfl rfl rfl ?_
                              refine me1 (pc' := 214) (L' := [(0, .ref 102), (1, ii (hd : Int)), (2, ii place), (3, ii (b : Int)), (4, ii ((n : Nat) : Int)), (5, ii ((nmS (vn v) a + dg : Nat) : Int)), (6, zz c), (7, .long (dgV (vn v) (nmS (vn v) a) dg)), (9, ii ((dg : Nat) : Int))]) (S' := [ii place, ii 5, .ref 102]) dm_X12_numbersIn_213 rfl rfl rfl rfl ?_
                              refine x_cv (pc' := 217) (rest := []) dm_X12_numbersIn_214 rfl (q_inv (As := [ii 5, ii place]) (S := []) hm rfl rfl rfl) rfl rfl rfl (r_fail_ (s := (fillS s b n g)) hm (by omega) he0 hca.1 hca.2) ?_
                              rintro _ _ ⟨rfl, rfl⟩
                              refine y_ret (r := some (ii (-1))) dm_X12_numbersIn_217 rfl rfl rfl ?_
                              rw [m_told_e (by omega) (htl.trans (tldT_no (by omega) hn32 (fun z => by obtain ⟨z1, z2, z3⟩ := z; first | omega | (rcases z1 with z1 | z1; omega; rw [hE] at z1; exact hnb z1))))]
                              exact ⟨_, rfl, rres_failT (rext_fill (rext_rf s) (by omega) g) (rfr_fill s b n g) (show s.1 3 ≤ _ by omega) (show s.1 4 ≤ _ by omega)⟩
                    refine me1 (pc' := 104) (L' := [(0, .ref 102), (1, ii (hd : Int)), (2, ii place), (3, ii (b : Int)), (4, ii ((n : Nat) : Int)), (5, ii ((nmS (vn v) a + dg : Nat) : Int)), (6, zz c), (7, .long (dgV (vn v) (nmS (vn v) a) dg)), (9, ii ((dg : Nat) : Int))]) (S' := [.ref 102, ii ((nmS (vn v) a + dg : Nat) : Int)]) dm_X12_numbersIn_103 rfl rfl rfl rfl ?_
                    refine me1 (pc' := 105) (L' := [(0, .ref 102), (1, ii (hd : Int)), (2, ii place), (3, ii (b : Int)), (4, ii ((n : Nat) : Int)), (5, ii ((nmS (vn v) a + dg : Nat) : Int)), (6, zz c), (7, .long (dgV (vn v) (nmS (vn v) a) dg)), (9, ii ((dg : Nat) : Int))]) (S' := [ii (hd : Int), .ref 102, ii ((nmS (vn v) a + dg : Nat) : Int)]) dm_X12_numbersIn_104 rfl rfl rfl rfl ?_
                    refine x_cp (pc' := 108) (v := ii (vm v : Int)) (rest := [ii ((nmS (vn v) a + dg : Nat) : Int)]) dm_X12_numbersIn_105 rfl (q_inv (As := [ii (hd : Int)]) (S := [ii ((nmS (vn v) a + dg : Nat) : Int)]) hm rfl rfl rfl) rfl rfl rfl (r_many_ hm (by omega) hBT hvT) ?_
                    refine y_2ge (a := ((nmS (vn v) a + dg : Nat) : Int)) (b := (vm v : Int)) (t := 175) (pc' := 111) dm_X12_numbersIn_108 rfl rfl (by omega) (fun hb24 => ?_) (fun hb24 => ?_)
                    · exact pg_sub (L := [(0, .ref 102), (1, ii (hd : Int)), (2, ii place), (3, ii (b : Int)), (4, ii ((n : Nat) : Int)), (5, ii ((nmS (vn v) a + dg : Nat) : Int)), (6, zz c), (7, .long (dgV (vn v) (nmS (vn v) a) dg)), (9, ii ((dg : Nat) : Int))]) rfl rfl rfl (jn175 (Or.inl (by omega)))
                    · refine me1 (pc' := 112) (L' := [(0, .ref 102), (1, ii (hd : Int)), (2, ii place), (3, ii (b : Int)), (4, ii ((n : Nat) : Int)), (5, ii ((nmS (vn v) a + dg : Nat) : Int)), (6, zz c), (7, .long (dgV (vn v) (nmS (vn v) a) dg)), (9, ii ((dg : Nat) : Int))]) (S' := [.ref 102]) dm_X12_numbersIn_111 rfl rfl rfl rfl ?_
                      refine me1 (pc' := 113) (L' := [(0, .ref 102), (1, ii (hd : Int)), (2, ii place), (3, ii (b : Int)), (4, ii ((n : Nat) : Int)), (5, ii ((nmS (vn v) a + dg : Nat) : Int)), (6, zz c), (7, .long (dgV (vn v) (nmS (vn v) a) dg)), (9, ii ((dg : Nat) : Int))]) (S' := [ii (hd : Int), .ref 102]) dm_X12_numbersIn_112 rfl rfl rfl rfl ?_
                      refine me1 (pc' := 115) (L' := [(0, .ref 102), (1, ii (hd : Int)), (2, ii place), (3, ii (b : Int)), (4, ii ((n : Nat) : Int)), (5, ii ((nmS (vn v) a + dg : Nat) : Int)), (6, zz c), (7, .long (dgV (vn v) (nmS (vn v) a) dg)), (9, ii ((dg : Nat) : Int))]) (S' := [ii ((nmS (vn v) a + dg : Nat) : Int), ii (hd : Int), .ref 102]) dm_X12_numbersIn_113 rfl rfl rfl rfl ?_
                      refine x_cp (pc' := 118) (v := .long (vn v (nmS (vn v) a + dg))) (rest := []) dm_X12_numbersIn_115 rfl (q_inv (As := [ii (hd : Int), ii ((nmS (vn v) a + dg : Nat) : Int)]) (S := []) hm rfl rfl rfl) rfl rfl rfl (r_number_ (k := (nmS (vn v) a + dg)) hm (by omega) hBT hvT (by omega) (by omega)) ?_
                      refine me3 (pc' := 121) (S' := [.long (Int64.ofInt 48), .long (vn v (nmS (vn v) a + dg))]) dm_X12_numbersIn_118 rfl rfl rfl rfl ?_
                      refine y_llt (x := vn v (nmS (vn v) a + dg)) (y := Int64.ofInt 48) (t := 175) (pc1 := 122) (pc' := 125) dm_X12_numbersIn_121 rfl dm_X12_numbersIn_122 rfl rfl (fun hb25 => ?_) (fun hb25 => ?_)
                      · rw [h48] at hb25
                        exact pg_sub (L := [(0, .ref 102), (1, ii (hd : Int)), (2, ii place), (3, ii (b : Int)), (4, ii ((n : Nat) : Int)), (5, ii ((nmS (vn v) a + dg : Nat) : Int)), (6, zz c), (7, .long (dgV (vn v) (nmS (vn v) a) dg)), (9, ii ((dg : Nat) : Int))]) rfl rfl rfl (jn175 (Or.inr (Or.inl (fun z => by have z1 := z.1; have z2 := z.2; omega))))
                      · rw [h48] at hb25
                        refine me1 (pc' := 126) (L' := [(0, .ref 102), (1, ii (hd : Int)), (2, ii place), (3, ii (b : Int)), (4, ii ((n : Nat) : Int)), (5, ii ((nmS (vn v) a + dg : Nat) : Int)), (6, zz c), (7, .long (dgV (vn v) (nmS (vn v) a) dg)), (9, ii ((dg : Nat) : Int))]) (S' := [.ref 102]) dm_X12_numbersIn_125 rfl rfl rfl rfl ?_
                        refine me1 (pc' := 127) (L' := [(0, .ref 102), (1, ii (hd : Int)), (2, ii place), (3, ii (b : Int)), (4, ii ((n : Nat) : Int)), (5, ii ((nmS (vn v) a + dg : Nat) : Int)), (6, zz c), (7, .long (dgV (vn v) (nmS (vn v) a) dg)), (9, ii ((dg : Nat) : Int))]) (S' := [ii (hd : Int), .ref 102]) dm_X12_numbersIn_126 rfl rfl rfl rfl ?_
                        refine me1 (pc' := 129) (L' := [(0, .ref 102), (1, ii (hd : Int)), (2, ii place), (3, ii (b : Int)), (4, ii ((n : Nat) : Int)), (5, ii ((nmS (vn v) a + dg : Nat) : Int)), (6, zz c), (7, .long (dgV (vn v) (nmS (vn v) a) dg)), (9, ii ((dg : Nat) : Int))]) (S' := [ii ((nmS (vn v) a + dg : Nat) : Int), ii (hd : Int), .ref 102]) dm_X12_numbersIn_127 rfl rfl rfl rfl ?_
                        refine x_cp (pc' := 132) (v := .long (vn v (nmS (vn v) a + dg))) (rest := []) dm_X12_numbersIn_129 rfl (q_inv (As := [ii (hd : Int), ii ((nmS (vn v) a + dg : Nat) : Int)]) (S := []) hm rfl rfl rfl) rfl rfl rfl (r_number_ (k := (nmS (vn v) a + dg)) hm (by omega) hBT hvT (by omega) (by omega)) ?_
                        refine me3 (pc' := 135) (S' := [.long (Int64.ofInt 57), .long (vn v (nmS (vn v) a + dg))]) dm_X12_numbersIn_132 rfl rfl rfl rfl ?_
                        refine y_lgt (x := vn v (nmS (vn v) a + dg)) (y := Int64.ofInt 57) (t := 175) (pc1 := 136) (pc' := 139) dm_X12_numbersIn_135 rfl dm_X12_numbersIn_136 rfl rfl (fun hb26 => ?_) (fun hb26 => ?_)
                        · rw [h57] at hb26
                          exact pg_sub (L := [(0, .ref 102), (1, ii (hd : Int)), (2, ii place), (3, ii (b : Int)), (4, ii ((n : Nat) : Int)), (5, ii ((nmS (vn v) a + dg : Nat) : Int)), (6, zz c), (7, .long (dgV (vn v) (nmS (vn v) a) dg)), (9, ii ((dg : Nat) : Int))]) rfl rfl rfl (jn175 (Or.inr (Or.inl (fun z => by have z1 := z.1; have z2 := z.2; omega))))
                        · rw [h57] at hb26
                          refine me1 (pc' := 141) (L' := [(0, .ref 102), (1, ii (hd : Int)), (2, ii place), (3, ii (b : Int)), (4, ii ((n : Nat) : Int)), (5, ii ((nmS (vn v) a + dg : Nat) : Int)), (6, zz c), (7, .long (dgV (vn v) (nmS (vn v) a) dg)), (9, ii ((dg : Nat) : Int))]) (S' := [ii ((dg : Nat) : Int)]) dm_X12_numbersIn_139 rfl rfl rfl rfl ?_
                          refine me0 (pc' := 143) (S' := [ii 19, ii ((dg : Nat) : Int)]) dm_X12_numbersIn_141 rfl rfl rfl rfl ?_
                          refine y_2ge (a := ((dg : Nat) : Int)) (b := 19) (t := 175) (pc' := 146) dm_X12_numbersIn_143 rfl rfl (by omega) (fun hb27 => ?_) (fun hb27 => ?_)
                          · exact pg_sub (L := [(0, .ref 102), (1, ii (hd : Int)), (2, ii place), (3, ii (b : Int)), (4, ii ((n : Nat) : Int)), (5, ii ((nmS (vn v) a + dg : Nat) : Int)), (6, zz c), (7, .long (dgV (vn v) (nmS (vn v) a) dg)), (9, ii ((dg : Nat) : Int))]) rfl rfl rfl (jn175 (Or.inr (Or.inr (by omega))))
                          · refine me3 (pc' := 149) (S' := [.long (Int64.ofInt 10)]) dm_X12_numbersIn_146 rfl rfl rfl rfl ?_
                            refine me1 (pc' := 151) (L' := [(0, .ref 102), (1, ii (hd : Int)), (2, ii place), (3, ii (b : Int)), (4, ii ((n : Nat) : Int)), (5, ii ((nmS (vn v) a + dg : Nat) : Int)), (6, zz c), (7, .long (dgV (vn v) (nmS (vn v) a) dg)), (9, ii ((dg : Nat) : Int))]) (S' := [.long (dgV (vn v) (nmS (vn v) a) dg), .long (Int64.ofInt 10)]) dm_X12_numbersIn_149 rfl rfl rfl rfl ?_
                            refine me0 (pc' := 152) (S' := [.long ((Int64.ofInt 10) * (dgV (vn v) (nmS (vn v) a) dg))]) dm_X12_numbersIn_151 rfl rfl rfl rfl ?_
                            refine me1 (pc' := 153) (L' := [(0, .ref 102), (1, ii (hd : Int)), (2, ii place), (3, ii (b : Int)), (4, ii ((n : Nat) : Int)), (5, ii ((nmS (vn v) a + dg : Nat) : Int)), (6, zz c), (7, .long (dgV (vn v) (nmS (vn v) a) dg)), (9, ii ((dg : Nat) : Int))]) (S' := [.ref 102, .long ((Int64.ofInt 10) * (dgV (vn v) (nmS (vn v) a) dg))]) dm_X12_numbersIn_152 rfl rfl rfl rfl ?_
                            refine me1 (pc' := 154) (L' := [(0, .ref 102), (1, ii (hd : Int)), (2, ii place), (3, ii (b : Int)), (4, ii ((n : Nat) : Int)), (5, ii ((nmS (vn v) a + dg : Nat) : Int)), (6, zz c), (7, .long (dgV (vn v) (nmS (vn v) a) dg)), (9, ii ((dg : Nat) : Int))]) (S' := [ii (hd : Int), .ref 102, .long ((Int64.ofInt 10) * (dgV (vn v) (nmS (vn v) a) dg))]) dm_X12_numbersIn_153 rfl rfl rfl rfl ?_
                            refine me1 (pc' := 156) (L' := [(0, .ref 102), (1, ii (hd : Int)), (2, ii place), (3, ii (b : Int)), (4, ii ((n : Nat) : Int)), (5, ii ((nmS (vn v) a + dg : Nat) : Int)), (6, zz c), (7, .long (dgV (vn v) (nmS (vn v) a) dg)), (9, ii ((dg : Nat) : Int))]) (S' := [ii ((nmS (vn v) a + dg : Nat) : Int), ii (hd : Int), .ref 102, .long ((Int64.ofInt 10) * (dgV (vn v) (nmS (vn v) a) dg))]) dm_X12_numbersIn_154 rfl rfl rfl rfl ?_
                            refine x_cp (pc' := 159) (v := .long (vn v (nmS (vn v) a + dg))) (rest := [.long ((Int64.ofInt 10) * (dgV (vn v) (nmS (vn v) a) dg))]) dm_X12_numbersIn_156 rfl (q_inv (As := [ii (hd : Int), ii ((nmS (vn v) a + dg : Nat) : Int)]) (S := [.long ((Int64.ofInt 10) * (dgV (vn v) (nmS (vn v) a) dg))]) hm rfl rfl rfl) rfl rfl rfl (r_number_ (k := (nmS (vn v) a + dg)) hm (by omega) hBT hvT (by omega) (by omega)) ?_
                            refine me0 (pc' := 160) (S' := [.long (((Int64.ofInt 10) * (dgV (vn v) (nmS (vn v) a) dg)) + (vn v (nmS (vn v) a + dg)))]) dm_X12_numbersIn_159 rfl rfl rfl rfl ?_
                            refine me3 (pc' := 163) (S' := [.long (Int64.ofInt 48), .long (((Int64.ofInt 10) * (dgV (vn v) (nmS (vn v) a) dg)) + (vn v (nmS (vn v) a + dg)))]) dm_X12_numbersIn_160 rfl rfl rfl rfl ?_
                            refine me0 (pc' := 164) (S' := [.long ((((Int64.ofInt 10) * (dgV (vn v) (nmS (vn v) a) dg)) + (vn v (nmS (vn v) a + dg))) - (Int64.ofInt 48))]) dm_X12_numbersIn_163 rfl rfl rfl rfl ?_
                            refine pg_st (S' := [.long (dgV (vn v) (nmS (vn v) a) (dg + 1))]) (congrArg (fun z => Value.long z :: []) (i64_dg _ _ _ _)) ?_
                            refine me1 (pc' := 166) (L' := [(7, .long (dgV (vn v) (nmS (vn v) a) (dg + 1))), (0, .ref 102), (1, ii (hd : Int)), (2, ii place), (3, ii (b : Int)), (4, ii ((n : Nat) : Int)), (5, ii ((nmS (vn v) a + dg : Nat) : Int)), (6, zz c), (9, ii ((dg : Nat) : Int))]) (S' := []) dm_X12_numbersIn_164 rfl rfl rfl rfl ?_
                            refine y_iinc (pc' := 169) (L' := [(9, ii (((dg : Nat) : Int) + 1)), (7, .long (dgV (vn v) (nmS (vn v) a) (dg + 1))), (0, .ref 102), (1, ii (hd : Int)), (2, ii place), (3, ii (b : Int)), (4, ii ((n : Nat) : Int)), (5, ii ((nmS (vn v) a + dg : Nat) : Int)), (6, zz c)]) dm_X12_numbersIn_166 (y_incp (a := ((dg : Nat) : Int)) (c := 1) rfl rfl (by decide)) rfl ?_
                            refine y_iinc (pc' := 172) (L' := [(5, ii (((nmS (vn v) a + dg : Nat) : Int) + 1)), (9, ii (((dg : Nat) : Int) + 1)), (7, .long (dgV (vn v) (nmS (vn v) a) (dg + 1))), (0, .ref 102), (1, ii (hd : Int)), (2, ii place), (3, ii (b : Int)), (4, ii ((n : Nat) : Int)), (6, zz c)]) dm_X12_numbersIn_169 (y_incp (a := ((nmS (vn v) a + dg : Nat) : Int)) (c := 1) rfl rfl (by decide)) rfl ?_
                            refine me2 (pc' := 101) (S' := []) dm_X12_numbersIn_172 rfl rfl rfl ?_
                            exact pg_sub (L := [(0, .ref 102), (1, ii (hd : Int)), (2, ii place), (3, ii (b : Int)), (4, ii ((n : Nat) : Int)), (5, ii ((nmS (vn v) a + (dg + 1) : Nat) : Int)), (6, zz c), (7, .long (dgV (vn v) (nmS (vn v) a) (dg + 1))), (9, ii (((dg + 1) : Nat) : Int))]) rfl rfl rfl (ih101 (20 - (dg + 1)) (by omega) (dg + 1) rfl (by omega) (fun j h1 h2 => by by_cases z : j = (nmS (vn v) a + dg); (rw [z]; exact ⟨by omega, by constructor <;> omega⟩); exact hrun j h1 (by omega)))
                exact pg_sub (L := [(0, .ref 102), (1, ii (hd : Int)), (2, ii place), (3, ii (b : Int)), (4, ii ((n : Nat) : Int)), (5, ii ((nmS (vn v) a + 0 : Nat) : Int)), (6, zz c), (7, .long (dgV (vn v) (nmS (vn v) a) 0)), (9, ii ((0 : Nat) : Int))]) rfl rfl rfl (lp101 _ 0 rfl (by decide) (fun j h1 h2 => absurd h2 (by omega)))
              refine me1 (pc' := 67) (L' := [(0, .ref 102), (1, ii (hd : Int)), (2, ii place), (3, ii (b : Int)), (4, ii ((n : Nat) : Int)), (5, ii ((a : Nat) : Int))]) (S' := [.ref 102]) dm_X12_numbersIn_66 rfl rfl rfl rfl ?_
              refine me1 (pc' := 68) (L' := [(0, .ref 102), (1, ii (hd : Int)), (2, ii place), (3, ii (b : Int)), (4, ii ((n : Nat) : Int)), (5, ii ((a : Nat) : Int))]) (S' := [ii (hd : Int), .ref 102]) dm_X12_numbersIn_67 rfl rfl rfl rfl ?_
              refine me1 (pc' := 70) (L' := [(0, .ref 102), (1, ii (hd : Int)), (2, ii place), (3, ii (b : Int)), (4, ii ((n : Nat) : Int)), (5, ii ((a : Nat) : Int))]) (S' := [ii ((a : Nat) : Int), ii (hd : Int), .ref 102]) dm_X12_numbersIn_68 rfl rfl rfl rfl ?_
              refine x_cp (pc' := 73) (v := .long (vn v a)) (rest := []) dm_X12_numbersIn_70 rfl (q_inv (As := [ii (hd : Int), ii ((a : Nat) : Int)]) (S := []) hm rfl rfl rfl) rfl rfl rfl (r_number_ (k := a) hm (by omega) hBT hvT (by omega) (by omega)) ?_
              refine me3 (pc' := 76) (S' := [.long (Int64.ofInt 95), .long (vn v a)]) dm_X12_numbersIn_73 rfl rfl rfl rfl ?_
              refine y_lne (x := vn v a) (y := Int64.ofInt 95) (t := 84) (pc1 := 77) (pc' := 80) dm_X12_numbersIn_76 rfl dm_X12_numbersIn_77 rfl rfl (fun hb28 => ?_) (fun hb28 => ?_)
              · have hb28i : ¬ (vn v a).toInt = (Int64.ofInt 95).toInt := fun z => hb28 (Int64.toInt_inj.mp z)
                have h95 := hb28
                refine me0 (pc' := 85) (S' := [ii 0]) dm_X12_numbersIn_84 rfl rfl rfl rfl ?_
                refine me1 (pc' := 87) (L' := [(6, ii 0), (0, .ref 102), (1, ii (hd : Int)), (2, ii place), (3, ii (b : Int)), (4, ii ((n : Nat) : Int)), (5, ii ((a : Nat) : Int))]) (S' := []) dm_X12_numbersIn_85 rfl rfl rfl rfl ?_
                refine me1 (pc' := 89) (L' := [(6, ii 0), (0, .ref 102), (1, ii (hd : Int)), (2, ii place), (3, ii (b : Int)), (4, ii ((n : Nat) : Int)), (5, ii ((a : Nat) : Int))]) (S' := [ii 0]) dm_X12_numbersIn_87 rfl rfl rfl rfl ?_
                refine me_1t (pc' := 95) dm_X12_numbersIn_89 rfl (by decide) ?_
                have hS0 : nmS (vn v) a = a := by unfold nmS; rw [if_neg h95]
                rw [show ((a : Nat) : Int) = ((nmS (vn v) a + 0 : Nat) : Int) by omega]
                exact pg_sub (L := [(0, .ref 102), (1, ii (hd : Int)), (2, ii place), (3, ii (b : Int)), (4, ii ((n : Nat) : Int)), (5, ii ((nmS (vn v) a + 0 : Nat) : Int)), (6, zz false)]) rfl rfl rfl (jn95 false (decide_eq_false h95).symm)
              · have hb28i := congrArg Int64.toInt hb28
                have h95 := hb28
                refine me0 (pc' := 81) (S' := [ii 1]) dm_X12_numbersIn_80 rfl rfl rfl rfl ?_
                refine me2 (pc' := 85) (S' := [ii 1]) dm_X12_numbersIn_81 rfl rfl rfl ?_
                refine me1 (pc' := 87) (L' := [(6, ii 1), (0, .ref 102), (1, ii (hd : Int)), (2, ii place), (3, ii (b : Int)), (4, ii ((n : Nat) : Int)), (5, ii ((a : Nat) : Int))]) (S' := []) dm_X12_numbersIn_85 rfl rfl rfl rfl ?_
                refine me1 (pc' := 89) (L' := [(6, ii 1), (0, .ref 102), (1, ii (hd : Int)), (2, ii place), (3, ii (b : Int)), (4, ii ((n : Nat) : Int)), (5, ii ((a : Nat) : Int))]) (S' := [ii 1]) dm_X12_numbersIn_87 rfl rfl rfl rfl ?_
                refine me_1f (pc' := 92) dm_X12_numbersIn_89 rfl (by decide) rfl ?_
                refine y_iinc (pc' := 95) (L' := [(5, ii (((a : Nat) : Int) + 1)), (6, ii 1), (0, .ref 102), (1, ii (hd : Int)), (2, ii place), (3, ii (b : Int)), (4, ii ((n : Nat) : Int))]) dm_X12_numbersIn_92 (y_incp (a := ((a : Nat) : Int)) (c := 1) rfl rfl (by decide)) rfl ?_
                have hS0 : nmS (vn v) a = a + 1 := by unfold nmS; rw [if_pos h95]
                rw [show ((a : Nat) : Int) + 1 = ((nmS (vn v) a + 0 : Nat) : Int) by omega]
                exact pg_sub (L := [(0, .ref 102), (1, ii (hd : Int)), (2, ii place), (3, ii (b : Int)), (4, ii ((n : Nat) : Int)), (5, ii ((nmS (vn v) a + 0 : Nat) : Int)), (6, zz true)]) rfl rfl rfl (jn95 true (decide_eq_true h95).symm)
            · have hb17i := congrArg Int64.toInt hb17
              have hb32 := hb17
              refine y_iinc (pc' := 63) (L' := [(5, ii (((a : Nat) : Int) + 1)), (0, .ref 102), (1, ii (hd : Int)), (2, ii place), (3, ii (b : Int)), (4, ii ((n : Nat) : Int))]) dm_X12_numbersIn_60 (y_incp (a := ((a : Nat) : Int)) (c := 1) rfl rfl (by decide)) rfl ?_
              refine me2 (pc' := 36) (S' := []) dm_X12_numbersIn_63 rfl rfl rfl ?_
              exact pg_sub (L := [(0, .ref 102), (1, ii (hd : Int)), (2, ii place), (3, ii (b : Int)), (4, ii ((n : Nat) : Int)), (5, ii (((a + 1) : Nat) : Int))]) rfl rfl rfl (ih36 (vm v - (a + 1)) (by omega) (a + 1) n g rfl (by omega) (by omega) (htl.trans (tldT_bl (by omega) hb32)))
      refine pg_cast (h2 := rI pre post ((fillS s b 0 (fun _ => 0)).1) ((fillS s b 0 (fun _ => 0)).2.1) ((fillS s b 0 (fun _ => 0)).2.2.1) ((fillS s b 0 (fun _ => 0)).2.2.2)) (fill_0 s b (fun _ => 0)) ?_
      exact pg_sub (L := [(0, .ref 102), (1, ii (hd : Int)), (2, ii place), (3, ii (b : Int)), (4, ii ((0 : Nat) : Int)), (5, ii ((0 : Nat) : Int))]) rfl rfl rfl (lp36 _ 0 0 (fun _ => 0) rfl (Nat.zero_le _) (Nat.le_refl _) rfl)
    · refine me1 (pc' := 19) (L' := [(0, .ref 102), (1, ii (hd : Int)), (2, ii place)]) (S' := [.ref 102]) dm_X12_numbersIn_18 rfl rfl rfl rfl ?_
      refine me0 (pc' := 20) (S' := [ii 3, .ref 102]) dm_X12_numbersIn_19 rfl rfl rfl rfl ?_
      refine me1 (pc' := 21) (L' := [(0, .ref 102), (1, ii (hd : Int)), (2, ii place)]) (S' := [ii place, ii 3, .ref 102]) dm_X12_numbersIn_20 rfl rfl rfl rfl ?_
      refine x_cv (pc' := 24) (rest := []) dm_X12_numbersIn_21 rfl (q_inv (As := [ii 3, ii place]) (S := []) hm rfl rfl rfl) rfl rfl rfl (r_fail_ (s := s) hm (by omega) he0 hca.1 hca.2) ?_
      rintro _ _ ⟨rfl, rfl⟩
      refine y_ret (r := some (ii (-1))) dm_X12_numbersIn_24 rfl rfl rfl ?_
      rw [show m_told v = .inl 3 by unfold m_told; rw [if_neg (by omega)]]
      exact ⟨_, rfl, rres_fail (rpre_rf s) he0⟩
