set_option maxRecDepth 20000 in
theorem pm_X12_next : mj_mmof pg_ms 205 = some ((⟨"ArrayCalculatorModel", "next", "()V"⟩, prog_14_method_73_code, 2, (Option.none : Option Jvm.ClassFile.FieldType)), 12, false, mj_dec prog_14_method_73_code) := rfl
theorem dm_X12_next_0 : mj_dec prog_14_method_73_code 0 = some (.aload_n 0, 1) := by decide +kernel
theorem dm_X12_next_1 : mj_dec prog_14_method_73_code 1 = some (.getfield 376, 3) := by decide +kernel
theorem dm_X12_next_4 : mj_dec prog_14_method_73_code 4 = some (.ifCond .eq 18, 3) := by decide +kernel
theorem dm_X12_next_7 : mj_dec prog_14_method_73_code 7 = some (.aload_n 0, 1) := by decide +kernel
theorem dm_X12_next_8 : mj_dec prog_14_method_73_code 8 = some (.bipush 8, 2) := by decide +kernel
theorem dm_X12_next_10 : mj_dec prog_14_method_73_code 10 = some (.putfield 380, 3) := by decide +kernel
theorem dm_X12_next_13 : mj_dec prog_14_method_73_code 13 = some (.aload_n 0, 1) := by decide +kernel
theorem dm_X12_next_14 : mj_dec prog_14_method_73_code 14 = some (.aload_n 0, 1) := by decide +kernel
theorem dm_X12_next_15 : mj_dec prog_14_method_73_code 15 = some (.getfield 383, 3) := by decide +kernel
theorem dm_X12_next_18 : mj_dec prog_14_method_73_code 18 = some (.putfield 386, 3) := by decide +kernel
theorem dm_X12_next_21 : mj_dec prog_14_method_73_code 21 = some (.return_, 1) := by decide +kernel
theorem dm_X12_next_22 : mj_dec prog_14_method_73_code 22 = some (.aload_n 0, 1) := by decide +kernel
theorem dm_X12_next_23 : mj_dec prog_14_method_73_code 23 = some (.getfield 383, 3) := by decide +kernel
theorem dm_X12_next_26 : mj_dec prog_14_method_73_code 26 = some (.aload_n 0, 1) := by decide +kernel
theorem dm_X12_next_27 : mj_dec prog_14_method_73_code 27 = some (.getfield 370, 3) := by decide +kernel
theorem dm_X12_next_30 : mj_dec prog_14_method_73_code 30 = some (.if_icmp .ge 30, 3) := by decide +kernel
theorem dm_X12_next_33 : mj_dec prog_14_method_73_code 33 = some (.aload_n 0, 1) := by decide +kernel
theorem dm_X12_next_34 : mj_dec prog_14_method_73_code 34 = some (.getfield 71, 3) := by decide +kernel
theorem dm_X12_next_37 : mj_dec prog_14_method_73_code 37 = some (.aload_n 0, 1) := by decide +kernel
theorem dm_X12_next_38 : mj_dec prog_14_method_73_code 38 = some (.getfield 383, 3) := by decide +kernel
theorem dm_X12_next_41 : mj_dec prog_14_method_73_code 41 = some (.baload, 1) := by decide +kernel
theorem dm_X12_next_42 : mj_dec prog_14_method_73_code 42 = some (.bipush 32, 2) := by decide +kernel
theorem dm_X12_next_44 : mj_dec prog_14_method_73_code 44 = some (.if_icmp .ne 16, 3) := by decide +kernel
theorem dm_X12_next_47 : mj_dec prog_14_method_73_code 47 = some (.aload_n 0, 1) := by decide +kernel
theorem dm_X12_next_48 : mj_dec prog_14_method_73_code 48 = some (.dup, 1) := by decide +kernel
theorem dm_X12_next_49 : mj_dec prog_14_method_73_code 49 = some (.getfield 383, 3) := by decide +kernel
theorem dm_X12_next_52 : mj_dec prog_14_method_73_code 52 = some (.iconst 1, 1) := by decide +kernel
theorem dm_X12_next_53 : mj_dec prog_14_method_73_code 53 = some (.iadd, 1) := by decide +kernel
theorem dm_X12_next_54 : mj_dec prog_14_method_73_code 54 = some (.putfield 383, 3) := by decide +kernel
theorem dm_X12_next_57 : mj_dec prog_14_method_73_code 57 = some (.goto (-35), 3) := by decide +kernel
theorem dm_X12_next_60 : mj_dec prog_14_method_73_code 60 = some (.aload_n 0, 1) := by decide +kernel
theorem dm_X12_next_61 : mj_dec prog_14_method_73_code 61 = some (.aload_n 0, 1) := by decide +kernel
theorem dm_X12_next_62 : mj_dec prog_14_method_73_code 62 = some (.getfield 383, 3) := by decide +kernel
theorem dm_X12_next_65 : mj_dec prog_14_method_73_code 65 = some (.putfield 386, 3) := by decide +kernel
theorem dm_X12_next_68 : mj_dec prog_14_method_73_code 68 = some (.aload_n 0, 1) := by decide +kernel
theorem dm_X12_next_69 : mj_dec prog_14_method_73_code 69 = some (.aload_n 0, 1) := by decide +kernel
theorem dm_X12_next_70 : mj_dec prog_14_method_73_code 70 = some (.getfield 383, 3) := by decide +kernel
theorem dm_X12_next_73 : mj_dec prog_14_method_73_code 73 = some (.invokevirtual 373, 3) := by decide +kernel
theorem dm_X12_next_76 : mj_dec prog_14_method_73_code 76 = some (.istore_n 1, 1) := by decide +kernel
theorem dm_X12_next_77 : mj_dec prog_14_method_73_code 77 = some (.aload_n 0, 1) := by decide +kernel
theorem dm_X12_next_78 : mj_dec prog_14_method_73_code 78 = some (.getfield 383, 3) := by decide +kernel
theorem dm_X12_next_81 : mj_dec prog_14_method_73_code 81 = some (.aload_n 0, 1) := by decide +kernel
theorem dm_X12_next_82 : mj_dec prog_14_method_73_code 82 = some (.getfield 370, 3) := by decide +kernel
theorem dm_X12_next_85 : mj_dec prog_14_method_73_code 85 = some (.if_icmp .lt 11, 3) := by decide +kernel
theorem dm_X12_next_88 : mj_dec prog_14_method_73_code 88 = some (.aload_n 0, 1) := by decide +kernel
theorem dm_X12_next_89 : mj_dec prog_14_method_73_code 89 = some (.iconst 0, 1) := by decide +kernel
theorem dm_X12_next_90 : mj_dec prog_14_method_73_code 90 = some (.putfield 380, 3) := by decide +kernel
theorem dm_X12_next_93 : mj_dec prog_14_method_73_code 93 = some (.goto 194, 3) := by decide +kernel
theorem dm_X12_next_96 : mj_dec prog_14_method_73_code 96 = some (.aload_n 0, 1) := by decide +kernel
theorem dm_X12_next_97 : mj_dec prog_14_method_73_code 97 = some (.aload_n 0, 1) := by decide +kernel
theorem dm_X12_next_98 : mj_dec prog_14_method_73_code 98 = some (.getfield 383, 3) := by decide +kernel
theorem dm_X12_next_101 : mj_dec prog_14_method_73_code 101 = some (.invokevirtual 389, 3) := by decide +kernel
theorem dm_X12_next_104 : mj_dec prog_14_method_73_code 104 = some (.ifCond .ne 22, 3) := by decide +kernel
theorem dm_X12_next_107 : mj_dec prog_14_method_73_code 107 = some (.iload_n 1, 1) := by decide +kernel
theorem dm_X12_next_108 : mj_dec prog_14_method_73_code 108 = some (.bipush 95, 2) := by decide +kernel
theorem dm_X12_next_110 : mj_dec prog_14_method_73_code 110 = some (.if_icmp .ne 34, 3) := by decide +kernel
theorem dm_X12_next_113 : mj_dec prog_14_method_73_code 113 = some (.aload_n 0, 1) := by decide +kernel
theorem dm_X12_next_114 : mj_dec prog_14_method_73_code 114 = some (.aload_n 0, 1) := by decide +kernel
theorem dm_X12_next_115 : mj_dec prog_14_method_73_code 115 = some (.getfield 383, 3) := by decide +kernel
theorem dm_X12_next_118 : mj_dec prog_14_method_73_code 118 = some (.iconst 1, 1) := by decide +kernel
theorem dm_X12_next_119 : mj_dec prog_14_method_73_code 119 = some (.iadd, 1) := by decide +kernel
theorem dm_X12_next_120 : mj_dec prog_14_method_73_code 120 = some (.invokevirtual 389, 3) := by decide +kernel
theorem dm_X12_next_123 : mj_dec prog_14_method_73_code 123 = some (.ifCond .eq 21, 3) := by decide +kernel
theorem dm_X12_next_126 : mj_dec prog_14_method_73_code 126 = some (.aload_n 0, 1) := by decide +kernel
theorem dm_X12_next_127 : mj_dec prog_14_method_73_code 127 = some (.iload_n 1, 1) := by decide +kernel
theorem dm_X12_next_128 : mj_dec prog_14_method_73_code 128 = some (.bipush 95, 2) := by decide +kernel
theorem dm_X12_next_130 : mj_dec prog_14_method_73_code 130 = some (.if_icmp .ne 7, 3) := by decide +kernel
theorem dm_X12_next_133 : mj_dec prog_14_method_73_code 133 = some (.iconst 1, 1) := by decide +kernel
theorem dm_X12_next_134 : mj_dec prog_14_method_73_code 134 = some (.goto 4, 3) := by decide +kernel
theorem dm_X12_next_137 : mj_dec prog_14_method_73_code 137 = some (.iconst 0, 1) := by decide +kernel
theorem dm_X12_next_138 : mj_dec prog_14_method_73_code 138 = some (.invokevirtual 392, 3) := by decide +kernel
theorem dm_X12_next_141 : mj_dec prog_14_method_73_code 141 = some (.goto 146, 3) := by decide +kernel
theorem dm_X12_next_144 : mj_dec prog_14_method_73_code 144 = some (.aload_n 0, 1) := by decide +kernel
theorem dm_X12_next_145 : mj_dec prog_14_method_73_code 145 = some (.aload_n 0, 1) := by decide +kernel
theorem dm_X12_next_146 : mj_dec prog_14_method_73_code 146 = some (.getfield 383, 3) := by decide +kernel
theorem dm_X12_next_149 : mj_dec prog_14_method_73_code 149 = some (.invokevirtual 396, 3) := by decide +kernel
theorem dm_X12_next_152 : mj_dec prog_14_method_73_code 152 = some (.ifCond .eq 10, 3) := by decide +kernel
theorem dm_X12_next_155 : mj_dec prog_14_method_73_code 155 = some (.aload_n 0, 1) := by decide +kernel
theorem dm_X12_next_156 : mj_dec prog_14_method_73_code 156 = some (.invokevirtual 399, 3) := by decide +kernel
theorem dm_X12_next_159 : mj_dec prog_14_method_73_code 159 = some (.goto 128, 3) := by decide +kernel
theorem dm_X12_next_162 : mj_dec prog_14_method_73_code 162 = some (.iload_n 1, 1) := by decide +kernel
theorem dm_X12_next_163 : mj_dec prog_14_method_73_code 163 = some (.bipush 39, 2) := by decide +kernel
theorem dm_X12_next_165 : mj_dec prog_14_method_73_code 165 = some (.if_icmp .ne 21, 3) := by decide +kernel
theorem dm_X12_next_168 : mj_dec prog_14_method_73_code 168 = some (.aload_n 0, 1) := by decide +kernel
theorem dm_X12_next_169 : mj_dec prog_14_method_73_code 169 = some (.getfield 402, 3) := by decide +kernel
theorem dm_X12_next_172 : mj_dec prog_14_method_73_code 172 = some (.aload_n 0, 1) := by decide +kernel
theorem dm_X12_next_173 : mj_dec prog_14_method_73_code 173 = some (.getfield 383, 3) := by decide +kernel
theorem dm_X12_next_176 : mj_dec prog_14_method_73_code 176 = some (.if_icmp .eq 10, 3) := by decide +kernel
theorem dm_X12_next_179 : mj_dec prog_14_method_73_code 179 = some (.aload_n 0, 1) := by decide +kernel
theorem dm_X12_next_180 : mj_dec prog_14_method_73_code 180 = some (.invokevirtual 405, 3) := by decide +kernel
theorem dm_X12_next_183 : mj_dec prog_14_method_73_code 183 = some (.goto 104, 3) := by decide +kernel
theorem dm_X12_next_186 : mj_dec prog_14_method_73_code 186 = some (.aload_n 0, 1) := by decide +kernel
theorem dm_X12_next_187 : mj_dec prog_14_method_73_code 187 = some (.iload_n 1, 1) := by decide +kernel
theorem dm_X12_next_188 : mj_dec prog_14_method_73_code 188 = some (.bipush 39, 2) := by decide +kernel
theorem dm_X12_next_190 : mj_dec prog_14_method_73_code 190 = some (.if_icmp .eq 15, 3) := by decide +kernel
theorem dm_X12_next_193 : mj_dec prog_14_method_73_code 193 = some (.iload_n 1, 1) := by decide +kernel
theorem dm_X12_next_194 : mj_dec prog_14_method_73_code 194 = some (.bipush 47, 2) := by decide +kernel
theorem dm_X12_next_196 : mj_dec prog_14_method_73_code 196 = some (.if_icmp .eq 9, 3) := by decide +kernel
theorem dm_X12_next_199 : mj_dec prog_14_method_73_code 199 = some (.iload_n 1, 1) := by decide +kernel
theorem dm_X12_next_200 : mj_dec prog_14_method_73_code 200 = some (.bipush 92, 2) := by decide +kernel
theorem dm_X12_next_202 : mj_dec prog_14_method_73_code 202 = some (.if_icmp .ne 8, 3) := by decide +kernel
theorem dm_X12_next_205 : mj_dec prog_14_method_73_code 205 = some (.bipush 6, 2) := by decide +kernel
theorem dm_X12_next_207 : mj_dec prog_14_method_73_code 207 = some (.goto 28, 3) := by decide +kernel
theorem dm_X12_next_210 : mj_dec prog_14_method_73_code 210 = some (.iload_n 1, 1) := by decide +kernel
theorem dm_X12_next_211 : mj_dec prog_14_method_73_code 211 = some (.invokestatic 408, 3) := by decide +kernel
theorem dm_X12_next_214 : mj_dec prog_14_method_73_code 214 = some (.ifCond .eq 8, 3) := by decide +kernel
theorem dm_X12_next_217 : mj_dec prog_14_method_73_code 217 = some (.bipush 7, 2) := by decide +kernel
theorem dm_X12_next_219 : mj_dec prog_14_method_73_code 219 = some (.goto 16, 3) := by decide +kernel
theorem dm_X12_next_222 : mj_dec prog_14_method_73_code 222 = some (.iload_n 1, 1) := by decide +kernel
theorem dm_X12_next_223 : mj_dec prog_14_method_73_code 223 = some (.invokestatic 411, 3) := by decide +kernel
theorem dm_X12_next_226 : mj_dec prog_14_method_73_code 226 = some (.ifCond .eq 7, 3) := by decide +kernel
theorem dm_X12_next_229 : mj_dec prog_14_method_73_code 229 = some (.iconst 5, 1) := by decide +kernel
theorem dm_X12_next_230 : mj_dec prog_14_method_73_code 230 = some (.goto 5, 3) := by decide +kernel
theorem dm_X12_next_233 : mj_dec prog_14_method_73_code 233 = some (.bipush 8, 2) := by decide +kernel
theorem dm_X12_next_235 : mj_dec prog_14_method_73_code 235 = some (.putfield 380, 3) := by decide +kernel
theorem dm_X12_next_238 : mj_dec prog_14_method_73_code 238 = some (.aload_n 0, 1) := by decide +kernel
theorem dm_X12_next_239 : mj_dec prog_14_method_73_code 239 = some (.iload_n 1, 1) := by decide +kernel
theorem dm_X12_next_240 : mj_dec prog_14_method_73_code 240 = some (.putfield 414, 3) := by decide +kernel
theorem dm_X12_next_243 : mj_dec prog_14_method_73_code 243 = some (.aload_n 0, 1) := by decide +kernel
theorem dm_X12_next_244 : mj_dec prog_14_method_73_code 244 = some (.getfield 380, 3) := by decide +kernel
theorem dm_X12_next_247 : mj_dec prog_14_method_73_code 247 = some (.bipush 8, 2) := by decide +kernel
theorem dm_X12_next_249 : mj_dec prog_14_method_73_code 249 = some (.if_icmp .eq 13, 3) := by decide +kernel
theorem dm_X12_next_252 : mj_dec prog_14_method_73_code 252 = some (.aload_n 0, 1) := by decide +kernel
theorem dm_X12_next_253 : mj_dec prog_14_method_73_code 253 = some (.dup, 1) := by decide +kernel
theorem dm_X12_next_254 : mj_dec prog_14_method_73_code 254 = some (.getfield 383, 3) := by decide +kernel
theorem dm_X12_next_257 : mj_dec prog_14_method_73_code 257 = some (.iconst 1, 1) := by decide +kernel
theorem dm_X12_next_258 : mj_dec prog_14_method_73_code 258 = some (.iadd, 1) := by decide +kernel
theorem dm_X12_next_259 : mj_dec prog_14_method_73_code 259 = some (.putfield 383, 3) := by decide +kernel
theorem dm_X12_next_262 : mj_dec prog_14_method_73_code 262 = some (.aload_n 0, 1) := by decide +kernel
theorem dm_X12_next_263 : mj_dec prog_14_method_73_code 263 = some (.getfield 380, 3) := by decide +kernel
theorem dm_X12_next_266 : mj_dec prog_14_method_73_code 266 = some (.bipush 6, 2) := by decide +kernel
theorem dm_X12_next_268 : mj_dec prog_14_method_73_code 268 = some (.if_icmp .eq 11, 3) := by decide +kernel
theorem dm_X12_next_271 : mj_dec prog_14_method_73_code 271 = some (.aload_n 0, 1) := by decide +kernel
theorem dm_X12_next_272 : mj_dec prog_14_method_73_code 272 = some (.getfield 380, 3) := by decide +kernel
theorem dm_X12_next_275 : mj_dec prog_14_method_73_code 275 = some (.iconst 5, 1) := by decide +kernel
theorem dm_X12_next_276 : mj_dec prog_14_method_73_code 276 = some (.if_icmp .ne 11, 3) := by decide +kernel
theorem dm_X12_next_279 : mj_dec prog_14_method_73_code 279 = some (.aload_n 0, 1) := by decide +kernel
theorem dm_X12_next_280 : mj_dec prog_14_method_73_code 280 = some (.aload_n 0, 1) := by decide +kernel
theorem dm_X12_next_281 : mj_dec prog_14_method_73_code 281 = some (.getfield 383, 3) := by decide +kernel
theorem dm_X12_next_284 : mj_dec prog_14_method_73_code 284 = some (.putfield 402, 3) := by decide +kernel
theorem dm_X12_next_287 : mj_dec prog_14_method_73_code 287 = some (.return_, 1) := by decide +kernel
theorem r_next_ {xt : mj_X} {d : Nat} {pre post : mj_H} {s : RS} {bf : Nat → Int} {ln : Nat} (hm : pre.length = 102) (hd : 4 ≤ d) (hP : tpR s bf ln) {q : Nat × Nat} {fn : Int → Bool} {n m : Nat} (hvn : s.1 23 = (n : Int)) (hfn : s.1 24 = (m : Int)) (hn40 : n ≤ 40) (hm2 : m ≤ 40) (hfn9 : ∀ p, p < ln → isLtI (bf p) → (fn (ckI bf p (rnL ltB bf ln 8 p)) = true ↔ fnR s m (Int64.ofInt (rkI bf p (rnL ltB bf ln 8 p))))) (hq : rtQ bf ln s q) : pgN xt d 205 [.ref 102] (rS pre post s) (fun h' => ∃ t, h' = rS pre post t ∧ rtk s t ∧ rtP bf ln t q (tkA bf ln fn q)) := by
  obtain ⟨a, h35, hqa, hal, hbl, h36, h37, hac, h37n⟩ := id hq
  have h36r : 0 ≤ s.1 36 ∧ s.1 36 ≤ 1 := by rw [h36]; exact zi_r _
  clear h36
  have hln := hP.2.1
  refine x_enter pm_X12_next (L0 := [(0, .ref 102)]) rfl (Nat.le_of_ble_eq_true rfl) (by omega) ?_
  refine me1 (pc' := 1) (L' := [(0, .ref 102)]) (S' := [.ref 102]) dm_X12_next_0 rfl rfl rfl rfl ?_
  refine me3 (pc' := 4) (S' := [ii (s.1 36)]) dm_X12_next_1 (q_geti (v := s.1 36) hm rfl (fun m i l => rg_36 m i l) rfl) rfl rfl rfl ?_
  refine y_1eq (a := s.1 36) (t := 22) (pc' := 7) dm_X12_next_4 rfl rfl (by omega) (fun hb1 => ?_) (fun hb1 => ?_)
  · have h0 : s.1 36 = 0 := by omega
    have lp22 : ∀ (n22 : Nat) (b : Nat) (t : RS), ln - b = n22 → (q.1 ≤ b) → (b ≤ ln) → (blR bf q.1 b) → (blL s t b) → pgE xt (d - 1) 12 2 false (Option.none : Option Jvm.ClassFile.FieldType) (mj_dec prog_14_method_73_code) 22 [(0, .ref 102)] [] (rI pre post t.1 t.2.1 t.2.2.1 t.2.2.2) (fun r h' => r = none ∧ ∃ t, h' = rS pre post t ∧ rtk s t ∧ rtP bf ln t q (tkA bf ln fn q)) := by
      intro n22
      induction n22 using Nat.strongRecOn with
      | ind n22 ih22 =>
        intro b t hm22 hqb hbn hbb hl
        obtain ⟨l1, l2, l3, l4⟩ := id hl
        have hPt := tpR_k hP l1
        have h34 : t.1 34 = (ln : Int) := hPt.1
        have hjb : t.2.2.1 32 (t.1 35).toNat % 256 = bf b := by rw [show (t.1 35).toNat = b by omega]; exact hPt.2.2.2 b
        have hjr := hPt.2.2.1 (t.1 35).toNat
        have hbr : 0 ≤ bf b ∧ bf b ≤ 255 := by omega
        have hA0 := byO_A (bf := bf) (ln := ln) (i := b)
        have hA1 := byO_A (bf := bf) (ln := ln) (i := b + 1)
        refine me1 (pc' := 23) (L' := [(0, .ref 102)]) (S' := [.ref 102]) dm_X12_next_22 rfl rfl rfl rfl ?_
        refine me3 (pc' := 26) (S' := [ii (t.1 35)]) dm_X12_next_23 (q_geti (v := t.1 35) hm rfl (fun m i l => rg_35 m i l) rfl) rfl rfl rfl ?_
        refine me1 (pc' := 27) (L' := [(0, .ref 102)]) (S' := [.ref 102, ii (t.1 35)]) dm_X12_next_26 rfl rfl rfl rfl ?_
        refine me3 (pc' := 30) (S' := [ii (t.1 34), ii (t.1 35)]) dm_X12_next_27 (q_geti (v := t.1 34) hm rfl (fun m i l => rg_34 m i l) rfl) rfl rfl rfl ?_
        refine y_2ge (a := t.1 35) (b := t.1 34) (t := 60) (pc' := 33) dm_X12_next_30 rfl rfl (by omega) (fun hb2 => ?_) (fun hb2 => ?_)
        · have hsk : skB bf ln q.1 = b := skB_eq hqb hbn hbb (fun z => by omega)
          refine me1 (pc' := 61) (L' := [(0, .ref 102)]) (S' := [.ref 102]) dm_X12_next_60 rfl rfl rfl rfl ?_
          refine me1 (pc' := 62) (L' := [(0, .ref 102)]) (S' := [.ref 102, .ref 102]) dm_X12_next_61 rfl rfl rfl rfl ?_
          refine me3 (pc' := 65) (S' := [ii (t.1 35), .ref 102]) dm_X12_next_62 (q_geti (v := t.1 35) hm rfl (fun m i l => rg_35 m i l) rfl) rfl rfl rfl ?_
          refine me3 (pc' := 68) (S' := []) (h1 := rI pre post (va_up t.1 39 (t.1 35)) t.2.1 t.2.2.1 t.2.2.2) dm_X12_next_65 (q_puti hm rfl rfl (fun m i l v => rf_39 m i l v)) rfl rfl rfl ?_
          refine me1 (pc' := 69) (L' := [(0, .ref 102)]) (S' := [.ref 102]) dm_X12_next_68 rfl rfl rfl rfl ?_
          refine me1 (pc' := 70) (L' := [(0, .ref 102)]) (S' := [.ref 102, .ref 102]) dm_X12_next_69 rfl rfl rfl rfl ?_
          refine me3 (pc' := 73) (S' := [ii (t.1 35), .ref 102]) dm_X12_next_70 (q_geti (v := t.1 35) hm rfl (fun m i l => rg_35 m i l) rfl) rfl rfl rfl ?_
          have hy1P : tpR (va_up t.1 39 (t.1 35), t.2.1, t.2.2.1, t.2.2.2) bf ln := tpR_k hP (rtk_i (j := 39) (by decide) (l1))
          have hy1r := byR_r (va_up t.1 39 (t.1 35), t.2.1, t.2.2.1, t.2.2.2) (t.1 35)
          have hy1 : byR (va_up t.1 39 (t.1 35), t.2.1, t.2.2.1, t.2.2.2) (t.1 35) = byO bf ln b := by rw [show (t.1 35 : Int) = ((b : Nat) : Int) by first | rfl | omega]; exact tpR_by hy1P
          refine x_cp (pc' := 76) (v := ii (byR (va_up t.1 39 (t.1 35), t.2.1, t.2.2.1, t.2.2.2) (t.1 35))) (rest := []) dm_X12_next_73 rfl (q_inv (As := [ii (t.1 35)]) (S := []) hm rfl rfl rfl) rfl rfl rfl (r_byteAt_ (s := (va_up t.1 39 (t.1 35), t.2.1, t.2.2.1, t.2.2.2)) (i := t.1 35) hm (by omega) (by omega) (by have := hy1P.1; have := hy1P.2.1; omega) hy1P.2.2.1) ?_
          refine me1 (pc' := 77) (L' := [(1, ii (byR (va_up t.1 39 (t.1 35), t.2.1, t.2.2.1, t.2.2.2) (t.1 35))), (0, .ref 102)]) (S' := []) dm_X12_next_76 rfl rfl rfl rfl ?_
          refine me1 (pc' := 78) (L' := [(1, ii (byR (va_up t.1 39 (t.1 35), t.2.1, t.2.2.1, t.2.2.2) (t.1 35))), (0, .ref 102)]) (S' := [.ref 102]) dm_X12_next_77 rfl rfl rfl rfl ?_
          refine me3 (pc' := 81) (S' := [ii (t.1 35)]) dm_X12_next_78 (q_geti (v := t.1 35) hm rfl (fun m i l => rg_35 m i l) rfl) rfl rfl rfl ?_
          refine me1 (pc' := 82) (L' := [(1, ii (byR (va_up t.1 39 (t.1 35), t.2.1, t.2.2.1, t.2.2.2) (t.1 35))), (0, .ref 102)]) (S' := [.ref 102, ii (t.1 35)]) dm_X12_next_81 rfl rfl rfl rfl ?_
          refine me3 (pc' := 85) (S' := [ii (t.1 34), ii (t.1 35)]) dm_X12_next_82 (q_geti (v := t.1 34) hm rfl (fun m i l => rg_34 m i l) rfl) rfl rfl rfl ?_
          refine y_2lt (a := t.1 35) (b := t.1 34) (t := 96) (pc' := 88) dm_X12_next_85 rfl rfl (by omega) (fun hb3 => ?_) (fun hb3 => ?_)
          · exfalso; omega
          · refine me1 (pc' := 89) (L' := [(1, ii (byR (va_up t.1 39 (t.1 35), t.2.1, t.2.2.1, t.2.2.2) (t.1 35))), (0, .ref 102)]) (S' := [.ref 102]) dm_X12_next_88 rfl rfl rfl rfl ?_
            refine me0 (pc' := 90) (S' := [ii 0, .ref 102]) dm_X12_next_89 rfl rfl rfl rfl ?_
            refine me3 (pc' := 93) (S' := []) (h1 := rI pre post (va_up (va_up t.1 39 (t.1 35)) 38 0) t.2.1 t.2.2.1 t.2.2.2) dm_X12_next_90 (q_puti hm rfl rfl (fun m i l v => rf_38 m i l v)) rfl rfl rfl ?_
            refine me2 (pc' := 287) (S' := []) dm_X12_next_93 rfl rfl rfl ?_
            refine y_ret (r := none) dm_X12_next_287 rfl rfl rfl ?_
            refine ⟨rfl, (va_up (va_up t.1 39 (t.1 35)) 38 0, t.2.1, t.2.2.1, t.2.2.2), rfl, rtk_i (j := 38) (by decide) (rtk_i (j := 39) (by decide) (l1)), ?_⟩
            exact rtP_8 hq (Or.inl rfl) (tkA_out hsk (by omega)) hbb hqb hbn rfl l2 l2 l3 l4
        · refine me1 (pc' := 34) (L' := [(0, .ref 102)]) (S' := [.ref 102]) dm_X12_next_33 rfl rfl rfl rfl ?_
          refine me3 (pc' := 37) (S' := [.ref (102 + 17)]) dm_X12_next_34 (q_getr hm rfl (fun m i l => rg_32 m i l)) rfl rfl rfl ?_
          refine me1 (pc' := 38) (L' := [(0, .ref 102)]) (S' := [.ref 102, .ref (102 + 17)]) dm_X12_next_37 rfl rfl rfl rfl ?_
          refine me3 (pc' := 41) (S' := [ii (t.1 35), .ref (102 + 17)]) dm_X12_next_38 (q_geti (v := t.1 35) hm rfl (fun m i l => rg_35 m i l) rfl) rfl rfl rfl ?_
          refine me3 (pc' := 42) (S' := [ii ((t.2.2.1 32) ((t.1 35).toNat))]) dm_X12_next_41 (q_bald (v := (t.2.2.1 32) ((t.1 35).toNat)) (k := 32) (n := 220) hm (fun m i l I J => rc_32 m i l I J) (by omega) (by omega) (by decide) rfl) rfl rfl rfl ?_
          refine me0 (pc' := 44) (S' := [ii 32, ii ((t.2.2.1 32) ((t.1 35).toNat))]) dm_X12_next_42 rfl rfl rfl rfl ?_
          refine y_2ne (a := (t.2.2.1 32) ((t.1 35).toNat)) (b := 32) (t := 60) (pc' := 47) dm_X12_next_44 rfl rfl (by omega) (fun hb4 => ?_) (fun hb4 => ?_)
          · have hsk : skB bf ln q.1 = b := skB_eq hqb hbn hbb (fun z => by omega)
            have hsi := sob_kI hbr.1 hbr.2
            refine me1 (pc' := 61) (L' := [(0, .ref 102)]) (S' := [.ref 102]) dm_X12_next_60 rfl rfl rfl rfl ?_
            refine me1 (pc' := 62) (L' := [(0, .ref 102)]) (S' := [.ref 102, .ref 102]) dm_X12_next_61 rfl rfl rfl rfl ?_
            refine me3 (pc' := 65) (S' := [ii (t.1 35), .ref 102]) dm_X12_next_62 (q_geti (v := t.1 35) hm rfl (fun m i l => rg_35 m i l) rfl) rfl rfl rfl ?_
            refine me3 (pc' := 68) (S' := []) (h1 := rI pre post (va_up t.1 39 (t.1 35)) t.2.1 t.2.2.1 t.2.2.2) dm_X12_next_65 (q_puti hm rfl rfl (fun m i l v => rf_39 m i l v)) rfl rfl rfl ?_
            refine me1 (pc' := 69) (L' := [(0, .ref 102)]) (S' := [.ref 102]) dm_X12_next_68 rfl rfl rfl rfl ?_
            refine me1 (pc' := 70) (L' := [(0, .ref 102)]) (S' := [.ref 102, .ref 102]) dm_X12_next_69 rfl rfl rfl rfl ?_
            refine me3 (pc' := 73) (S' := [ii (t.1 35), .ref 102]) dm_X12_next_70 (q_geti (v := t.1 35) hm rfl (fun m i l => rg_35 m i l) rfl) rfl rfl rfl ?_
            have hy1P : tpR (va_up t.1 39 (t.1 35), t.2.1, t.2.2.1, t.2.2.2) bf ln := tpR_k hP (rtk_i (j := 39) (by decide) (l1))
            have hy1r := byR_r (va_up t.1 39 (t.1 35), t.2.1, t.2.2.1, t.2.2.2) (t.1 35)
            have hy1 : byR (va_up t.1 39 (t.1 35), t.2.1, t.2.2.1, t.2.2.2) (t.1 35) = byO bf ln b := by rw [show (t.1 35 : Int) = ((b : Nat) : Int) by first | rfl | omega]; exact tpR_by hy1P
            refine x_cp (pc' := 76) (v := ii (byR (va_up t.1 39 (t.1 35), t.2.1, t.2.2.1, t.2.2.2) (t.1 35))) (rest := []) dm_X12_next_73 rfl (q_inv (As := [ii (t.1 35)]) (S := []) hm rfl rfl rfl) rfl rfl rfl (r_byteAt_ (s := (va_up t.1 39 (t.1 35), t.2.1, t.2.2.1, t.2.2.2)) (i := t.1 35) hm (by omega) (by omega) (by have := hy1P.1; have := hy1P.2.1; omega) hy1P.2.2.1) ?_
            refine me1 (pc' := 77) (L' := [(1, ii (byR (va_up t.1 39 (t.1 35), t.2.1, t.2.2.1, t.2.2.2) (t.1 35))), (0, .ref 102)]) (S' := []) dm_X12_next_76 rfl rfl rfl rfl ?_
            refine me1 (pc' := 78) (L' := [(1, ii (byR (va_up t.1 39 (t.1 35), t.2.1, t.2.2.1, t.2.2.2) (t.1 35))), (0, .ref 102)]) (S' := [.ref 102]) dm_X12_next_77 rfl rfl rfl rfl ?_
            refine me3 (pc' := 81) (S' := [ii (t.1 35)]) dm_X12_next_78 (q_geti (v := t.1 35) hm rfl (fun m i l => rg_35 m i l) rfl) rfl rfl rfl ?_
            refine me1 (pc' := 82) (L' := [(1, ii (byR (va_up t.1 39 (t.1 35), t.2.1, t.2.2.1, t.2.2.2) (t.1 35))), (0, .ref 102)]) (S' := [.ref 102, ii (t.1 35)]) dm_X12_next_81 rfl rfl rfl rfl ?_
            refine me3 (pc' := 85) (S' := [ii (t.1 34), ii (t.1 35)]) dm_X12_next_82 (q_geti (v := t.1 34) hm rfl (fun m i l => rg_34 m i l) rfl) rfl rfl rfl ?_
            refine y_2lt (a := t.1 35) (b := t.1 34) (t := 96) (pc' := 88) dm_X12_next_85 rfl rfl (by omega) (fun hb5 => ?_) (fun hb5 => ?_)
            · have hcb : byR (va_up t.1 39 (t.1 35), t.2.1, t.2.2.1, t.2.2.2) (t.1 35) = bf b := by omega
              have jn186 : (¬ (isDgI (bf b) ∨ isLtI (bf b))) → (¬ (bf b = 95 ∧ isDgI (byA bf ln ((b + 1 : Nat) : Int)))) → (bf b ≠ 39 ∨ s.1 37 = (b : Int)) → pgE xt (d - 1) 12 2 false (Option.none : Option Jvm.ClassFile.FieldType) (mj_dec prog_14_method_73_code) 186 [(0, .ref 102), (1, ii (byR (va_up t.1 39 (t.1 35), t.2.1, t.2.2.1, t.2.2.2) (t.1 35)))] [] (rI pre post (va_up t.1 39 (t.1 35)) t.2.1 t.2.2.1 t.2.2.2) (fun r h' => r = none ∧ ∃ t, h' = rS pre post t ∧ rtk s t ∧ rtP bf ln t q (tkA bf ln fn q)) := by
                intro g1 g2 g3
                clear hA0 hA1
                refine me1 (pc' := 187) (L' := [(0, .ref 102), (1, ii (byR (va_up t.1 39 (t.1 35), t.2.1, t.2.2.1, t.2.2.2) (t.1 35)))]) (S' := [.ref 102]) dm_X12_next_186 rfl rfl rfl rfl ?_
                refine me1 (pc' := 188) (L' := [(0, .ref 102), (1, ii (byR (va_up t.1 39 (t.1 35), t.2.1, t.2.2.1, t.2.2.2) (t.1 35)))]) (S' := [ii (byR (va_up t.1 39 (t.1 35), t.2.1, t.2.2.1, t.2.2.2) (t.1 35)), .ref 102]) dm_X12_next_187 rfl rfl rfl rfl ?_
                refine me0 (pc' := 190) (S' := [ii 39, ii (byR (va_up t.1 39 (t.1 35), t.2.1, t.2.2.1, t.2.2.2) (t.1 35)), .ref 102]) dm_X12_next_188 rfl rfl rfl rfl ?_
                refine y_2eq (a := byR (va_up t.1 39 (t.1 35), t.2.1, t.2.2.1, t.2.2.2) (t.1 35)) (b := 39) (t := 205) (pc' := 193) dm_X12_next_190 rfl rfl (by omega) (fun hb6 => ?_) (fun hb6 => ?_)
                · refine me0 (pc' := 207) (S' := [ii 6, .ref 102]) dm_X12_next_205 rfl rfl rfl rfl ?_
                  refine me2 (pc' := 235) (S' := [ii 6, .ref 102]) dm_X12_next_207 rfl rfl rfl ?_
                  refine me3 (pc' := 238) (S' := []) (h1 := rI pre post (va_up (va_up t.1 39 (t.1 35)) 38 6) t.2.1 t.2.2.1 t.2.2.2) dm_X12_next_235 (q_puti hm rfl rfl (fun m i l v => rf_38 m i l v)) rfl rfl rfl ?_
                  refine me1 (pc' := 239) (L' := [(0, .ref 102), (1, ii (byR (va_up t.1 39 (t.1 35), t.2.1, t.2.2.1, t.2.2.2) (t.1 35)))]) (S' := [.ref 102]) dm_X12_next_238 rfl rfl rfl rfl ?_
                  refine me1 (pc' := 240) (L' := [(0, .ref 102), (1, ii (byR (va_up t.1 39 (t.1 35), t.2.1, t.2.2.1, t.2.2.2) (t.1 35)))]) (S' := [ii (byR (va_up t.1 39 (t.1 35), t.2.1, t.2.2.1, t.2.2.2) (t.1 35)), .ref 102]) dm_X12_next_239 rfl rfl rfl rfl ?_
                  refine me3 (pc' := 243) (S' := []) (h1 := rI pre post (va_up (va_up (va_up t.1 39 (t.1 35)) 38 6) 40 (byR (va_up t.1 39 (t.1 35), t.2.1, t.2.2.1, t.2.2.2) (t.1 35))) t.2.1 t.2.2.1 t.2.2.2) dm_X12_next_240 (q_puti hm rfl rfl (fun m i l v => rf_40 m i l v)) rfl rfl rfl ?_
                  refine me1 (pc' := 244) (L' := [(0, .ref 102), (1, ii (byR (va_up t.1 39 (t.1 35), t.2.1, t.2.2.1, t.2.2.2) (t.1 35)))]) (S' := [.ref 102]) dm_X12_next_243 rfl rfl rfl rfl ?_
                  refine me3 (pc' := 247) (S' := [ii 6]) dm_X12_next_244 (q_geti (v := 6) hm rfl (fun m i l => rg_38 m i l) rfl) rfl rfl rfl ?_
                  refine me0 (pc' := 249) (S' := [ii 8, ii 6]) dm_X12_next_247 rfl rfl rfl rfl ?_
                  refine me_2f (pc' := 252) dm_X12_next_249 rfl (by decide) rfl ?_
                  refine me1 (pc' := 253) (L' := [(0, .ref 102), (1, ii (byR (va_up t.1 39 (t.1 35), t.2.1, t.2.2.1, t.2.2.2) (t.1 35)))]) (S' := [.ref 102]) dm_X12_next_252 rfl rfl rfl rfl ?_
                  refine me0 (pc' := 254) (S' := [.ref 102, .ref 102]) dm_X12_next_253 rfl rfl rfl rfl ?_
                  refine me3 (pc' := 257) (S' := [ii (t.1 35), .ref 102]) dm_X12_next_254 (q_geti (v := t.1 35) hm rfl (fun m i l => rg_35 m i l) rfl) rfl rfl rfl ?_
                  refine me0 (pc' := 258) (S' := [ii 1, ii (t.1 35), .ref 102]) dm_X12_next_257 rfl rfl rfl rfl ?_
                  refine y_iadd (a := t.1 35) (b := 1) dm_X12_next_258 (pc' := 259) rfl ?_
                  refine me3 (pc' := 262) (S' := []) (h1 := rI pre post (va_up (va_up (va_up (va_up t.1 39 (t.1 35)) 38 6) 40 (byR (va_up t.1 39 (t.1 35), t.2.1, t.2.2.1, t.2.2.2) (t.1 35))) 35 ((t.1 35) + 1)) t.2.1 t.2.2.1 t.2.2.2) dm_X12_next_259 (q_puti hm rfl rfl (fun m i l v => rf_35 m i l v)) rfl rfl rfl ?_
                  refine me1 (pc' := 263) (L' := [(0, .ref 102), (1, ii (byR (va_up t.1 39 (t.1 35), t.2.1, t.2.2.1, t.2.2.2) (t.1 35)))]) (S' := [.ref 102]) dm_X12_next_262 rfl rfl rfl rfl ?_
                  refine me3 (pc' := 266) (S' := [ii 6]) dm_X12_next_263 (q_geti (v := 6) hm rfl (fun m i l => rg_38 m i l) rfl) rfl rfl rfl ?_
                  refine me0 (pc' := 268) (S' := [ii 6, ii 6]) dm_X12_next_266 rfl rfl rfl rfl ?_
                  refine me_2t (pc' := 279) dm_X12_next_268 rfl (by decide) ?_
                  refine me1 (pc' := 280) (L' := [(0, .ref 102), (1, ii (byR (va_up t.1 39 (t.1 35), t.2.1, t.2.2.1, t.2.2.2) (t.1 35)))]) (S' := [.ref 102]) dm_X12_next_279 rfl rfl rfl rfl ?_
                  refine me1 (pc' := 281) (L' := [(0, .ref 102), (1, ii (byR (va_up t.1 39 (t.1 35), t.2.1, t.2.2.1, t.2.2.2) (t.1 35)))]) (S' := [.ref 102, .ref 102]) dm_X12_next_280 rfl rfl rfl rfl ?_
                  refine me3 (pc' := 284) (S' := [ii ((t.1 35) + 1), .ref 102]) dm_X12_next_281 (q_geti (v := (t.1 35) + 1) hm rfl (fun m i l => rg_35 m i l) rfl) rfl rfl rfl ?_
                  refine me3 (pc' := 287) (S' := []) (h1 := rI pre post (va_up (va_up (va_up (va_up (va_up t.1 39 (t.1 35)) 38 6) 40 (byR (va_up t.1 39 (t.1 35), t.2.1, t.2.2.1, t.2.2.2) (t.1 35))) 35 ((t.1 35) + 1)) 37 ((t.1 35) + 1)) t.2.1 t.2.2.1 t.2.2.2) dm_X12_next_284 (q_puti hm rfl rfl (fun m i l v => rf_37 m i l v)) rfl rfl rfl ?_
                  refine y_ret (r := none) dm_X12_next_287 rfl rfl rfl ?_
                  refine ⟨rfl, (va_up (va_up (va_up (va_up (va_up t.1 39 (t.1 35)) 38 6) 40 (byR (va_up t.1 39 (t.1 35), t.2.1, t.2.2.1, t.2.2.2) (t.1 35))) 35 ((t.1 35) + 1)) 37 ((t.1 35) + 1), t.2.1, t.2.2.1, t.2.2.2), rfl, rtk_i (j := 37) (by decide) (rtk_i (j := 35) (by decide) (rtk_i (j := 40) (by decide) (rtk_i (j := 38) (by decide) (rtk_i (j := 39) (by decide) (l1))))), ?_⟩
                  exact rtP_sig (c := 6) hq h0 hsk hqb (by omega) g1 g2 g3 (by rw [hsi]; first | (rw [if_pos (by omega)]; rfl) | (rw [if_neg (by omega), if_pos (by assumption)]; rfl) | (rw [if_neg (by omega), if_neg (by assumption), if_pos (by assumption)]; rfl) | (rw [if_neg (by omega), if_neg (by assumption), if_neg (by assumption)])) (by decide) rfl l2 hcb (show t.1 35 + 1 = _ by omega) l3 (Or.inr ⟨by decide, (show t.1 35 + 1 = _ by omega)⟩)
                · refine me1 (pc' := 194) (L' := [(0, .ref 102), (1, ii (byR (va_up t.1 39 (t.1 35), t.2.1, t.2.2.1, t.2.2.2) (t.1 35)))]) (S' := [ii (byR (va_up t.1 39 (t.1 35), t.2.1, t.2.2.1, t.2.2.2) (t.1 35)), .ref 102]) dm_X12_next_193 rfl rfl rfl rfl ?_
                  refine me0 (pc' := 196) (S' := [ii 47, ii (byR (va_up t.1 39 (t.1 35), t.2.1, t.2.2.1, t.2.2.2) (t.1 35)), .ref 102]) dm_X12_next_194 rfl rfl rfl rfl ?_
                  refine y_2eq (a := byR (va_up t.1 39 (t.1 35), t.2.1, t.2.2.1, t.2.2.2) (t.1 35)) (b := 47) (t := 205) (pc' := 199) dm_X12_next_196 rfl rfl (by omega) (fun hb7 => ?_) (fun hb7 => ?_)
                  · refine me0 (pc' := 207) (S' := [ii 6, .ref 102]) dm_X12_next_205 rfl rfl rfl rfl ?_
                    refine me2 (pc' := 235) (S' := [ii 6, .ref 102]) dm_X12_next_207 rfl rfl rfl ?_
                    refine me3 (pc' := 238) (S' := []) (h1 := rI pre post (va_up (va_up t.1 39 (t.1 35)) 38 6) t.2.1 t.2.2.1 t.2.2.2) dm_X12_next_235 (q_puti hm rfl rfl (fun m i l v => rf_38 m i l v)) rfl rfl rfl ?_
                    refine me1 (pc' := 239) (L' := [(0, .ref 102), (1, ii (byR (va_up t.1 39 (t.1 35), t.2.1, t.2.2.1, t.2.2.2) (t.1 35)))]) (S' := [.ref 102]) dm_X12_next_238 rfl rfl rfl rfl ?_
                    refine me1 (pc' := 240) (L' := [(0, .ref 102), (1, ii (byR (va_up t.1 39 (t.1 35), t.2.1, t.2.2.1, t.2.2.2) (t.1 35)))]) (S' := [ii (byR (va_up t.1 39 (t.1 35), t.2.1, t.2.2.1, t.2.2.2) (t.1 35)), .ref 102]) dm_X12_next_239 rfl rfl rfl rfl ?_
                    refine me3 (pc' := 243) (S' := []) (h1 := rI pre post (va_up (va_up (va_up t.1 39 (t.1 35)) 38 6) 40 (byR (va_up t.1 39 (t.1 35), t.2.1, t.2.2.1, t.2.2.2) (t.1 35))) t.2.1 t.2.2.1 t.2.2.2) dm_X12_next_240 (q_puti hm rfl rfl (fun m i l v => rf_40 m i l v)) rfl rfl rfl ?_
                    refine me1 (pc' := 244) (L' := [(0, .ref 102), (1, ii (byR (va_up t.1 39 (t.1 35), t.2.1, t.2.2.1, t.2.2.2) (t.1 35)))]) (S' := [.ref 102]) dm_X12_next_243 rfl rfl rfl rfl ?_
                    refine me3 (pc' := 247) (S' := [ii 6]) dm_X12_next_244 (q_geti (v := 6) hm rfl (fun m i l => rg_38 m i l) rfl) rfl rfl rfl ?_
                    refine me0 (pc' := 249) (S' := [ii 8, ii 6]) dm_X12_next_247 rfl rfl rfl rfl ?_
                    refine me_2f (pc' := 252) dm_X12_next_249 rfl (by decide) rfl ?_
                    refine me1 (pc' := 253) (L' := [(0, .ref 102), (1, ii (byR (va_up t.1 39 (t.1 35), t.2.1, t.2.2.1, t.2.2.2) (t.1 35)))]) (S' := [.ref 102]) dm_X12_next_252 rfl rfl rfl rfl ?_
                    refine me0 (pc' := 254) (S' := [.ref 102, .ref 102]) dm_X12_next_253 rfl rfl rfl rfl ?_
                    refine me3 (pc' := 257) (S' := [ii (t.1 35), .ref 102]) dm_X12_next_254 (q_geti (v := t.1 35) hm rfl (fun m i l => rg_35 m i l) rfl) rfl rfl rfl ?_
                    refine me0 (pc' := 258) (S' := [ii 1, ii (t.1 35), .ref 102]) dm_X12_next_257 rfl rfl rfl rfl ?_
                    refine y_iadd (a := t.1 35) (b := 1) dm_X12_next_258 (pc' := 259) rfl ?_
                    refine me3 (pc' := 262) (S' := []) (h1 := rI pre post (va_up (va_up (va_up (va_up t.1 39 (t.1 35)) 38 6) 40 (byR (va_up t.1 39 (t.1 35), t.2.1, t.2.2.1, t.2.2.2) (t.1 35))) 35 ((t.1 35) + 1)) t.2.1 t.2.2.1 t.2.2.2) dm_X12_next_259 (q_puti hm rfl rfl (fun m i l v => rf_35 m i l v)) rfl rfl rfl ?_
                    refine me1 (pc' := 263) (L' := [(0, .ref 102), (1, ii (byR (va_up t.1 39 (t.1 35), t.2.1, t.2.2.1, t.2.2.2) (t.1 35)))]) (S' := [.ref 102]) dm_X12_next_262 rfl rfl rfl rfl ?_
                    refine me3 (pc' := 266) (S' := [ii 6]) dm_X12_next_263 (q_geti (v := 6) hm rfl (fun m i l => rg_38 m i l) rfl) rfl rfl rfl ?_
                    refine me0 (pc' := 268) (S' := [ii 6, ii 6]) dm_X12_next_266 rfl rfl rfl rfl ?_
                    refine me_2t (pc' := 279) dm_X12_next_268 rfl (by decide) ?_
                    refine me1 (pc' := 280) (L' := [(0, .ref 102), (1, ii (byR (va_up t.1 39 (t.1 35), t.2.1, t.2.2.1, t.2.2.2) (t.1 35)))]) (S' := [.ref 102]) dm_X12_next_279 rfl rfl rfl rfl ?_
                    refine me1 (pc' := 281) (L' := [(0, .ref 102), (1, ii (byR (va_up t.1 39 (t.1 35), t.2.1, t.2.2.1, t.2.2.2) (t.1 35)))]) (S' := [.ref 102, .ref 102]) dm_X12_next_280 rfl rfl rfl rfl ?_
                    refine me3 (pc' := 284) (S' := [ii ((t.1 35) + 1), .ref 102]) dm_X12_next_281 (q_geti (v := (t.1 35) + 1) hm rfl (fun m i l => rg_35 m i l) rfl) rfl rfl rfl ?_
                    refine me3 (pc' := 287) (S' := []) (h1 := rI pre post (va_up (va_up (va_up (va_up (va_up t.1 39 (t.1 35)) 38 6) 40 (byR (va_up t.1 39 (t.1 35), t.2.1, t.2.2.1, t.2.2.2) (t.1 35))) 35 ((t.1 35) + 1)) 37 ((t.1 35) + 1)) t.2.1 t.2.2.1 t.2.2.2) dm_X12_next_284 (q_puti hm rfl rfl (fun m i l v => rf_37 m i l v)) rfl rfl rfl ?_
                    refine y_ret (r := none) dm_X12_next_287 rfl rfl rfl ?_
                    refine ⟨rfl, (va_up (va_up (va_up (va_up (va_up t.1 39 (t.1 35)) 38 6) 40 (byR (va_up t.1 39 (t.1 35), t.2.1, t.2.2.1, t.2.2.2) (t.1 35))) 35 ((t.1 35) + 1)) 37 ((t.1 35) + 1), t.2.1, t.2.2.1, t.2.2.2), rfl, rtk_i (j := 37) (by decide) (rtk_i (j := 35) (by decide) (rtk_i (j := 40) (by decide) (rtk_i (j := 38) (by decide) (rtk_i (j := 39) (by decide) (l1))))), ?_⟩
                    exact rtP_sig (c := 6) hq h0 hsk hqb (by omega) g1 g2 g3 (by rw [hsi]; first | (rw [if_pos (by omega)]; rfl) | (rw [if_neg (by omega), if_pos (by assumption)]; rfl) | (rw [if_neg (by omega), if_neg (by assumption), if_pos (by assumption)]; rfl) | (rw [if_neg (by omega), if_neg (by assumption), if_neg (by assumption)])) (by decide) rfl l2 hcb (show t.1 35 + 1 = _ by omega) l3 (Or.inr ⟨by decide, (show t.1 35 + 1 = _ by omega)⟩)
                  · refine me1 (pc' := 200) (L' := [(0, .ref 102), (1, ii (byR (va_up t.1 39 (t.1 35), t.2.1, t.2.2.1, t.2.2.2) (t.1 35)))]) (S' := [ii (byR (va_up t.1 39 (t.1 35), t.2.1, t.2.2.1, t.2.2.2) (t.1 35)), .ref 102]) dm_X12_next_199 rfl rfl rfl rfl ?_
                    refine me0 (pc' := 202) (S' := [ii 92, ii (byR (va_up t.1 39 (t.1 35), t.2.1, t.2.2.1, t.2.2.2) (t.1 35)), .ref 102]) dm_X12_next_200 rfl rfl rfl rfl ?_
                    refine y_2ne (a := byR (va_up t.1 39 (t.1 35), t.2.1, t.2.2.1, t.2.2.2) (t.1 35)) (b := 92) (t := 210) (pc' := 205) dm_X12_next_202 rfl rfl (by omega) (fun hb8 => ?_) (fun hb8 => ?_)
                    · refine me1 (pc' := 211) (L' := [(0, .ref 102), (1, ii (byR (va_up t.1 39 (t.1 35), t.2.1, t.2.2.1, t.2.2.2) (t.1 35)))]) (S' := [ii (byR (va_up t.1 39 (t.1 35), t.2.1, t.2.2.1, t.2.2.2) (t.1 35)), .ref 102]) dm_X12_next_210 rfl rfl rfl rfl ?_
                      refine x_cp (pc' := 214) (v := zz (mrB (byR (va_up t.1 39 (t.1 35), t.2.1, t.2.2.1, t.2.2.2) (t.1 35)))) (rest := [.ref 102]) dm_X12_next_211 rfl (g_invs (As := [ii (byR (va_up t.1 39 (t.1 35), t.2.1, t.2.2.1, t.2.2.2) (t.1 35))]) (S := [.ref 102]) rfl rfl rfl) rfl rfl rfl (r_isMark_ (by omega) (by omega)) ?_
                      refine y_zeq (c := mrB (byR (va_up t.1 39 (t.1 35), t.2.1, t.2.2.1, t.2.2.2) (t.1 35))) (t := 222) (pc' := 217) dm_X12_next_214 rfl rfl (fun hb9 => ?_) (fun hb9 => ?_)
                      · rw [hcb] at hb9
                        replace hb9 := Bool.eq_false_iff.mp hb9
                        refine me1 (pc' := 223) (L' := [(0, .ref 102), (1, ii (byR (va_up t.1 39 (t.1 35), t.2.1, t.2.2.1, t.2.2.2) (t.1 35)))]) (S' := [ii (byR (va_up t.1 39 (t.1 35), t.2.1, t.2.2.1, t.2.2.2) (t.1 35)), .ref 102]) dm_X12_next_222 rfl rfl rfl rfl ?_
                        refine x_cp (pc' := 226) (v := zz (vrbB (byR (va_up t.1 39 (t.1 35), t.2.1, t.2.2.1, t.2.2.2) (t.1 35)))) (rest := [.ref 102]) dm_X12_next_223 rfl (g_invs (As := [ii (byR (va_up t.1 39 (t.1 35), t.2.1, t.2.2.1, t.2.2.2) (t.1 35))]) (S := [.ref 102]) rfl rfl rfl) rfl rfl rfl (r_isVerb_ (by omega) (by omega)) ?_
                        refine y_zeq (c := vrbB (byR (va_up t.1 39 (t.1 35), t.2.1, t.2.2.1, t.2.2.2) (t.1 35))) (t := 233) (pc' := 229) dm_X12_next_226 rfl rfl (fun hb10 => ?_) (fun hb10 => ?_)
                        · rw [hcb] at hb10
                          replace hb10 := Bool.eq_false_iff.mp hb10
                          refine me0 (pc' := 235) (S' := [ii 8, .ref 102]) dm_X12_next_233 rfl rfl rfl rfl ?_
                          refine me3 (pc' := 238) (S' := []) (h1 := rI pre post (va_up (va_up t.1 39 (t.1 35)) 38 8) t.2.1 t.2.2.1 t.2.2.2) dm_X12_next_235 (q_puti hm rfl rfl (fun m i l v => rf_38 m i l v)) rfl rfl rfl ?_
                          refine me1 (pc' := 239) (L' := [(0, .ref 102), (1, ii (byR (va_up t.1 39 (t.1 35), t.2.1, t.2.2.1, t.2.2.2) (t.1 35)))]) (S' := [.ref 102]) dm_X12_next_238 rfl rfl rfl rfl ?_
                          refine me1 (pc' := 240) (L' := [(0, .ref 102), (1, ii (byR (va_up t.1 39 (t.1 35), t.2.1, t.2.2.1, t.2.2.2) (t.1 35)))]) (S' := [ii (byR (va_up t.1 39 (t.1 35), t.2.1, t.2.2.1, t.2.2.2) (t.1 35)), .ref 102]) dm_X12_next_239 rfl rfl rfl rfl ?_
                          refine me3 (pc' := 243) (S' := []) (h1 := rI pre post (va_up (va_up (va_up t.1 39 (t.1 35)) 38 8) 40 (byR (va_up t.1 39 (t.1 35), t.2.1, t.2.2.1, t.2.2.2) (t.1 35))) t.2.1 t.2.2.1 t.2.2.2) dm_X12_next_240 (q_puti hm rfl rfl (fun m i l v => rf_40 m i l v)) rfl rfl rfl ?_
                          refine me1 (pc' := 244) (L' := [(0, .ref 102), (1, ii (byR (va_up t.1 39 (t.1 35), t.2.1, t.2.2.1, t.2.2.2) (t.1 35)))]) (S' := [.ref 102]) dm_X12_next_243 rfl rfl rfl rfl ?_
                          refine me3 (pc' := 247) (S' := [ii 8]) dm_X12_next_244 (q_geti (v := 8) hm rfl (fun m i l => rg_38 m i l) rfl) rfl rfl rfl ?_
                          refine me0 (pc' := 249) (S' := [ii 8, ii 8]) dm_X12_next_247 rfl rfl rfl rfl ?_
                          refine me_2t (pc' := 262) dm_X12_next_249 rfl (by decide) ?_
                          refine me1 (pc' := 263) (L' := [(0, .ref 102), (1, ii (byR (va_up t.1 39 (t.1 35), t.2.1, t.2.2.1, t.2.2.2) (t.1 35)))]) (S' := [.ref 102]) dm_X12_next_262 rfl rfl rfl rfl ?_
                          refine me3 (pc' := 266) (S' := [ii 8]) dm_X12_next_263 (q_geti (v := 8) hm rfl (fun m i l => rg_38 m i l) rfl) rfl rfl rfl ?_
                          refine me0 (pc' := 268) (S' := [ii 6, ii 8]) dm_X12_next_266 rfl rfl rfl rfl ?_
                          refine me_2f (pc' := 271) dm_X12_next_268 rfl (by decide) rfl ?_
                          refine me1 (pc' := 272) (L' := [(0, .ref 102), (1, ii (byR (va_up t.1 39 (t.1 35), t.2.1, t.2.2.1, t.2.2.2) (t.1 35)))]) (S' := [.ref 102]) dm_X12_next_271 rfl rfl rfl rfl ?_
                          refine me3 (pc' := 275) (S' := [ii 8]) dm_X12_next_272 (q_geti (v := 8) hm rfl (fun m i l => rg_38 m i l) rfl) rfl rfl rfl ?_
                          refine me0 (pc' := 276) (S' := [ii 5, ii 8]) dm_X12_next_275 rfl rfl rfl rfl ?_
                          refine me_2t (pc' := 287) dm_X12_next_276 rfl (by decide) ?_
                          refine y_ret (r := none) dm_X12_next_287 rfl rfl rfl ?_
                          refine ⟨rfl, (va_up (va_up (va_up t.1 39 (t.1 35)) 38 8) 40 (byR (va_up t.1 39 (t.1 35), t.2.1, t.2.2.1, t.2.2.2) (t.1 35)), t.2.1, t.2.2.1, t.2.2.2), rfl, rtk_i (j := 40) (by decide) (rtk_i (j := 38) (by decide) (rtk_i (j := 39) (by decide) (l1))), ?_⟩
                          exact rtP_unk hq hsk hbb hqb (by omega) g1 g2 g3 (by rw [hsi]; first | (rw [if_pos (by omega)]; rfl) | (rw [if_neg (by omega), if_pos (by assumption)]; rfl) | (rw [if_neg (by omega), if_neg (by assumption), if_pos (by assumption)]; rfl) | (rw [if_neg (by omega), if_neg (by assumption), if_neg (by assumption)])) rfl l2 l2 l3 l4
                        · rw [hcb] at hb10
                          refine me0 (pc' := 230) (S' := [ii 5, .ref 102]) dm_X12_next_229 rfl rfl rfl rfl ?_
                          refine me2 (pc' := 235) (S' := [ii 5, .ref 102]) dm_X12_next_230 rfl rfl rfl ?_
                          refine me3 (pc' := 238) (S' := []) (h1 := rI pre post (va_up (va_up t.1 39 (t.1 35)) 38 5) t.2.1 t.2.2.1 t.2.2.2) dm_X12_next_235 (q_puti hm rfl rfl (fun m i l v => rf_38 m i l v)) rfl rfl rfl ?_
                          refine me1 (pc' := 239) (L' := [(0, .ref 102), (1, ii (byR (va_up t.1 39 (t.1 35), t.2.1, t.2.2.1, t.2.2.2) (t.1 35)))]) (S' := [.ref 102]) dm_X12_next_238 rfl rfl rfl rfl ?_
                          refine me1 (pc' := 240) (L' := [(0, .ref 102), (1, ii (byR (va_up t.1 39 (t.1 35), t.2.1, t.2.2.1, t.2.2.2) (t.1 35)))]) (S' := [ii (byR (va_up t.1 39 (t.1 35), t.2.1, t.2.2.1, t.2.2.2) (t.1 35)), .ref 102]) dm_X12_next_239 rfl rfl rfl rfl ?_
                          refine me3 (pc' := 243) (S' := []) (h1 := rI pre post (va_up (va_up (va_up t.1 39 (t.1 35)) 38 5) 40 (byR (va_up t.1 39 (t.1 35), t.2.1, t.2.2.1, t.2.2.2) (t.1 35))) t.2.1 t.2.2.1 t.2.2.2) dm_X12_next_240 (q_puti hm rfl rfl (fun m i l v => rf_40 m i l v)) rfl rfl rfl ?_
                          refine me1 (pc' := 244) (L' := [(0, .ref 102), (1, ii (byR (va_up t.1 39 (t.1 35), t.2.1, t.2.2.1, t.2.2.2) (t.1 35)))]) (S' := [.ref 102]) dm_X12_next_243 rfl rfl rfl rfl ?_
                          refine me3 (pc' := 247) (S' := [ii 5]) dm_X12_next_244 (q_geti (v := 5) hm rfl (fun m i l => rg_38 m i l) rfl) rfl rfl rfl ?_
                          refine me0 (pc' := 249) (S' := [ii 8, ii 5]) dm_X12_next_247 rfl rfl rfl rfl ?_
                          refine me_2f (pc' := 252) dm_X12_next_249 rfl (by decide) rfl ?_
                          refine me1 (pc' := 253) (L' := [(0, .ref 102), (1, ii (byR (va_up t.1 39 (t.1 35), t.2.1, t.2.2.1, t.2.2.2) (t.1 35)))]) (S' := [.ref 102]) dm_X12_next_252 rfl rfl rfl rfl ?_
                          refine me0 (pc' := 254) (S' := [.ref 102, .ref 102]) dm_X12_next_253 rfl rfl rfl rfl ?_
                          refine me3 (pc' := 257) (S' := [ii (t.1 35), .ref 102]) dm_X12_next_254 (q_geti (v := t.1 35) hm rfl (fun m i l => rg_35 m i l) rfl) rfl rfl rfl ?_
                          refine me0 (pc' := 258) (S' := [ii 1, ii (t.1 35), .ref 102]) dm_X12_next_257 rfl rfl rfl rfl ?_
                          refine y_iadd (a := t.1 35) (b := 1) dm_X12_next_258 (pc' := 259) rfl ?_
                          refine me3 (pc' := 262) (S' := []) (h1 := rI pre post (va_up (va_up (va_up (va_up t.1 39 (t.1 35)) 38 5) 40 (byR (va_up t.1 39 (t.1 35), t.2.1, t.2.2.1, t.2.2.2) (t.1 35))) 35 ((t.1 35) + 1)) t.2.1 t.2.2.1 t.2.2.2) dm_X12_next_259 (q_puti hm rfl rfl (fun m i l v => rf_35 m i l v)) rfl rfl rfl ?_
                          refine me1 (pc' := 263) (L' := [(0, .ref 102), (1, ii (byR (va_up t.1 39 (t.1 35), t.2.1, t.2.2.1, t.2.2.2) (t.1 35)))]) (S' := [.ref 102]) dm_X12_next_262 rfl rfl rfl rfl ?_
                          refine me3 (pc' := 266) (S' := [ii 5]) dm_X12_next_263 (q_geti (v := 5) hm rfl (fun m i l => rg_38 m i l) rfl) rfl rfl rfl ?_
                          refine me0 (pc' := 268) (S' := [ii 6, ii 5]) dm_X12_next_266 rfl rfl rfl rfl ?_
                          refine me_2f (pc' := 271) dm_X12_next_268 rfl (by decide) rfl ?_
                          refine me1 (pc' := 272) (L' := [(0, .ref 102), (1, ii (byR (va_up t.1 39 (t.1 35), t.2.1, t.2.2.1, t.2.2.2) (t.1 35)))]) (S' := [.ref 102]) dm_X12_next_271 rfl rfl rfl rfl ?_
                          refine me3 (pc' := 275) (S' := [ii 5]) dm_X12_next_272 (q_geti (v := 5) hm rfl (fun m i l => rg_38 m i l) rfl) rfl rfl rfl ?_
                          refine me0 (pc' := 276) (S' := [ii 5, ii 5]) dm_X12_next_275 rfl rfl rfl rfl ?_
                          refine me_2f (pc' := 279) dm_X12_next_276 rfl (by decide) rfl ?_
                          refine me1 (pc' := 280) (L' := [(0, .ref 102), (1, ii (byR (va_up t.1 39 (t.1 35), t.2.1, t.2.2.1, t.2.2.2) (t.1 35)))]) (S' := [.ref 102]) dm_X12_next_279 rfl rfl rfl rfl ?_
                          refine me1 (pc' := 281) (L' := [(0, .ref 102), (1, ii (byR (va_up t.1 39 (t.1 35), t.2.1, t.2.2.1, t.2.2.2) (t.1 35)))]) (S' := [.ref 102, .ref 102]) dm_X12_next_280 rfl rfl rfl rfl ?_
                          refine me3 (pc' := 284) (S' := [ii ((t.1 35) + 1), .ref 102]) dm_X12_next_281 (q_geti (v := (t.1 35) + 1) hm rfl (fun m i l => rg_35 m i l) rfl) rfl rfl rfl ?_
                          refine me3 (pc' := 287) (S' := []) (h1 := rI pre post (va_up (va_up (va_up (va_up (va_up t.1 39 (t.1 35)) 38 5) 40 (byR (va_up t.1 39 (t.1 35), t.2.1, t.2.2.1, t.2.2.2) (t.1 35))) 35 ((t.1 35) + 1)) 37 ((t.1 35) + 1)) t.2.1 t.2.2.1 t.2.2.2) dm_X12_next_284 (q_puti hm rfl rfl (fun m i l v => rf_37 m i l v)) rfl rfl rfl ?_
                          refine y_ret (r := none) dm_X12_next_287 rfl rfl rfl ?_
                          refine ⟨rfl, (va_up (va_up (va_up (va_up (va_up t.1 39 (t.1 35)) 38 5) 40 (byR (va_up t.1 39 (t.1 35), t.2.1, t.2.2.1, t.2.2.2) (t.1 35))) 35 ((t.1 35) + 1)) 37 ((t.1 35) + 1), t.2.1, t.2.2.1, t.2.2.2), rfl, rtk_i (j := 37) (by decide) (rtk_i (j := 35) (by decide) (rtk_i (j := 40) (by decide) (rtk_i (j := 38) (by decide) (rtk_i (j := 39) (by decide) (l1))))), ?_⟩
                          exact rtP_sig (c := 5) hq h0 hsk hqb (by omega) g1 g2 g3 (by rw [hsi]; first | (rw [if_pos (by omega)]; rfl) | (rw [if_neg (by omega), if_pos (by assumption)]; rfl) | (rw [if_neg (by omega), if_neg (by assumption), if_pos (by assumption)]; rfl) | (rw [if_neg (by omega), if_neg (by assumption), if_neg (by assumption)])) (by decide) rfl l2 hcb (show t.1 35 + 1 = _ by omega) l3 (Or.inr ⟨by decide, (show t.1 35 + 1 = _ by omega)⟩)
                      · rw [hcb] at hb9
                        refine me0 (pc' := 219) (S' := [ii 7, .ref 102]) dm_X12_next_217 rfl rfl rfl rfl ?_
                        refine me2 (pc' := 235) (S' := [ii 7, .ref 102]) dm_X12_next_219 rfl rfl rfl ?_
                        refine me3 (pc' := 238) (S' := []) (h1 := rI pre post (va_up (va_up t.1 39 (t.1 35)) 38 7) t.2.1 t.2.2.1 t.2.2.2) dm_X12_next_235 (q_puti hm rfl rfl (fun m i l v => rf_38 m i l v)) rfl rfl rfl ?_
                        refine me1 (pc' := 239) (L' := [(0, .ref 102), (1, ii (byR (va_up t.1 39 (t.1 35), t.2.1, t.2.2.1, t.2.2.2) (t.1 35)))]) (S' := [.ref 102]) dm_X12_next_238 rfl rfl rfl rfl ?_
                        refine me1 (pc' := 240) (L' := [(0, .ref 102), (1, ii (byR (va_up t.1 39 (t.1 35), t.2.1, t.2.2.1, t.2.2.2) (t.1 35)))]) (S' := [ii (byR (va_up t.1 39 (t.1 35), t.2.1, t.2.2.1, t.2.2.2) (t.1 35)), .ref 102]) dm_X12_next_239 rfl rfl rfl rfl ?_
                        refine me3 (pc' := 243) (S' := []) (h1 := rI pre post (va_up (va_up (va_up t.1 39 (t.1 35)) 38 7) 40 (byR (va_up t.1 39 (t.1 35), t.2.1, t.2.2.1, t.2.2.2) (t.1 35))) t.2.1 t.2.2.1 t.2.2.2) dm_X12_next_240 (q_puti hm rfl rfl (fun m i l v => rf_40 m i l v)) rfl rfl rfl ?_
                        refine me1 (pc' := 244) (L' := [(0, .ref 102), (1, ii (byR (va_up t.1 39 (t.1 35), t.2.1, t.2.2.1, t.2.2.2) (t.1 35)))]) (S' := [.ref 102]) dm_X12_next_243 rfl rfl rfl rfl ?_
                        refine me3 (pc' := 247) (S' := [ii 7]) dm_X12_next_244 (q_geti (v := 7) hm rfl (fun m i l => rg_38 m i l) rfl) rfl rfl rfl ?_
                        refine me0 (pc' := 249) (S' := [ii 8, ii 7]) dm_X12_next_247 rfl rfl rfl rfl ?_
                        refine me_2f (pc' := 252) dm_X12_next_249 rfl (by decide) rfl ?_
                        refine me1 (pc' := 253) (L' := [(0, .ref 102), (1, ii (byR (va_up t.1 39 (t.1 35), t.2.1, t.2.2.1, t.2.2.2) (t.1 35)))]) (S' := [.ref 102]) dm_X12_next_252 rfl rfl rfl rfl ?_
                        refine me0 (pc' := 254) (S' := [.ref 102, .ref 102]) dm_X12_next_253 rfl rfl rfl rfl ?_
                        refine me3 (pc' := 257) (S' := [ii (t.1 35), .ref 102]) dm_X12_next_254 (q_geti (v := t.1 35) hm rfl (fun m i l => rg_35 m i l) rfl) rfl rfl rfl ?_
                        refine me0 (pc' := 258) (S' := [ii 1, ii (t.1 35), .ref 102]) dm_X12_next_257 rfl rfl rfl rfl ?_
                        refine y_iadd (a := t.1 35) (b := 1) dm_X12_next_258 (pc' := 259) rfl ?_
                        refine me3 (pc' := 262) (S' := []) (h1 := rI pre post (va_up (va_up (va_up (va_up t.1 39 (t.1 35)) 38 7) 40 (byR (va_up t.1 39 (t.1 35), t.2.1, t.2.2.1, t.2.2.2) (t.1 35))) 35 ((t.1 35) + 1)) t.2.1 t.2.2.1 t.2.2.2) dm_X12_next_259 (q_puti hm rfl rfl (fun m i l v => rf_35 m i l v)) rfl rfl rfl ?_
                        refine me1 (pc' := 263) (L' := [(0, .ref 102), (1, ii (byR (va_up t.1 39 (t.1 35), t.2.1, t.2.2.1, t.2.2.2) (t.1 35)))]) (S' := [.ref 102]) dm_X12_next_262 rfl rfl rfl rfl ?_
                        refine me3 (pc' := 266) (S' := [ii 7]) dm_X12_next_263 (q_geti (v := 7) hm rfl (fun m i l => rg_38 m i l) rfl) rfl rfl rfl ?_
                        refine me0 (pc' := 268) (S' := [ii 6, ii 7]) dm_X12_next_266 rfl rfl rfl rfl ?_
                        refine me_2f (pc' := 271) dm_X12_next_268 rfl (by decide) rfl ?_
                        refine me1 (pc' := 272) (L' := [(0, .ref 102), (1, ii (byR (va_up t.1 39 (t.1 35), t.2.1, t.2.2.1, t.2.2.2) (t.1 35)))]) (S' := [.ref 102]) dm_X12_next_271 rfl rfl rfl rfl ?_
                        refine me3 (pc' := 275) (S' := [ii 7]) dm_X12_next_272 (q_geti (v := 7) hm rfl (fun m i l => rg_38 m i l) rfl) rfl rfl rfl ?_
                        refine me0 (pc' := 276) (S' := [ii 5, ii 7]) dm_X12_next_275 rfl rfl rfl rfl ?_
                        refine me_2t (pc' := 287) dm_X12_next_276 rfl (by decide) ?_
                        refine y_ret (r := none) dm_X12_next_287 rfl rfl rfl ?_
                        refine ⟨rfl, (va_up (va_up (va_up (va_up t.1 39 (t.1 35)) 38 7) 40 (byR (va_up t.1 39 (t.1 35), t.2.1, t.2.2.1, t.2.2.2) (t.1 35))) 35 ((t.1 35) + 1), t.2.1, t.2.2.1, t.2.2.2), rfl, rtk_i (j := 35) (by decide) (rtk_i (j := 40) (by decide) (rtk_i (j := 38) (by decide) (rtk_i (j := 39) (by decide) (l1)))), ?_⟩
                        exact rtP_sig (c := 7) hq h0 hsk hqb (by omega) g1 g2 g3 (by rw [hsi]; first | (rw [if_pos (by omega)]; rfl) | (rw [if_neg (by omega), if_pos (by assumption)]; rfl) | (rw [if_neg (by omega), if_neg (by assumption), if_pos (by assumption)]; rfl) | (rw [if_neg (by omega), if_neg (by assumption), if_neg (by assumption)])) (by decide) rfl l2 hcb (show t.1 35 + 1 = _ by omega) l3 (Or.inl ⟨rfl, l4⟩)
                    · refine me0 (pc' := 207) (S' := [ii 6, .ref 102]) dm_X12_next_205 rfl rfl rfl rfl ?_
                      refine me2 (pc' := 235) (S' := [ii 6, .ref 102]) dm_X12_next_207 rfl rfl rfl ?_
                      refine me3 (pc' := 238) (S' := []) (h1 := rI pre post (va_up (va_up t.1 39 (t.1 35)) 38 6) t.2.1 t.2.2.1 t.2.2.2) dm_X12_next_235 (q_puti hm rfl rfl (fun m i l v => rf_38 m i l v)) rfl rfl rfl ?_
                      refine me1 (pc' := 239) (L' := [(0, .ref 102), (1, ii (byR (va_up t.1 39 (t.1 35), t.2.1, t.2.2.1, t.2.2.2) (t.1 35)))]) (S' := [.ref 102]) dm_X12_next_238 rfl rfl rfl rfl ?_
                      refine me1 (pc' := 240) (L' := [(0, .ref 102), (1, ii (byR (va_up t.1 39 (t.1 35), t.2.1, t.2.2.1, t.2.2.2) (t.1 35)))]) (S' := [ii (byR (va_up t.1 39 (t.1 35), t.2.1, t.2.2.1, t.2.2.2) (t.1 35)), .ref 102]) dm_X12_next_239 rfl rfl rfl rfl ?_
                      refine me3 (pc' := 243) (S' := []) (h1 := rI pre post (va_up (va_up (va_up t.1 39 (t.1 35)) 38 6) 40 (byR (va_up t.1 39 (t.1 35), t.2.1, t.2.2.1, t.2.2.2) (t.1 35))) t.2.1 t.2.2.1 t.2.2.2) dm_X12_next_240 (q_puti hm rfl rfl (fun m i l v => rf_40 m i l v)) rfl rfl rfl ?_
                      refine me1 (pc' := 244) (L' := [(0, .ref 102), (1, ii (byR (va_up t.1 39 (t.1 35), t.2.1, t.2.2.1, t.2.2.2) (t.1 35)))]) (S' := [.ref 102]) dm_X12_next_243 rfl rfl rfl rfl ?_
                      refine me3 (pc' := 247) (S' := [ii 6]) dm_X12_next_244 (q_geti (v := 6) hm rfl (fun m i l => rg_38 m i l) rfl) rfl rfl rfl ?_
                      refine me0 (pc' := 249) (S' := [ii 8, ii 6]) dm_X12_next_247 rfl rfl rfl rfl ?_
                      refine me_2f (pc' := 252) dm_X12_next_249 rfl (by decide) rfl ?_
                      refine me1 (pc' := 253) (L' := [(0, .ref 102), (1, ii (byR (va_up t.1 39 (t.1 35), t.2.1, t.2.2.1, t.2.2.2) (t.1 35)))]) (S' := [.ref 102]) dm_X12_next_252 rfl rfl rfl rfl ?_
                      refine me0 (pc' := 254) (S' := [.ref 102, .ref 102]) dm_X12_next_253 rfl rfl rfl rfl ?_
                      refine me3 (pc' := 257) (S' := [ii (t.1 35), .ref 102]) dm_X12_next_254 (q_geti (v := t.1 35) hm rfl (fun m i l => rg_35 m i l) rfl) rfl rfl rfl ?_
                      refine me0 (pc' := 258) (S' := [ii 1, ii (t.1 35), .ref 102]) dm_X12_next_257 rfl rfl rfl rfl ?_
                      refine y_iadd (a := t.1 35) (b := 1) dm_X12_next_258 (pc' := 259) rfl ?_
                      refine me3 (pc' := 262) (S' := []) (h1 := rI pre post (va_up (va_up (va_up (va_up t.1 39 (t.1 35)) 38 6) 40 (byR (va_up t.1 39 (t.1 35), t.2.1, t.2.2.1, t.2.2.2) (t.1 35))) 35 ((t.1 35) + 1)) t.2.1 t.2.2.1 t.2.2.2) dm_X12_next_259 (q_puti hm rfl rfl (fun m i l v => rf_35 m i l v)) rfl rfl rfl ?_
                      refine me1 (pc' := 263) (L' := [(0, .ref 102), (1, ii (byR (va_up t.1 39 (t.1 35), t.2.1, t.2.2.1, t.2.2.2) (t.1 35)))]) (S' := [.ref 102]) dm_X12_next_262 rfl rfl rfl rfl ?_
                      refine me3 (pc' := 266) (S' := [ii 6]) dm_X12_next_263 (q_geti (v := 6) hm rfl (fun m i l => rg_38 m i l) rfl) rfl rfl rfl ?_
                      refine me0 (pc' := 268) (S' := [ii 6, ii 6]) dm_X12_next_266 rfl rfl rfl rfl ?_
                      refine me_2t (pc' := 279) dm_X12_next_268 rfl (by decide) ?_
                      refine me1 (pc' := 280) (L' := [(0, .ref 102), (1, ii (byR (va_up t.1 39 (t.1 35), t.2.1, t.2.2.1, t.2.2.2) (t.1 35)))]) (S' := [.ref 102]) dm_X12_next_279 rfl rfl rfl rfl ?_
                      refine me1 (pc' := 281) (L' := [(0, .ref 102), (1, ii (byR (va_up t.1 39 (t.1 35), t.2.1, t.2.2.1, t.2.2.2) (t.1 35)))]) (S' := [.ref 102, .ref 102]) dm_X12_next_280 rfl rfl rfl rfl ?_
                      refine me3 (pc' := 284) (S' := [ii ((t.1 35) + 1), .ref 102]) dm_X12_next_281 (q_geti (v := (t.1 35) + 1) hm rfl (fun m i l => rg_35 m i l) rfl) rfl rfl rfl ?_
                      refine me3 (pc' := 287) (S' := []) (h1 := rI pre post (va_up (va_up (va_up (va_up (va_up t.1 39 (t.1 35)) 38 6) 40 (byR (va_up t.1 39 (t.1 35), t.2.1, t.2.2.1, t.2.2.2) (t.1 35))) 35 ((t.1 35) + 1)) 37 ((t.1 35) + 1)) t.2.1 t.2.2.1 t.2.2.2) dm_X12_next_284 (q_puti hm rfl rfl (fun m i l v => rf_37 m i l v)) rfl rfl rfl ?_
                      refine y_ret (r := none) dm_X12_next_287 rfl rfl rfl ?_
                      refine ⟨rfl, (va_up (va_up (va_up (va_up (va_up t.1 39 (t.1 35)) 38 6) 40 (byR (va_up t.1 39 (t.1 35), t.2.1, t.2.2.1, t.2.2.2) (t.1 35))) 35 ((t.1 35) + 1)) 37 ((t.1 35) + 1), t.2.1, t.2.2.1, t.2.2.2), rfl, rtk_i (j := 37) (by decide) (rtk_i (j := 35) (by decide) (rtk_i (j := 40) (by decide) (rtk_i (j := 38) (by decide) (rtk_i (j := 39) (by decide) (l1))))), ?_⟩
                      exact rtP_sig (c := 6) hq h0 hsk hqb (by omega) g1 g2 g3 (by rw [hsi]; first | (rw [if_pos (by omega)]; rfl) | (rw [if_neg (by omega), if_pos (by assumption)]; rfl) | (rw [if_neg (by omega), if_neg (by assumption), if_pos (by assumption)]; rfl) | (rw [if_neg (by omega), if_neg (by assumption), if_neg (by assumption)])) (by decide) rfl l2 hcb (show t.1 35 + 1 = _ by omega) l3 (Or.inr ⟨by decide, (show t.1 35 + 1 = _ by omega)⟩)
              refine me1 (pc' := 97) (L' := [(1, ii (byR (va_up t.1 39 (t.1 35), t.2.1, t.2.2.1, t.2.2.2) (t.1 35))), (0, .ref 102)]) (S' := [.ref 102]) dm_X12_next_96 rfl rfl rfl rfl ?_
              refine me1 (pc' := 98) (L' := [(1, ii (byR (va_up t.1 39 (t.1 35), t.2.1, t.2.2.1, t.2.2.2) (t.1 35))), (0, .ref 102)]) (S' := [.ref 102, .ref 102]) dm_X12_next_97 rfl rfl rfl rfl ?_
              refine me3 (pc' := 101) (S' := [ii (t.1 35), .ref 102]) dm_X12_next_98 (q_geti (v := t.1 35) hm rfl (fun m i l => rg_35 m i l) rfl) rfl rfl rfl ?_
              have hy2P : tpR (va_up t.1 39 (t.1 35), t.2.1, t.2.2.1, t.2.2.2) bf ln := tpR_k hP (rtk_i (j := 39) (by decide) (l1))
              have hy2r := byR_r (va_up t.1 39 (t.1 35), t.2.1, t.2.2.1, t.2.2.2) (t.1 35)
              have hy2 : byR (va_up t.1 39 (t.1 35), t.2.1, t.2.2.1, t.2.2.2) (t.1 35) = byO bf ln b := by rw [show (t.1 35 : Int) = ((b : Nat) : Int) by first | rfl | omega]; exact tpR_by hy2P
              refine x_cp (pc' := 104) (v := zz (decide (48 ≤ byR (va_up t.1 39 (t.1 35), t.2.1, t.2.2.1, t.2.2.2) (t.1 35) ∧ byR (va_up t.1 39 (t.1 35), t.2.1, t.2.2.1, t.2.2.2) (t.1 35) ≤ 57))) (rest := []) dm_X12_next_101 rfl (q_inv (As := [ii (t.1 35)]) (S := []) hm rfl rfl rfl) rfl rfl rfl (r_isDigit_ (s := (va_up t.1 39 (t.1 35), t.2.1, t.2.2.1, t.2.2.2)) (i := t.1 35) hm (by omega) (by omega) (by have := hy2P.1; have := hy2P.2.1; omega) hy2P.2.2.1) ?_
              refine y_zne (c := decide (48 ≤ byR (va_up t.1 39 (t.1 35), t.2.1, t.2.2.1, t.2.2.2) (t.1 35) ∧ byR (va_up t.1 39 (t.1 35), t.2.1, t.2.2.1, t.2.2.2) (t.1 35) ≤ 57)) (t := 126) (pc' := 107) dm_X12_next_104 rfl rfl (fun hb11 => ?_) (fun hb11 => ?_)
              · replace hb11 := dT hb11
                refine me1 (pc' := 127) (L' := [(1, ii (byR (va_up t.1 39 (t.1 35), t.2.1, t.2.2.1, t.2.2.2) (t.1 35))), (0, .ref 102)]) (S' := [.ref 102]) dm_X12_next_126 rfl rfl rfl rfl ?_
                refine me1 (pc' := 128) (L' := [(1, ii (byR (va_up t.1 39 (t.1 35), t.2.1, t.2.2.1, t.2.2.2) (t.1 35))), (0, .ref 102)]) (S' := [ii (byR (va_up t.1 39 (t.1 35), t.2.1, t.2.2.1, t.2.2.2) (t.1 35)), .ref 102]) dm_X12_next_127 rfl rfl rfl rfl ?_
                refine me0 (pc' := 130) (S' := [ii 95, ii (byR (va_up t.1 39 (t.1 35), t.2.1, t.2.2.1, t.2.2.2) (t.1 35)), .ref 102]) dm_X12_next_128 rfl rfl rfl rfl ?_
                refine y_2ne (a := byR (va_up t.1 39 (t.1 35), t.2.1, t.2.2.1, t.2.2.2) (t.1 35)) (b := 95) (t := 137) (pc' := 133) dm_X12_next_130 rfl rfl (by omega) (fun hb12 => ?_) (fun hb12 => ?_)
                · refine me0 (pc' := 138) (S' := [ii 0, .ref 102]) dm_X12_next_137 rfl rfl rfl rfl ?_
                  refine x_cn (pc' := 141) (rest := []) dm_X12_next_138 rfl (q_inv (As := [ii 0]) (S := []) hm rfl rfl rfl) rfl rfl rfl (r_digits0_ (s := (va_up t.1 39 (t.1 35), t.2.1, t.2.2.1, t.2.2.2)) (fr := b) hm (by omega) (tpR_k hP (rtk_i (j := 39) (by decide) (l1))) (l2) (by have := hP.2.1; omega)) ?_
                  rintro _ ⟨t2, rfl, hD⟩
                  refine me2 (pc' := 287) (S' := []) dm_X12_next_141 rfl rfl rfl ?_
                  refine y_ret (r := none) dm_X12_next_287 rfl rfl rfl ?_
                  refine ⟨rfl, t2, rfl, rtk_tr (show rtk s (va_up t.1 39 (t.1 35), t.2.1, t.2.2.1, t.2.2.2) from rtk_i (j := 39) (by decide) (l1)) hD.1, ?_⟩
                  exact rtP_num hq h0 hsk hqb (by omega) (by omega) hD l2 l4
                · exfalso; omega
              · replace hb11 := dF hb11
                refine me1 (pc' := 108) (L' := [(1, ii (byR (va_up t.1 39 (t.1 35), t.2.1, t.2.2.1, t.2.2.2) (t.1 35))), (0, .ref 102)]) (S' := [ii (byR (va_up t.1 39 (t.1 35), t.2.1, t.2.2.1, t.2.2.2) (t.1 35))]) dm_X12_next_107 rfl rfl rfl rfl ?_
                refine me0 (pc' := 110) (S' := [ii 95, ii (byR (va_up t.1 39 (t.1 35), t.2.1, t.2.2.1, t.2.2.2) (t.1 35))]) dm_X12_next_108 rfl rfl rfl rfl ?_
                refine y_2ne (a := byR (va_up t.1 39 (t.1 35), t.2.1, t.2.2.1, t.2.2.2) (t.1 35)) (b := 95) (t := 144) (pc' := 113) dm_X12_next_110 rfl rfl (by omega) (fun hb13 => ?_) (fun hb13 => ?_)
                · refine me1 (pc' := 145) (L' := [(1, ii (byR (va_up t.1 39 (t.1 35), t.2.1, t.2.2.1, t.2.2.2) (t.1 35))), (0, .ref 102)]) (S' := [.ref 102]) dm_X12_next_144 rfl rfl rfl rfl ?_
                  refine me1 (pc' := 146) (L' := [(1, ii (byR (va_up t.1 39 (t.1 35), t.2.1, t.2.2.1, t.2.2.2) (t.1 35))), (0, .ref 102)]) (S' := [.ref 102, .ref 102]) dm_X12_next_145 rfl rfl rfl rfl ?_
                  refine me3 (pc' := 149) (S' := [ii (t.1 35), .ref 102]) dm_X12_next_146 (q_geti (v := t.1 35) hm rfl (fun m i l => rg_35 m i l) rfl) rfl rfl rfl ?_
                  have hy3P : tpR (va_up t.1 39 (t.1 35), t.2.1, t.2.2.1, t.2.2.2) bf ln := tpR_k hP (rtk_i (j := 39) (by decide) (l1))
                  have hy3r := byR_r (va_up t.1 39 (t.1 35), t.2.1, t.2.2.1, t.2.2.2) (t.1 35)
                  have hy3 : byR (va_up t.1 39 (t.1 35), t.2.1, t.2.2.1, t.2.2.2) (t.1 35) = byO bf ln b := by rw [show (t.1 35 : Int) = ((b : Nat) : Int) by first | rfl | omega]; exact tpR_by hy3P
                  refine x_cp (pc' := 152) (v := zz (decide (97 ≤ byR (va_up t.1 39 (t.1 35), t.2.1, t.2.2.1, t.2.2.2) (t.1 35) ∧ byR (va_up t.1 39 (t.1 35), t.2.1, t.2.2.1, t.2.2.2) (t.1 35) ≤ 122))) (rest := []) dm_X12_next_149 rfl (q_inv (As := [ii (t.1 35)]) (S := []) hm rfl rfl rfl) rfl rfl rfl (r_isLetter_ (s := (va_up t.1 39 (t.1 35), t.2.1, t.2.2.1, t.2.2.2)) (i := t.1 35) hm (by omega) (by omega) (by have := hy3P.1; have := hy3P.2.1; omega) hy3P.2.2.1) ?_
                  refine y_zeq (c := decide (97 ≤ byR (va_up t.1 39 (t.1 35), t.2.1, t.2.2.1, t.2.2.2) (t.1 35) ∧ byR (va_up t.1 39 (t.1 35), t.2.1, t.2.2.1, t.2.2.2) (t.1 35) ≤ 122)) (t := 162) (pc' := 155) dm_X12_next_152 rfl rfl (fun hb14 => ?_) (fun hb14 => ?_)
                  · replace hb14 := dF hb14
                    refine me1 (pc' := 163) (L' := [(1, ii (byR (va_up t.1 39 (t.1 35), t.2.1, t.2.2.1, t.2.2.2) (t.1 35))), (0, .ref 102)]) (S' := [ii (byR (va_up t.1 39 (t.1 35), t.2.1, t.2.2.1, t.2.2.2) (t.1 35))]) dm_X12_next_162 rfl rfl rfl rfl ?_
                    refine me0 (pc' := 165) (S' := [ii 39, ii (byR (va_up t.1 39 (t.1 35), t.2.1, t.2.2.1, t.2.2.2) (t.1 35))]) dm_X12_next_163 rfl rfl rfl rfl ?_
                    refine y_2ne (a := byR (va_up t.1 39 (t.1 35), t.2.1, t.2.2.1, t.2.2.2) (t.1 35)) (b := 39) (t := 186) (pc' := 168) dm_X12_next_165 rfl rfl (by omega) (fun hb15 => ?_) (fun hb15 => ?_)
                    · exact pg_sub (L := [(0, .ref 102), (1, ii (byR (va_up t.1 39 (t.1 35), t.2.1, t.2.2.1, t.2.2.2) (t.1 35)))]) rfl rfl rfl (jn186 (by omega) (by omega) (by omega))
                    · refine me1 (pc' := 169) (L' := [(1, ii (byR (va_up t.1 39 (t.1 35), t.2.1, t.2.2.1, t.2.2.2) (t.1 35))), (0, .ref 102)]) (S' := [.ref 102]) dm_X12_next_168 rfl rfl rfl rfl ?_
                      refine me3 (pc' := 172) (S' := [ii (t.1 37)]) dm_X12_next_169 (q_geti (v := t.1 37) hm rfl (fun m i l => rg_37 m i l) rfl) rfl rfl rfl ?_
                      refine me1 (pc' := 173) (L' := [(1, ii (byR (va_up t.1 39 (t.1 35), t.2.1, t.2.2.1, t.2.2.2) (t.1 35))), (0, .ref 102)]) (S' := [.ref 102, ii (t.1 37)]) dm_X12_next_172 rfl rfl rfl rfl ?_
                      refine me3 (pc' := 176) (S' := [ii (t.1 35), ii (t.1 37)]) dm_X12_next_173 (q_geti (v := t.1 35) hm rfl (fun m i l => rg_35 m i l) rfl) rfl rfl rfl ?_
                      refine y_2eq (a := t.1 37) (b := t.1 35) (t := 186) (pc' := 179) dm_X12_next_176 rfl rfl (by omega) (fun hb16 => ?_) (fun hb16 => ?_)
                      · exact pg_sub (L := [(0, .ref 102), (1, ii (byR (va_up t.1 39 (t.1 35), t.2.1, t.2.2.1, t.2.2.2) (t.1 35)))]) rfl rfl rfl (jn186 (by omega) (by omega) (by omega))
                      · refine me1 (pc' := 180) (L' := [(1, ii (byR (va_up t.1 39 (t.1 35), t.2.1, t.2.2.1, t.2.2.2) (t.1 35))), (0, .ref 102)]) (S' := [.ref 102]) dm_X12_next_179 rfl rfl rfl rfl ?_
                        refine x_cn (pc' := 183) (rest := []) dm_X12_next_180 rfl (q_inv (As := []) (S := []) hm rfl rfl rfl) rfl rfl rfl (r_quote_ (s := (va_up t.1 39 (t.1 35), t.2.1, t.2.2.1, t.2.2.2)) (a := b) hm (by omega) (tpR_k hP (rtk_i (j := 39) (by decide) (l1))) l2 (by omega)) ?_
                        rintro _ ⟨t2, rfl, hD⟩
                        refine me2 (pc' := 287) (S' := []) dm_X12_next_183 rfl rfl rfl ?_
                        refine y_ret (r := none) dm_X12_next_287 rfl rfl rfl ?_
                        refine ⟨rfl, t2, rfl, rtk_tr (show rtk s (va_up t.1 39 (t.1 35), t.2.1, t.2.2.1, t.2.2.2) from rtk_i (j := 39) (by decide) (l1)) hD.1, ?_⟩
                        exact rtP_txt hq h0 hsk hbb hqb (by omega) (by omega) (by omega) hD l3 l2 l4
                  · replace hb14 := dT hb14
                    refine me1 (pc' := 156) (L' := [(1, ii (byR (va_up t.1 39 (t.1 35), t.2.1, t.2.2.1, t.2.2.2) (t.1 35))), (0, .ref 102)]) (S' := [.ref 102]) dm_X12_next_155 rfl rfl rfl rfl ?_
                    refine x_cn (pc' := 159) (rest := []) dm_X12_next_156 rfl (q_inv (As := []) (S := []) hm rfl rfl rfl) rfl rfl rfl (r_letters_ (s := (va_up t.1 39 (t.1 35), t.2.1, t.2.2.1, t.2.2.2)) (fr := b) (n := n) (m := m) hm (by omega) (tpR_k hP (rtk_i (j := 39) (by decide) (l1))) (by show t.1 23 = _; rw [l1.2.2.1 23 (by omega)]; exact hvn) (by show t.1 24 = _; rw [l1.2.2.1 24 (by omega)]; exact hfn) hn40 hm2 l2 (by have := hP.2.1; omega)) ?_
                    rintro _ ⟨t2, rfl, hD⟩
                    refine me2 (pc' := 287) (S' := []) dm_X12_next_159 rfl rfl rfl ?_
                    refine y_ret (r := none) dm_X12_next_287 rfl rfl rfl ?_
                    refine ⟨rfl, t2, rfl, rtk_tr (show rtk s (va_up t.1 39 (t.1 35), t.2.1, t.2.2.1, t.2.2.2) from rtk_i (j := 39) (by decide) (l1)) hD.1, ?_⟩
                    refine rtP_let hq h0 hsk hqb (by omega) (by omega) ?_ hD l2 l4
                    have z := hfn9 b (by omega) (by omega)
                    unfold fnR at z ⊢
                    show _ ↔ _ = t.2.1 42 ∨ 0 ≤ fndR (t.2.2.2 20) m _
                    rw [l1.2.2.2 42 (by decide), l1.2.1]
                    exact z
                · refine me1 (pc' := 114) (L' := [(1, ii (byR (va_up t.1 39 (t.1 35), t.2.1, t.2.2.1, t.2.2.2) (t.1 35))), (0, .ref 102)]) (S' := [.ref 102]) dm_X12_next_113 rfl rfl rfl rfl ?_
                  refine me1 (pc' := 115) (L' := [(1, ii (byR (va_up t.1 39 (t.1 35), t.2.1, t.2.2.1, t.2.2.2) (t.1 35))), (0, .ref 102)]) (S' := [.ref 102, .ref 102]) dm_X12_next_114 rfl rfl rfl rfl ?_
                  refine me3 (pc' := 118) (S' := [ii (t.1 35), .ref 102]) dm_X12_next_115 (q_geti (v := t.1 35) hm rfl (fun m i l => rg_35 m i l) rfl) rfl rfl rfl ?_
                  refine me0 (pc' := 119) (S' := [ii 1, ii (t.1 35), .ref 102]) dm_X12_next_118 rfl rfl rfl rfl ?_
                  refine y_iadd (a := t.1 35) (b := 1) dm_X12_next_119 (pc' := 120) rfl ?_
                  have hy3P : tpR (va_up t.1 39 (t.1 35), t.2.1, t.2.2.1, t.2.2.2) bf ln := tpR_k hP (rtk_i (j := 39) (by decide) (l1))
                  have hy3r := byR_r (va_up t.1 39 (t.1 35), t.2.1, t.2.2.1, t.2.2.2) ((t.1 35) + 1)
                  have hy3 : byR (va_up t.1 39 (t.1 35), t.2.1, t.2.2.1, t.2.2.2) ((t.1 35) + 1) = byO bf ln (b + 1) := by rw [show ((t.1 35) + 1 : Int) = ((b + 1 : Nat) : Int) by first | rfl | omega]; exact tpR_by hy3P
                  refine x_cp (pc' := 123) (v := zz (decide (48 ≤ byR (va_up t.1 39 (t.1 35), t.2.1, t.2.2.1, t.2.2.2) ((t.1 35) + 1) ∧ byR (va_up t.1 39 (t.1 35), t.2.1, t.2.2.1, t.2.2.2) ((t.1 35) + 1) ≤ 57))) (rest := []) dm_X12_next_120 rfl (q_inv (As := [ii ((t.1 35) + 1)]) (S := []) hm rfl rfl rfl) rfl rfl rfl (r_isDigit_ (s := (va_up t.1 39 (t.1 35), t.2.1, t.2.2.1, t.2.2.2)) (i := (t.1 35) + 1) hm (by omega) (by omega) (by have := hy3P.1; have := hy3P.2.1; omega) hy3P.2.2.1) ?_
                  refine y_zeq (c := decide (48 ≤ byR (va_up t.1 39 (t.1 35), t.2.1, t.2.2.1, t.2.2.2) ((t.1 35) + 1) ∧ byR (va_up t.1 39 (t.1 35), t.2.1, t.2.2.1, t.2.2.2) ((t.1 35) + 1) ≤ 57)) (t := 144) (pc' := 126) dm_X12_next_123 rfl rfl (fun hb17 => ?_) (fun hb17 => ?_)
                  · replace hb17 := dF hb17
                    refine me1 (pc' := 145) (L' := [(1, ii (byR (va_up t.1 39 (t.1 35), t.2.1, t.2.2.1, t.2.2.2) (t.1 35))), (0, .ref 102)]) (S' := [.ref 102]) dm_X12_next_144 rfl rfl rfl rfl ?_
                    refine me1 (pc' := 146) (L' := [(1, ii (byR (va_up t.1 39 (t.1 35), t.2.1, t.2.2.1, t.2.2.2) (t.1 35))), (0, .ref 102)]) (S' := [.ref 102, .ref 102]) dm_X12_next_145 rfl rfl rfl rfl ?_
                    refine me3 (pc' := 149) (S' := [ii (t.1 35), .ref 102]) dm_X12_next_146 (q_geti (v := t.1 35) hm rfl (fun m i l => rg_35 m i l) rfl) rfl rfl rfl ?_
                    have hy4P : tpR (va_up t.1 39 (t.1 35), t.2.1, t.2.2.1, t.2.2.2) bf ln := tpR_k hP (rtk_i (j := 39) (by decide) (l1))
                    have hy4r := byR_r (va_up t.1 39 (t.1 35), t.2.1, t.2.2.1, t.2.2.2) (t.1 35)
                    have hy4 : byR (va_up t.1 39 (t.1 35), t.2.1, t.2.2.1, t.2.2.2) (t.1 35) = byO bf ln b := by rw [show (t.1 35 : Int) = ((b : Nat) : Int) by first | rfl | omega]; exact tpR_by hy4P
                    refine x_cp (pc' := 152) (v := zz (decide (97 ≤ byR (va_up t.1 39 (t.1 35), t.2.1, t.2.2.1, t.2.2.2) (t.1 35) ∧ byR (va_up t.1 39 (t.1 35), t.2.1, t.2.2.1, t.2.2.2) (t.1 35) ≤ 122))) (rest := []) dm_X12_next_149 rfl (q_inv (As := [ii (t.1 35)]) (S := []) hm rfl rfl rfl) rfl rfl rfl (r_isLetter_ (s := (va_up t.1 39 (t.1 35), t.2.1, t.2.2.1, t.2.2.2)) (i := t.1 35) hm (by omega) (by omega) (by have := hy4P.1; have := hy4P.2.1; omega) hy4P.2.2.1) ?_
                    refine y_zeq (c := decide (97 ≤ byR (va_up t.1 39 (t.1 35), t.2.1, t.2.2.1, t.2.2.2) (t.1 35) ∧ byR (va_up t.1 39 (t.1 35), t.2.1, t.2.2.1, t.2.2.2) (t.1 35) ≤ 122)) (t := 162) (pc' := 155) dm_X12_next_152 rfl rfl (fun hb18 => ?_) (fun hb18 => ?_)
                    · replace hb18 := dF hb18
                      refine me1 (pc' := 163) (L' := [(1, ii (byR (va_up t.1 39 (t.1 35), t.2.1, t.2.2.1, t.2.2.2) (t.1 35))), (0, .ref 102)]) (S' := [ii (byR (va_up t.1 39 (t.1 35), t.2.1, t.2.2.1, t.2.2.2) (t.1 35))]) dm_X12_next_162 rfl rfl rfl rfl ?_
                      refine me0 (pc' := 165) (S' := [ii 39, ii (byR (va_up t.1 39 (t.1 35), t.2.1, t.2.2.1, t.2.2.2) (t.1 35))]) dm_X12_next_163 rfl rfl rfl rfl ?_
                      refine y_2ne (a := byR (va_up t.1 39 (t.1 35), t.2.1, t.2.2.1, t.2.2.2) (t.1 35)) (b := 39) (t := 186) (pc' := 168) dm_X12_next_165 rfl rfl (by omega) (fun hb19 => ?_) (fun hb19 => ?_)
                      · exact pg_sub (L := [(0, .ref 102), (1, ii (byR (va_up t.1 39 (t.1 35), t.2.1, t.2.2.1, t.2.2.2) (t.1 35)))]) rfl rfl rfl (jn186 (by omega) (by omega) (by omega))
                      · refine me1 (pc' := 169) (L' := [(1, ii (byR (va_up t.1 39 (t.1 35), t.2.1, t.2.2.1, t.2.2.2) (t.1 35))), (0, .ref 102)]) (S' := [.ref 102]) dm_X12_next_168 rfl rfl rfl rfl ?_
                        refine me3 (pc' := 172) (S' := [ii (t.1 37)]) dm_X12_next_169 (q_geti (v := t.1 37) hm rfl (fun m i l => rg_37 m i l) rfl) rfl rfl rfl ?_
                        refine me1 (pc' := 173) (L' := [(1, ii (byR (va_up t.1 39 (t.1 35), t.2.1, t.2.2.1, t.2.2.2) (t.1 35))), (0, .ref 102)]) (S' := [.ref 102, ii (t.1 37)]) dm_X12_next_172 rfl rfl rfl rfl ?_
                        refine me3 (pc' := 176) (S' := [ii (t.1 35), ii (t.1 37)]) dm_X12_next_173 (q_geti (v := t.1 35) hm rfl (fun m i l => rg_35 m i l) rfl) rfl rfl rfl ?_
                        refine y_2eq (a := t.1 37) (b := t.1 35) (t := 186) (pc' := 179) dm_X12_next_176 rfl rfl (by omega) (fun hb20 => ?_) (fun hb20 => ?_)
                        · exact pg_sub (L := [(0, .ref 102), (1, ii (byR (va_up t.1 39 (t.1 35), t.2.1, t.2.2.1, t.2.2.2) (t.1 35)))]) rfl rfl rfl (jn186 (by omega) (by omega) (by omega))
                        · refine me1 (pc' := 180) (L' := [(1, ii (byR (va_up t.1 39 (t.1 35), t.2.1, t.2.2.1, t.2.2.2) (t.1 35))), (0, .ref 102)]) (S' := [.ref 102]) dm_X12_next_179 rfl rfl rfl rfl ?_
                          refine x_cn (pc' := 183) (rest := []) dm_X12_next_180 rfl (q_inv (As := []) (S := []) hm rfl rfl rfl) rfl rfl rfl (r_quote_ (s := (va_up t.1 39 (t.1 35), t.2.1, t.2.2.1, t.2.2.2)) (a := b) hm (by omega) (tpR_k hP (rtk_i (j := 39) (by decide) (l1))) l2 (by omega)) ?_
                          rintro _ ⟨t2, rfl, hD⟩
                          refine me2 (pc' := 287) (S' := []) dm_X12_next_183 rfl rfl rfl ?_
                          refine y_ret (r := none) dm_X12_next_287 rfl rfl rfl ?_
                          refine ⟨rfl, t2, rfl, rtk_tr (show rtk s (va_up t.1 39 (t.1 35), t.2.1, t.2.2.1, t.2.2.2) from rtk_i (j := 39) (by decide) (l1)) hD.1, ?_⟩
                          exact rtP_txt hq h0 hsk hbb hqb (by omega) (by omega) (by omega) hD l3 l2 l4
                    · replace hb18 := dT hb18
                      refine me1 (pc' := 156) (L' := [(1, ii (byR (va_up t.1 39 (t.1 35), t.2.1, t.2.2.1, t.2.2.2) (t.1 35))), (0, .ref 102)]) (S' := [.ref 102]) dm_X12_next_155 rfl rfl rfl rfl ?_
                      refine x_cn (pc' := 159) (rest := []) dm_X12_next_156 rfl (q_inv (As := []) (S := []) hm rfl rfl rfl) rfl rfl rfl (r_letters_ (s := (va_up t.1 39 (t.1 35), t.2.1, t.2.2.1, t.2.2.2)) (fr := b) (n := n) (m := m) hm (by omega) (tpR_k hP (rtk_i (j := 39) (by decide) (l1))) (by show t.1 23 = _; rw [l1.2.2.1 23 (by omega)]; exact hvn) (by show t.1 24 = _; rw [l1.2.2.1 24 (by omega)]; exact hfn) hn40 hm2 l2 (by have := hP.2.1; omega)) ?_
                      rintro _ ⟨t2, rfl, hD⟩
                      refine me2 (pc' := 287) (S' := []) dm_X12_next_159 rfl rfl rfl ?_
                      refine y_ret (r := none) dm_X12_next_287 rfl rfl rfl ?_
                      refine ⟨rfl, t2, rfl, rtk_tr (show rtk s (va_up t.1 39 (t.1 35), t.2.1, t.2.2.1, t.2.2.2) from rtk_i (j := 39) (by decide) (l1)) hD.1, ?_⟩
                      refine rtP_let hq h0 hsk hqb (by omega) (by omega) ?_ hD l2 l4
                      have z := hfn9 b (by omega) (by omega)
                      unfold fnR at z ⊢
                      show _ ↔ _ = t.2.1 42 ∨ 0 ≤ fndR (t.2.2.2 20) m _
                      rw [l1.2.2.2 42 (by decide), l1.2.1]
                      exact z
                  · replace hb17 := dT hb17
                    refine me1 (pc' := 127) (L' := [(1, ii (byR (va_up t.1 39 (t.1 35), t.2.1, t.2.2.1, t.2.2.2) (t.1 35))), (0, .ref 102)]) (S' := [.ref 102]) dm_X12_next_126 rfl rfl rfl rfl ?_
                    refine me1 (pc' := 128) (L' := [(1, ii (byR (va_up t.1 39 (t.1 35), t.2.1, t.2.2.1, t.2.2.2) (t.1 35))), (0, .ref 102)]) (S' := [ii (byR (va_up t.1 39 (t.1 35), t.2.1, t.2.2.1, t.2.2.2) (t.1 35)), .ref 102]) dm_X12_next_127 rfl rfl rfl rfl ?_
                    refine me0 (pc' := 130) (S' := [ii 95, ii (byR (va_up t.1 39 (t.1 35), t.2.1, t.2.2.1, t.2.2.2) (t.1 35)), .ref 102]) dm_X12_next_128 rfl rfl rfl rfl ?_
                    refine y_2ne (a := byR (va_up t.1 39 (t.1 35), t.2.1, t.2.2.1, t.2.2.2) (t.1 35)) (b := 95) (t := 137) (pc' := 133) dm_X12_next_130 rfl rfl (by omega) (fun hb21 => ?_) (fun hb21 => ?_)
                    · exfalso; omega
                    · refine me0 (pc' := 134) (S' := [ii 1, .ref 102]) dm_X12_next_133 rfl rfl rfl rfl ?_
                      refine me2 (pc' := 138) (S' := [ii 1, .ref 102]) dm_X12_next_134 rfl rfl rfl ?_
                      refine x_cn (pc' := 141) (rest := []) dm_X12_next_138 rfl (q_inv (As := [ii 1]) (S := []) hm rfl rfl rfl) rfl rfl rfl (r_digits1_ (s := (va_up t.1 39 (t.1 35), t.2.1, t.2.2.1, t.2.2.2)) (fr := b + 1) hm (by omega) (tpR_k hP (rtk_i (j := 39) (by decide) (l1))) ((show t.1 35 = _ by omega)) (by have := hP.2.1; omega)) ?_
                      rintro _ ⟨t2, rfl, hD⟩
                      refine me2 (pc' := 287) (S' := []) dm_X12_next_141 rfl rfl rfl ?_
                      refine y_ret (r := none) dm_X12_next_287 rfl rfl rfl ?_
                      refine ⟨rfl, t2, rfl, rtk_tr (show rtk s (va_up t.1 39 (t.1 35), t.2.1, t.2.2.1, t.2.2.2) from rtk_i (j := 39) (by decide) (l1)) hD.1, ?_⟩
                      exact rtP_neg hq hsk hqb (by omega) (by omega) (by omega) hD l2 l4
            · exfalso; omega
          · have hb32 : bf b = 32 := by omega
            refine me1 (pc' := 48) (L' := [(0, .ref 102)]) (S' := [.ref 102]) dm_X12_next_47 rfl rfl rfl rfl ?_
            refine me0 (pc' := 49) (S' := [.ref 102, .ref 102]) dm_X12_next_48 rfl rfl rfl rfl ?_
            refine me3 (pc' := 52) (S' := [ii (t.1 35), .ref 102]) dm_X12_next_49 (q_geti (v := t.1 35) hm rfl (fun m i l => rg_35 m i l) rfl) rfl rfl rfl ?_
            refine me0 (pc' := 53) (S' := [ii 1, ii (t.1 35), .ref 102]) dm_X12_next_52 rfl rfl rfl rfl ?_
            refine y_iadd (a := t.1 35) (b := 1) dm_X12_next_53 (pc' := 54) rfl ?_
            refine me3 (pc' := 57) (S' := []) (h1 := rI pre post (va_up t.1 35 ((t.1 35) + 1)) t.2.1 t.2.2.1 t.2.2.2) dm_X12_next_54 (q_puti hm rfl rfl (fun m i l v => rf_35 m i l v)) rfl rfl rfl ?_
            refine me2 (pc' := 22) (S' := []) dm_X12_next_57 rfl rfl rfl ?_
            exact pg_sub (L := [(0, .ref 102)]) rfl rfl rfl (ih22 (ln - (b + 1)) (by omega) (b + 1) (va_up t.1 35 ((t.1 35) + 1), t.2.1, t.2.2.1, t.2.2.2) rfl (by omega) (by omega) (fun j x y => by by_cases z : j = b; (rw [z]; exact hb32); exact hbb j x (by omega)) ⟨rtk_i (j := 35) (by decide) (l1), (show t.1 35 + 1 = _ by omega), l3, l4⟩)
    exact pg_sub (L := [(0, .ref 102)]) rfl rfl rfl (lp22 _ a s rfl hqa hal hbl ⟨rtk_rf s, h35, rfl, rfl⟩)
  · refine me1 (pc' := 8) (L' := [(0, .ref 102)]) (S' := [.ref 102]) dm_X12_next_7 rfl rfl rfl rfl ?_
    refine me0 (pc' := 10) (S' := [ii 8, .ref 102]) dm_X12_next_8 rfl rfl rfl rfl ?_
    refine me3 (pc' := 13) (S' := []) (h1 := rI pre post (va_up s.1 38 8) s.2.1 s.2.2.1 s.2.2.2) dm_X12_next_10 (q_puti hm rfl rfl (fun m i l v => rf_38 m i l v)) rfl rfl rfl ?_
    refine me1 (pc' := 14) (L' := [(0, .ref 102)]) (S' := [.ref 102]) dm_X12_next_13 rfl rfl rfl rfl ?_
    refine me1 (pc' := 15) (L' := [(0, .ref 102)]) (S' := [.ref 102, .ref 102]) dm_X12_next_14 rfl rfl rfl rfl ?_
    refine me3 (pc' := 18) (S' := [ii (s.1 35), .ref 102]) dm_X12_next_15 (q_geti (v := s.1 35) hm rfl (fun m i l => rg_35 m i l) rfl) rfl rfl rfl ?_
    refine me3 (pc' := 21) (S' := []) (h1 := rI pre post (va_up (va_up s.1 38 8) 39 (s.1 35)) s.2.1 s.2.2.1 s.2.2.2) dm_X12_next_18 (q_puti hm rfl rfl (fun m i l v => rf_39 m i l v)) rfl rfl rfl ?_
    refine y_ret (r := none) dm_X12_next_21 rfl rfl rfl ?_
    obtain ⟨z35, zl, zk⟩ := rtQ_st (fn := fn) hq (by omega)
    exact ⟨rfl, (va_up (va_up s.1 38 8) 39 (s.1 35), s.2.1, s.2.2.1, s.2.2.2), rfl, rtk_i (j := 39) (by decide) (rtk_i (j := 38) (by decide) (rtk_rf s)), rtP_8 hq (Or.inr rfl) zk (fun j x y => absurd y (by omega)) (Nat.le_refl _) zl rfl z35 z35 rfl rfl⟩
