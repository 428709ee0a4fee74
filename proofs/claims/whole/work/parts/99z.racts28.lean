theorem amL_3 {v w u : VV} {k : Nat} (h : ¬ (2 ≤ vk (gvF w u k) ∧ vk (gvF w u k) ≤ 5)) : amL v w u k = 3 := by unfold amL lnA; rw [if_pos h]; rfl
theorem amL_5 {v w u : VV} {k : Nat} (h : 2 ≤ vk (gvF w u k) ∧ vk (gvF w u k) ≤ 5) (h3 : vk (gvF w u k) = 3) : amL v w u k = 5 := by unfold amL lnA; rw [if_neg (fun z => z h), if_pos h3]; rfl
theorem amL_4 {v w u : VV} {k : Nat} (h : 2 ≤ vk (gvF w u k) ∧ vk (gvF w u k) ≤ 5) (h3 : vk (gvF w u k) ≠ 3) (h4 : vm (gvF w u k) ≠ vc v) : amL v w u k = 4 := by unfold amL lnA; rw [if_neg (fun z => z h), if_neg h3, if_pos h4]; rfl
theorem amL_6 {v w u : VV} {k i : Nat} (h : 2 ≤ vk (gvF w u k) ∧ vk (gvF w u k) ≤ 5) (h3 : vk (gvF w u k) ≠ 3) (h4 : vm (gvF w u k) = vc v) (hi : i < vc v) (hf : ¬ fits (vn (gvF w u k) i)) : amL v w u k = 6 := by
  unfold amL lnA
  rw [if_neg (fun z => z h), if_neg h3, if_neg (fun z => z h4), if_neg (fun z => hf (allF_iff.mp z i hi))]
  rfl
def alfP (g : VV) (i : Nat) : Prop := ∀ j, j < i → fits (vn g j)
theorem amL_0 {v w u : VV} {k : Nat} (h : 2 ≤ vk (gvF w u k) ∧ vk (gvF w u k) ≤ 5) (h3 : vk (gvF w u k) ≠ 3) (h4 : vm (gvF w u k) = vc v) (hf : alfP (gvF w u k) (vc v)) : amL v w u k = 0 := by
  unfold amL lnA
  rw [if_neg (fun z => z h), if_neg h3, if_neg (fun z => z h4), if_pos (allF_iff.mpr hf)]
  rfl
/-- what a table amended is -/
def amT (v w u : VV) : Nat ⊕ VV := if errs (amL v w u) (vm w) ≠ 0 then .inl (errs (amL v w u) (vm w)).toNat else .inr (vtab (vm v) (vc v) (tbn v (amP w u)))
theorem amT_e {v w u : VV} {k n : Nat} (h0 : errs (amL v w u) k = 0) (hk : k < vm w) (hn : amL v w u k = (n : Int)) (h : n ≠ 0) : amT v w u = .inl n := by
  have y := errs_mono (g := amL v w u) (k := k + 1) (by rw [errs_s0 h0, hn]; omega) (vm w - (k + 1))
  rw [show k + 1 + (vm w - (k + 1)) = vm w by omega, errs_s0 h0, hn] at y
  unfold amT
  rw [y, if_pos (by omega)]
  rfl
theorem amT_v {v w u : VV} (h0 : errs (amL v w u) (vm w) = 0) : amT v w u = .inr (vtab (vm v) (vc v) (tbn v (amP w u))) := by
  unfold amT; rw [if_neg (fun z => z h0)]
theorem amT_fit {v w u : VV} (h0 : errs (amL v w u) (vm w) = 0) (hv : vw1 v) (h6 : vk v = 6) {j : Nat} (hj : j < vm v * vc v) (hc : 0 < vc v) : fits (tbn v (amP w u) j) := by
  cases z : amP w u (j / vc v) with
  | none => rw [tbn_n z]; exact (hv.2.2.2.1 h6).2.2.2.2 j hj
  | some g =>
    rw [tbn_s z]
    obtain ⟨k, hk, rfl⟩ := amJ_some z
    have y : lnA (gvF w u k) (vc v) = 0 := by have x : (lnA (gvF w u k) (vc v) : Int) = 0 := errs_all h0 k hk; omega
    exact (lnA_0 y).2.2.2.2 _ (Nat.mod_lt _ hc)

set_option maxRecDepth 20000 in
theorem pm_X12_amendedTable : mj_mmof pg_ms 302 = some ((⟨"ArrayCalculatorModel", "amendedTable", "(IIII)I"⟩, prog_14_method_102_code, 10, (Option.some Jvm.ClassFile.FieldType.int)), 12, false, mj_dec prog_14_method_102_code) := rfl
theorem dm_X12_amendedTable_0 : mj_dec prog_14_method_102_code 0 = some (.aload_n 0, 1) := by decide +kernel
theorem dm_X12_amendedTable_1 : mj_dec prog_14_method_102_code 1 = some (.iload_n 1, 1) := by decide +kernel
theorem dm_X12_amendedTable_2 : mj_dec prog_14_method_102_code 2 = some (.invokevirtual 156, 3) := by decide +kernel
theorem dm_X12_amendedTable_5 : mj_dec prog_14_method_102_code 5 = some (.istore 5, 2) := by decide +kernel
theorem dm_X12_amendedTable_7 : mj_dec prog_14_method_102_code 7 = some (.aload_n 0, 1) := by decide +kernel
theorem dm_X12_amendedTable_8 : mj_dec prog_14_method_102_code 8 = some (.aload_n 0, 1) := by decide +kernel
theorem dm_X12_amendedTable_9 : mj_dec prog_14_method_102_code 9 = some (.iload_n 1, 1) := by decide +kernel
theorem dm_X12_amendedTable_10 : mj_dec prog_14_method_102_code 10 = some (.invokevirtual 134, 3) := by decide +kernel
theorem dm_X12_amendedTable_13 : mj_dec prog_14_method_102_code 13 = some (.iload 5, 2) := by decide +kernel
theorem dm_X12_amendedTable_15 : mj_dec prog_14_method_102_code 15 = some (.invokevirtual 255, 3) := by decide +kernel
theorem dm_X12_amendedTable_18 : mj_dec prog_14_method_102_code 18 = some (.istore 6, 2) := by decide +kernel
theorem dm_X12_amendedTable_20 : mj_dec prog_14_method_102_code 20 = some (.iconst 0, 1) := by decide +kernel
theorem dm_X12_amendedTable_21 : mj_dec prog_14_method_102_code 21 = some (.istore 7, 2) := by decide +kernel
theorem dm_X12_amendedTable_23 : mj_dec prog_14_method_102_code 23 = some (.iload 7, 2) := by decide +kernel
theorem dm_X12_amendedTable_25 : mj_dec prog_14_method_102_code 25 = some (.aload_n 0, 1) := by decide +kernel
theorem dm_X12_amendedTable_26 : mj_dec prog_14_method_102_code 26 = some (.iload_n 1, 1) := by decide +kernel
theorem dm_X12_amendedTable_27 : mj_dec prog_14_method_102_code 27 = some (.invokevirtual 134, 3) := by decide +kernel
theorem dm_X12_amendedTable_30 : mj_dec prog_14_method_102_code 30 = some (.iload 5, 2) := by decide +kernel
theorem dm_X12_amendedTable_32 : mj_dec prog_14_method_102_code 32 = some (.imul, 1) := by decide +kernel
theorem dm_X12_amendedTable_33 : mj_dec prog_14_method_102_code 33 = some (.if_icmp .ge 31, 3) := by decide +kernel
theorem dm_X12_amendedTable_36 : mj_dec prog_14_method_102_code 36 = some (.aload_n 0, 1) := by decide +kernel
theorem dm_X12_amendedTable_37 : mj_dec prog_14_method_102_code 37 = some (.getfield 8, 3) := by decide +kernel
theorem dm_X12_amendedTable_40 : mj_dec prog_14_method_102_code 40 = some (.aload_n 0, 1) := by decide +kernel
theorem dm_X12_amendedTable_41 : mj_dec prog_14_method_102_code 41 = some (.getfield 15, 3) := by decide +kernel
theorem dm_X12_amendedTable_44 : mj_dec prog_14_method_102_code 44 = some (.iload 6, 2) := by decide +kernel
theorem dm_X12_amendedTable_46 : mj_dec prog_14_method_102_code 46 = some (.iaload, 1) := by decide +kernel
theorem dm_X12_amendedTable_47 : mj_dec prog_14_method_102_code 47 = some (.iload 7, 2) := by decide +kernel
theorem dm_X12_amendedTable_49 : mj_dec prog_14_method_102_code 49 = some (.iadd, 1) := by decide +kernel
theorem dm_X12_amendedTable_50 : mj_dec prog_14_method_102_code 50 = some (.aload_n 0, 1) := by decide +kernel
theorem dm_X12_amendedTable_51 : mj_dec prog_14_method_102_code 51 = some (.iload_n 1, 1) := by decide +kernel
theorem dm_X12_amendedTable_52 : mj_dec prog_14_method_102_code 52 = some (.iload 7, 2) := by decide +kernel
theorem dm_X12_amendedTable_54 : mj_dec prog_14_method_102_code 54 = some (.invokevirtual 138, 3) := by decide +kernel
theorem dm_X12_amendedTable_57 : mj_dec prog_14_method_102_code 57 = some (.lastore, 1) := by decide +kernel
theorem dm_X12_amendedTable_58 : mj_dec prog_14_method_102_code 58 = some (.iinc 7 1, 3) := by decide +kernel
theorem dm_X12_amendedTable_61 : mj_dec prog_14_method_102_code 61 = some (.goto (-38), 3) := by decide +kernel
theorem dm_X12_amendedTable_64 : mj_dec prog_14_method_102_code 64 = some (.iconst 0, 1) := by decide +kernel
theorem dm_X12_amendedTable_65 : mj_dec prog_14_method_102_code 65 = some (.istore 7, 2) := by decide +kernel
theorem dm_X12_amendedTable_67 : mj_dec prog_14_method_102_code 67 = some (.iload 7, 2) := by decide +kernel
theorem dm_X12_amendedTable_69 : mj_dec prog_14_method_102_code 69 = some (.aload_n 0, 1) := by decide +kernel
theorem dm_X12_amendedTable_70 : mj_dec prog_14_method_102_code 70 = some (.iload_n 2, 1) := by decide +kernel
theorem dm_X12_amendedTable_71 : mj_dec prog_14_method_102_code 71 = some (.invokevirtual 134, 3) := by decide +kernel
theorem dm_X12_amendedTable_74 : mj_dec prog_14_method_102_code 74 = some (.if_icmp .ge 148, 3) := by decide +kernel
theorem dm_X12_amendedTable_77 : mj_dec prog_14_method_102_code 77 = some (.aload_n 0, 1) := by decide +kernel
theorem dm_X12_amendedTable_78 : mj_dec prog_14_method_102_code 78 = some (.iload_n 2, 1) := by decide +kernel
theorem dm_X12_amendedTable_79 : mj_dec prog_14_method_102_code 79 = some (.iload_n 3, 1) := by decide +kernel
theorem dm_X12_amendedTable_80 : mj_dec prog_14_method_102_code 80 = some (.iload 7, 2) := by decide +kernel
theorem dm_X12_amendedTable_82 : mj_dec prog_14_method_102_code 82 = some (.iconst 0, 1) := by decide +kernel
theorem dm_X12_amendedTable_83 : mj_dec prog_14_method_102_code 83 = some (.invokevirtual 538, 3) := by decide +kernel
theorem dm_X12_amendedTable_86 : mj_dec prog_14_method_102_code 86 = some (.istore 8, 2) := by decide +kernel
theorem dm_X12_amendedTable_88 : mj_dec prog_14_method_102_code 88 = some (.aload_n 0, 1) := by decide +kernel
theorem dm_X12_amendedTable_89 : mj_dec prog_14_method_102_code 89 = some (.iload 8, 2) := by decide +kernel
theorem dm_X12_amendedTable_91 : mj_dec prog_14_method_102_code 91 = some (.invokevirtual 149, 3) := by decide +kernel
theorem dm_X12_amendedTable_94 : mj_dec prog_14_method_102_code 94 = some (.ifCond .ne 11, 3) := by decide +kernel
theorem dm_X12_amendedTable_97 : mj_dec prog_14_method_102_code 97 = some (.aload_n 0, 1) := by decide +kernel
theorem dm_X12_amendedTable_98 : mj_dec prog_14_method_102_code 98 = some (.iconst 3, 1) := by decide +kernel
theorem dm_X12_amendedTable_99 : mj_dec prog_14_method_102_code 99 = some (.iload 4, 2) := by decide +kernel
theorem dm_X12_amendedTable_101 : mj_dec prog_14_method_102_code 101 = some (.invokevirtual 190, 3) := by decide +kernel
theorem dm_X12_amendedTable_104 : mj_dec prog_14_method_102_code 104 = some (.ireturn, 1) := by decide +kernel
theorem dm_X12_amendedTable_105 : mj_dec prog_14_method_102_code 105 = some (.aload_n 0, 1) := by decide +kernel
theorem dm_X12_amendedTable_106 : mj_dec prog_14_method_102_code 106 = some (.iload 8, 2) := by decide +kernel
theorem dm_X12_amendedTable_108 : mj_dec prog_14_method_102_code 108 = some (.invokevirtual 146, 3) := by decide +kernel
theorem dm_X12_amendedTable_111 : mj_dec prog_14_method_102_code 111 = some (.iconst 3, 1) := by decide +kernel
theorem dm_X12_amendedTable_112 : mj_dec prog_14_method_102_code 112 = some (.if_icmp .ne 11, 3) := by decide +kernel
theorem dm_X12_amendedTable_115 : mj_dec prog_14_method_102_code 115 = some (.aload_n 0, 1) := by decide +kernel
theorem dm_X12_amendedTable_116 : mj_dec prog_14_method_102_code 116 = some (.iconst 5, 1) := by decide +kernel
theorem dm_X12_amendedTable_117 : mj_dec prog_14_method_102_code 117 = some (.iload 4, 2) := by decide +kernel
theorem dm_X12_amendedTable_119 : mj_dec prog_14_method_102_code 119 = some (.invokevirtual 190, 3) := by decide +kernel
theorem dm_X12_amendedTable_122 : mj_dec prog_14_method_102_code 122 = some (.ireturn, 1) := by decide +kernel
theorem dm_X12_amendedTable_123 : mj_dec prog_14_method_102_code 123 = some (.aload_n 0, 1) := by decide +kernel
theorem dm_X12_amendedTable_124 : mj_dec prog_14_method_102_code 124 = some (.iload 8, 2) := by decide +kernel
theorem dm_X12_amendedTable_126 : mj_dec prog_14_method_102_code 126 = some (.invokevirtual 134, 3) := by decide +kernel
theorem dm_X12_amendedTable_129 : mj_dec prog_14_method_102_code 129 = some (.iload 5, 2) := by decide +kernel
theorem dm_X12_amendedTable_131 : mj_dec prog_14_method_102_code 131 = some (.if_icmp .eq 11, 3) := by decide +kernel
theorem dm_X12_amendedTable_134 : mj_dec prog_14_method_102_code 134 = some (.aload_n 0, 1) := by decide +kernel
theorem dm_X12_amendedTable_135 : mj_dec prog_14_method_102_code 135 = some (.iconst 4, 1) := by decide +kernel
theorem dm_X12_amendedTable_136 : mj_dec prog_14_method_102_code 136 = some (.iload 4, 2) := by decide +kernel
theorem dm_X12_amendedTable_138 : mj_dec prog_14_method_102_code 138 = some (.invokevirtual 190, 3) := by decide +kernel
theorem dm_X12_amendedTable_141 : mj_dec prog_14_method_102_code 141 = some (.ireturn, 1) := by decide +kernel
theorem dm_X12_amendedTable_142 : mj_dec prog_14_method_102_code 142 = some (.iconst 0, 1) := by decide +kernel
theorem dm_X12_amendedTable_143 : mj_dec prog_14_method_102_code 143 = some (.istore 9, 2) := by decide +kernel
theorem dm_X12_amendedTable_145 : mj_dec prog_14_method_102_code 145 = some (.iload 9, 2) := by decide +kernel
theorem dm_X12_amendedTable_147 : mj_dec prog_14_method_102_code 147 = some (.iload 5, 2) := by decide +kernel
theorem dm_X12_amendedTable_149 : mj_dec prog_14_method_102_code 149 = some (.if_icmp .ge 67, 3) := by decide +kernel
theorem dm_X12_amendedTable_152 : mj_dec prog_14_method_102_code 152 = some (.aload_n 0, 1) := by decide +kernel
theorem dm_X12_amendedTable_153 : mj_dec prog_14_method_102_code 153 = some (.iload 8, 2) := by decide +kernel
theorem dm_X12_amendedTable_155 : mj_dec prog_14_method_102_code 155 = some (.iload 9, 2) := by decide +kernel
theorem dm_X12_amendedTable_157 : mj_dec prog_14_method_102_code 157 = some (.invokevirtual 138, 3) := by decide +kernel
theorem dm_X12_amendedTable_160 : mj_dec prog_14_method_102_code 160 = some (.invokestatic 142, 3) := by decide +kernel
theorem dm_X12_amendedTable_163 : mj_dec prog_14_method_102_code 163 = some (.ifCond .ne 12, 3) := by decide +kernel
theorem dm_X12_amendedTable_166 : mj_dec prog_14_method_102_code 166 = some (.aload_n 0, 1) := by decide +kernel
theorem dm_X12_amendedTable_167 : mj_dec prog_14_method_102_code 167 = some (.bipush 6, 2) := by decide +kernel
theorem dm_X12_amendedTable_169 : mj_dec prog_14_method_102_code 169 = some (.iload 4, 2) := by decide +kernel
theorem dm_X12_amendedTable_171 : mj_dec prog_14_method_102_code 171 = some (.invokevirtual 190, 3) := by decide +kernel
theorem dm_X12_amendedTable_174 : mj_dec prog_14_method_102_code 174 = some (.ireturn, 1) := by decide +kernel
theorem dm_X12_amendedTable_175 : mj_dec prog_14_method_102_code 175 = some (.aload_n 0, 1) := by decide +kernel
theorem dm_X12_amendedTable_176 : mj_dec prog_14_method_102_code 176 = some (.getfield 8, 3) := by decide +kernel
theorem dm_X12_amendedTable_179 : mj_dec prog_14_method_102_code 179 = some (.aload_n 0, 1) := by decide +kernel
theorem dm_X12_amendedTable_180 : mj_dec prog_14_method_102_code 180 = some (.getfield 15, 3) := by decide +kernel
theorem dm_X12_amendedTable_183 : mj_dec prog_14_method_102_code 183 = some (.iload 6, 2) := by decide +kernel
theorem dm_X12_amendedTable_185 : mj_dec prog_14_method_102_code 185 = some (.iaload, 1) := by decide +kernel
theorem dm_X12_amendedTable_186 : mj_dec prog_14_method_102_code 186 = some (.aload_n 0, 1) := by decide +kernel
theorem dm_X12_amendedTable_187 : mj_dec prog_14_method_102_code 187 = some (.iload_n 2, 1) := by decide +kernel
theorem dm_X12_amendedTable_188 : mj_dec prog_14_method_102_code 188 = some (.iload 7, 2) := by decide +kernel
theorem dm_X12_amendedTable_190 : mj_dec prog_14_method_102_code 190 = some (.invokevirtual 138, 3) := by decide +kernel
theorem dm_X12_amendedTable_193 : mj_dec prog_14_method_102_code 193 = some (.l2i, 1) := by decide +kernel
theorem dm_X12_amendedTable_194 : mj_dec prog_14_method_102_code 194 = some (.iload 5, 2) := by decide +kernel
theorem dm_X12_amendedTable_196 : mj_dec prog_14_method_102_code 196 = some (.imul, 1) := by decide +kernel
theorem dm_X12_amendedTable_197 : mj_dec prog_14_method_102_code 197 = some (.iadd, 1) := by decide +kernel
theorem dm_X12_amendedTable_198 : mj_dec prog_14_method_102_code 198 = some (.iload 9, 2) := by decide +kernel
theorem dm_X12_amendedTable_200 : mj_dec prog_14_method_102_code 200 = some (.iadd, 1) := by decide +kernel
theorem dm_X12_amendedTable_201 : mj_dec prog_14_method_102_code 201 = some (.aload_n 0, 1) := by decide +kernel
theorem dm_X12_amendedTable_202 : mj_dec prog_14_method_102_code 202 = some (.iload 8, 2) := by decide +kernel
theorem dm_X12_amendedTable_204 : mj_dec prog_14_method_102_code 204 = some (.iload 9, 2) := by decide +kernel
theorem dm_X12_amendedTable_206 : mj_dec prog_14_method_102_code 206 = some (.invokevirtual 138, 3) := by decide +kernel
theorem dm_X12_amendedTable_209 : mj_dec prog_14_method_102_code 209 = some (.lastore, 1) := by decide +kernel
theorem dm_X12_amendedTable_210 : mj_dec prog_14_method_102_code 210 = some (.iinc 9 1, 3) := by decide +kernel
theorem dm_X12_amendedTable_213 : mj_dec prog_14_method_102_code 213 = some (.goto (-68), 3) := by decide +kernel
theorem dm_X12_amendedTable_216 : mj_dec prog_14_method_102_code 216 = some (.iinc 7 1, 3) := by decide +kernel
theorem dm_X12_amendedTable_219 : mj_dec prog_14_method_102_code 219 = some (.goto (-152), 3) := by decide +kernel
theorem dm_X12_amendedTable_222 : mj_dec prog_14_method_102_code 222 = some (.iload 6, 2) := by decide +kernel
theorem dm_X12_amendedTable_224 : mj_dec prog_14_method_102_code 224 = some (.ireturn, 1) := by decide +kernel
theorem r_amendedTable_ {xt : mj_X} {d e hd hd2 q b : Nat} {pre post : mj_H} {s : RS} {v w : VV} {place : Int} (hm : pre.length = 102) (hd1 : 6 ≤ d) (hB : rB s) (hv : rv s (e + 1) hd v) (hh3 : 3 ≤ hd) (hw : rv s (e + 1) hd2 w) (hh4 : 3 ≤ hd2) (hq : s.1 4 = (q : Int)) (hb : s.1 3 = (b : Int)) (hq3 : 3 ≤ q) (hV2 : q < 310000) (he0 : s.1 5 = 0) (hca : 0 ≤ s.1 10 ∧ s.1 10 ≤ 100) (hC : b + 300 ≤ 820000) {hd3 : Nat} {u : VV} (hu : rv s (e + 1) hd3 u) (hh5 : 3 ≤ hd3) (hk6 : vk v = 6) (hw5 : vk w ≤ 5) (hal : allP v w = true) (hwu : (vk w ≤ 1 ∨ vk u ≤ 1) ∨ vm w = vm u) : pgV xt d 302 [.ref 102, ii (hd : Int), ii (hd2 : Int), ii (hd3 : Int), ii place] (rS pre post s) (rres pre post s (e + 1) (amT v w u) place (vq v) 1) := by
  have hB0 := hB
  obtain ⟨hB1, hB2, hB3, hB4⟩ := hB
  obtain ⟨fr, hfr, hsh, hlt, hcl, hvk, hvm, hvc, hvq, hvcl⟩ := rv_val hv
  obtain ⟨fw, hfw, hshw, hltw, hclw, hwk, hwm, hwc, hwq, hwcl⟩ := rv_val hw
  obtain ⟨fu, hfu, hshu, hltu, hclu, huk, hum, huc, huq, hucl⟩ := rv_val hu
  have hv12 := hv.1.2.2.2.1 hk6
  have hvc0 : 0 < vc v := by have := hv12.2.2.1; omega
  have hv1_ : 1 ≤ vm v ∧ vm v ≤ 12 := ⟨hv12.1, hv12.2.1⟩
  have hN144 : vm v * vc v ≤ 144 := Nat.mul_le_mul hv1_.2 hvc
  have hvqN : vq v = vm v * vc v := vq_tb hk6
  have hwqN : vq w = vm w := vq_m hw5
  have hNI : (vm v : Int) * (vc v : Int) = ((vm v * vc v : Nat) : Int) := (Int.natCast_mul _ _).symm
  refine x_enter pm_X12_amendedTable (L0 := [(0, .ref 102), (1, ii (hd : Int)), (2, ii (hd2 : Int)), (3, ii (hd3 : Int)), (4, ii place)]) rfl (Nat.le_of_ble_eq_true rfl) (by omega) ?_
  refine me1 (pc' := 1) (L' := [(0, .ref 102), (1, ii (hd : Int)), (2, ii (hd2 : Int)), (3, ii (hd3 : Int)), (4, ii place)]) (S' := [.ref 102]) dm_X12_amendedTable_0 rfl rfl rfl rfl ?_
  refine me1 (pc' := 2) (L' := [(0, .ref 102), (1, ii (hd : Int)), (2, ii (hd2 : Int)), (3, ii (hd3 : Int)), (4, ii place)]) (S' := [ii (hd : Int), .ref 102]) dm_X12_amendedTable_1 rfl rfl rfl rfl ?_
  refine x_cp (pc' := 5) (v := ii (vc v : Int)) (rest := []) dm_X12_amendedTable_2 rfl (q_inv (As := [ii (hd : Int)]) (S := []) hm rfl rfl rfl) rfl rfl rfl (r_columns_ hm (by omega) hB0 hv) ?_
  refine me1 (pc' := 7) (L' := [(5, ii (vc v : Int)), (0, .ref 102), (1, ii (hd : Int)), (2, ii (hd2 : Int)), (3, ii (hd3 : Int)), (4, ii place)]) (S' := []) dm_X12_amendedTable_5 rfl rfl rfl rfl ?_
  refine me1 (pc' := 8) (L' := [(5, ii (vc v : Int)), (0, .ref 102), (1, ii (hd : Int)), (2, ii (hd2 : Int)), (3, ii (hd3 : Int)), (4, ii place)]) (S' := [.ref 102]) dm_X12_amendedTable_7 rfl rfl rfl rfl ?_
  refine me1 (pc' := 9) (L' := [(5, ii (vc v : Int)), (0, .ref 102), (1, ii (hd : Int)), (2, ii (hd2 : Int)), (3, ii (hd3 : Int)), (4, ii place)]) (S' := [.ref 102, .ref 102]) dm_X12_amendedTable_8 rfl rfl rfl rfl ?_
  refine me1 (pc' := 10) (L' := [(5, ii (vc v : Int)), (0, .ref 102), (1, ii (hd : Int)), (2, ii (hd2 : Int)), (3, ii (hd3 : Int)), (4, ii place)]) (S' := [ii (hd : Int), .ref 102, .ref 102]) dm_X12_amendedTable_9 rfl rfl rfl rfl ?_
  refine x_cp (pc' := 13) (v := ii (vm v : Int)) (rest := [.ref 102]) dm_X12_amendedTable_10 rfl (q_inv (As := [ii (hd : Int)]) (S := [.ref 102]) hm rfl rfl rfl) rfl rfl rfl (r_many_ hm (by omega) hB0 hv) ?_
  refine me1 (pc' := 15) (L' := [(5, ii (vc v : Int)), (0, .ref 102), (1, ii (hd : Int)), (2, ii (hd2 : Int)), (3, ii (hd3 : Int)), (4, ii place)]) (S' := [ii (vc v : Int), ii (vm v : Int), .ref 102]) dm_X12_amendedTable_13 rfl rfl rfl rfl ?_
  refine x_cv (pc' := 18) (rest := []) dm_X12_amendedTable_15 rfl (q_inv (As := [ii (vm v : Int), ii (vc v : Int)]) (S := []) hm rfl rfl rfl) rfl rfl rfl (r_table_ (q := q) (b := b) (s := s) hm (by omega) hq hb (by omega) (by omega) (by omega)) ?_
  rintro _ _ ⟨rfl, rfl⟩
  refine me1 (pc' := 20) (L' := [(6, ii (q : Int)), (5, ii (vc v : Int)), (0, .ref 102), (1, ii (hd : Int)), (2, ii (hd2 : Int)), (3, ii (hd3 : Int)), (4, ii place)]) (S' := []) dm_X12_amendedTable_18 rfl rfl rfl rfl ?_
  have hxT : rext s (tabS s q b (vm v : Int) (vc v : Int)) := rext_tab hq hb (by omega)
  have hBT : rB (tabS s q b (vm v : Int) (vc v : Int)) := ⟨by show 3 ≤ (q : Int) + 1; omega, by show (q : Int) + 1 ≤ 310000; omega, by show 0 ≤ (b : Int) + (vm v : Int) * (vc v : Int); omega, by show (b : Int) + (vm v : Int) * (vc v : Int) ≤ 820000; omega⟩
  have hvT : ∀ (k : Nat) (F : Nat → Int64), rv (fillS (tabS s q b (vm v : Int) (vc v : Int)) b k F) (e + 1) hd v := fun k F => rv_ext (rext_fill hxT (by omega) F) hh3 hv
  have hwT : ∀ (k : Nat) (F : Nat → Int64), rv (fillS (tabS s q b (vm v : Int) (vc v : Int)) b k F) (e + 1) hd2 w := fun k F => rv_ext (rext_fill hxT (by omega) F) hh4 hw
  refine me0 (pc' := 21) (S' := [ii 0]) dm_X12_amendedTable_20 rfl rfl rfl rfl ?_
  refine me1 (pc' := 23) (L' := [(7, ii 0), (6, ii (q : Int)), (5, ii (vc v : Int)), (0, .ref 102), (1, ii (hd : Int)), (2, ii (hd2 : Int)), (3, ii (hd3 : Int)), (4, ii place)]) (S' := []) dm_X12_amendedTable_21 rfl rfl rfl rfl ?_
  have lp23 : ∀ (n23 : Nat) (k : Nat), (vm v * vc v) - k = n23 → (k ≤ (vm v * vc v)) → pgE xt (d - 1) 12 10 false (Option.some Jvm.ClassFile.FieldType.int) (mj_dec prog_14_method_102_code) 23 [(0, .ref 102), (1, ii (hd : Int)), (2, ii (hd2 : Int)), (3, ii (hd3 : Int)), (4, ii place), (5, ii (vc v : Int)), (6, ii (q : Int)), (7, ii (k : Int))] [] (rI pre post ((fillS (tabS s q b (vm v : Int) (vc v : Int)) b k (vn v)).1) ((fillS (tabS s q b (vm v : Int) (vc v : Int)) b k (vn v)).2.1) ((fillS (tabS s q b (vm v : Int) (vc v : Int)) b k (vn v)).2.2.1) ((fillS (tabS s q b (vm v : Int) (vc v : Int)) b k (vn v)).2.2.2)) (fun r h' => ∃ x, r = some x ∧ rres pre post s (e + 1) (amT v w u) place (vq v) 1 x h') := by
    intro n23
    induction n23 using Nat.strongRecOn with
    | ind n23 ih23 =>
      intro k hm23 hk
      refine me1 (pc' := 25) (L' := [(0, .ref 102), (1, ii (hd : Int)), (2, ii (hd2 : Int)), (3, ii (hd3 : Int)), (4, ii place), (5, ii (vc v : Int)), (6, ii (q : Int)), (7, ii (k : Int))]) (S' := [ii (k : Int)]) dm_X12_amendedTable_23 rfl rfl rfl rfl ?_
      refine me1 (pc' := 26) (L' := [(0, .ref 102), (1, ii (hd : Int)), (2, ii (hd2 : Int)), (3, ii (hd3 : Int)), (4, ii place), (5, ii (vc v : Int)), (6, ii (q : Int)), (7, ii (k : Int))]) (S' := [.ref 102, ii (k : Int)]) dm_X12_amendedTable_25 rfl rfl rfl rfl ?_
      refine me1 (pc' := 27) (L' := [(0, .ref 102), (1, ii (hd : Int)), (2, ii (hd2 : Int)), (3, ii (hd3 : Int)), (4, ii place), (5, ii (vc v : Int)), (6, ii (q : Int)), (7, ii (k : Int))]) (S' := [ii (hd : Int), .ref 102, ii (k : Int)]) dm_X12_amendedTable_26 rfl rfl rfl rfl ?_
      refine x_cp (pc' := 30) (v := ii (vm v : Int)) (rest := [ii (k : Int)]) dm_X12_amendedTable_27 rfl (q_inv (As := [ii (hd : Int)]) (S := [ii (k : Int)]) hm rfl rfl rfl) rfl rfl rfl (r_many_ hm (by omega) hBT (hvT _ _)) ?_
      refine me1 (pc' := 32) (L' := [(0, .ref 102), (1, ii (hd : Int)), (2, ii (hd2 : Int)), (3, ii (hd3 : Int)), (4, ii place), (5, ii (vc v : Int)), (6, ii (q : Int)), (7, ii (k : Int))]) (S' := [ii (vc v : Int), ii (vm v : Int), ii (k : Int)]) dm_X12_amendedTable_30 rfl rfl rfl rfl ?_
      refine y_imul (a := (vm v : Int)) (b := (vc v : Int)) dm_X12_amendedTable_32 (pc' := 33) rfl ?_
      refine pg_st (S' := [ii ((vm v * vc v : Nat) : Int), ii (k : Int)]) (congrArg (fun z => ii z :: [ii (k : Int)]) (by push_cast; rfl)) ?_
      refine y_2ge (a := (k : Int)) (b := ((vm v * vc v : Nat) : Int)) (t := 64) (pc' := 36) dm_X12_amendedTable_33 rfl rfl (by omega) (fun hb1 => ?_) (fun hb1 => ?_)
      · have hkN : k = vm v * vc v := by omega
        refine me0 (pc' := 65) (S' := [ii 0]) dm_X12_amendedTable_64 rfl rfl rfl rfl ?_
        refine me1 (pc' := 67) (L' := [(7, ii 0), (0, .ref 102), (1, ii (hd : Int)), (2, ii (hd2 : Int)), (3, ii (hd3 : Int)), (4, ii place), (5, ii (vc v : Int)), (6, ii (q : Int))]) (S' := []) dm_X12_amendedTable_65 rfl rfl rfl rfl ?_
        have lp67 : ∀ (n67 : Nat) (k : Nat) (G : Nat → Int64) (t : RS), vm w - k = n67 → (k ≤ vm w) → (amG v w u k G) → (vw3 (fillS (tabS s q b (vm v : Int) (vc v : Int)) b (vm v * vc v) G) t) → (errs (amL v w u) k = 0) → pgE xt (d - 1) 12 10 false (Option.some Jvm.ClassFile.FieldType.int) (mj_dec prog_14_method_102_code) 67 [(0, .ref 102), (1, ii (hd : Int)), (2, ii (hd2 : Int)), (3, ii (hd3 : Int)), (4, ii place), (5, ii (vc v : Int)), (6, ii (q : Int)), (7, ii ((k : Nat) : Int))] [] (rI pre post t.1 t.2.1 t.2.2.1 t.2.2.2) (fun r h' => ∃ x, r = some x ∧ rres pre post s (e + 1) (amT v w u) place (vq v) 1 x h') := by
          intro n67
          induction n67 using Nat.strongRecOn with
          | ind n67 ih67 =>
            intro k G t hm67 hk hG hvw hE
            have hxt : rext s t := rext_tr (rext_fill hxT (by omega) G) (vw3_pre hvw).1
            have hBt : rB t := rB_vw (s := (fillS (tabS s q b (vm v : Int) (vc v : Int)) b (vm v * vc v) G)) hvw hBT
            have hwt : rv t (e + 1) hd2 w := rv_ext hxt hh4 hw
            refine me1 (pc' := 69) (L' := [(0, .ref 102), (1, ii (hd : Int)), (2, ii (hd2 : Int)), (3, ii (hd3 : Int)), (4, ii place), (5, ii (vc v : Int)), (6, ii (q : Int)), (7, ii ((k : Nat) : Int))]) (S' := [ii ((k : Nat) : Int)]) dm_X12_amendedTable_67 rfl rfl rfl rfl ?_
            refine me1 (pc' := 70) (L' := [(0, .ref 102), (1, ii (hd : Int)), (2, ii (hd2 : Int)), (3, ii (hd3 : Int)), (4, ii place), (5, ii (vc v : Int)), (6, ii (q : Int)), (7, ii ((k : Nat) : Int))]) (S' := [.ref 102, ii ((k : Nat) : Int)]) dm_X12_amendedTable_69 rfl rfl rfl rfl ?_
            refine me1 (pc' := 71) (L' := [(0, .ref 102), (1, ii (hd : Int)), (2, ii (hd2 : Int)), (3, ii (hd3 : Int)), (4, ii place), (5, ii (vc v : Int)), (6, ii (q : Int)), (7, ii ((k : Nat) : Int))]) (S' := [ii (hd2 : Int), .ref 102, ii ((k : Nat) : Int)]) dm_X12_amendedTable_70 rfl rfl rfl rfl ?_
            refine x_cp (pc' := 74) (v := ii (vm w : Int)) (rest := [ii ((k : Nat) : Int)]) dm_X12_amendedTable_71 rfl (q_inv (As := [ii (hd2 : Int)]) (S := [ii ((k : Nat) : Int)]) hm rfl rfl rfl) rfl rfl rfl (r_many_ hm (by omega) hBt hwt) ?_
            refine y_2ge (a := ((k : Nat) : Int)) (b := (vm w : Int)) (t := 222) (pc' := 77) dm_X12_amendedTable_74 rfl rfl (by omega) (fun hb2 => ?_) (fun hb2 => ?_)
            · refine me1 (pc' := 224) (L' := [(0, .ref 102), (1, ii (hd : Int)), (2, ii (hd2 : Int)), (3, ii (hd3 : Int)), (4, ii place), (5, ii (vc v : Int)), (6, ii (q : Int)), (7, ii ((k : Nat) : Int))]) (S' := [ii (q : Int)]) dm_X12_amendedTable_222 rfl rfl rfl rfl ?_
              refine y_ret (r := some (ii (q : Int))) dm_X12_amendedTable_224 rfl rfl rfl ?_
              have hkn : k = vm w := by omega
              rw [hkn] at hG hE
              rw [amT_v hE]
              exact ⟨_, rfl, rres_tabv (r := vm v) (c := vc v) (w := vtab (vm v) (vc v) (tbn v (amP w u))) hvw hq hq3 hb he0 (vw1_tab (by omega) (by omega) (by omega) (by omega) (fun j hj => amT_fit hE hv.1 hk6 hj hvc0)) rfl rfl rfl (fun j hj => hG j hj) (by omega) (Nat.le_refl _)⟩
            · refine me1 (pc' := 78) (L' := [(0, .ref 102), (1, ii (hd : Int)), (2, ii (hd2 : Int)), (3, ii (hd3 : Int)), (4, ii place), (5, ii (vc v : Int)), (6, ii (q : Int)), (7, ii ((k : Nat) : Int))]) (S' := [.ref 102]) dm_X12_amendedTable_77 rfl rfl rfl rfl ?_
              refine me1 (pc' := 79) (L' := [(0, .ref 102), (1, ii (hd : Int)), (2, ii (hd2 : Int)), (3, ii (hd3 : Int)), (4, ii place), (5, ii (vc v : Int)), (6, ii (q : Int)), (7, ii ((k : Nat) : Int))]) (S' := [ii (hd2 : Int), .ref 102]) dm_X12_amendedTable_78 rfl rfl rfl rfl ?_
              refine me1 (pc' := 80) (L' := [(0, .ref 102), (1, ii (hd : Int)), (2, ii (hd2 : Int)), (3, ii (hd3 : Int)), (4, ii place), (5, ii (vc v : Int)), (6, ii (q : Int)), (7, ii ((k : Nat) : Int))]) (S' := [ii (hd3 : Int), ii (hd2 : Int), .ref 102]) dm_X12_amendedTable_79 rfl rfl rfl rfl ?_
              refine me1 (pc' := 82) (L' := [(0, .ref 102), (1, ii (hd : Int)), (2, ii (hd2 : Int)), (3, ii (hd3 : Int)), (4, ii place), (5, ii (vc v : Int)), (6, ii (q : Int)), (7, ii ((k : Nat) : Int))]) (S' := [ii ((k : Nat) : Int), ii (hd3 : Int), ii (hd2 : Int), .ref 102]) dm_X12_amendedTable_80 rfl rfl rfl rfl ?_
              refine me0 (pc' := 83) (S' := [ii 0, ii ((k : Nat) : Int), ii (hd3 : Int), ii (hd2 : Int), .ref 102]) dm_X12_amendedTable_82 rfl rfl rfl rfl ?_
              refine x_cv (pc' := 86) (rest := []) dm_X12_amendedTable_83 rfl (q_inv (As := [ii (hd2 : Int), ii (hd3 : Int), ii ((k : Nat) : Int), ii 0]) (S := []) hm rfl rfl rfl) rfl rfl rfl (r_givenB_ (s0 := s) (s := t) (b := b) (k := k) hm (by omega) hBt hw hh4 hu hh5 hxt hb (by omega) (by omega)) ?_
              rintro _ _ ⟨p1, s1, rfl, rfl, hg, hws1, hp1⟩
              have hv1 := vw3_tr hvw (vw3_of (by decide) hws1)
              have hB1_ : rB s1 := rB_vw (s := (fillS (tabS s q b (vm v : Int) (vc v : Int)) b (vm v * vc v) G)) hv1 hBT
              obtain ⟨fg, hfg, hshg, hltg, hclg, hgk, hgm, hgc, hgq, hgcl⟩ := rv_val hg.1
              have hpl := allN_iff.mp hal k (by omega)
              have hpl1 : 0 ≤ (vn w k).toInt ∧ (vn w k).toInt < (vm v : Int) := of_decide_eq_true hpl
              have hplw : (vn w k).toInt = ((plw w k : Nat) : Int) := by unfold plw; omega
              have hplt : plw w k < vm v := by omega
              refine me1 (pc' := 88) (L' := [(8, ii ((p1 : Nat) : Int)), (0, .ref 102), (1, ii (hd : Int)), (2, ii (hd2 : Int)), (3, ii (hd3 : Int)), (4, ii place), (5, ii (vc v : Int)), (6, ii (q : Int)), (7, ii ((k : Nat) : Int))]) (S' := []) dm_X12_amendedTable_86 rfl rfl rfl rfl ?_
              refine me1 (pc' := 89) (L' := [(8, ii ((p1 : Nat) : Int)), (0, .ref 102), (1, ii (hd : Int)), (2, ii (hd2 : Int)), (3, ii (hd3 : Int)), (4, ii place), (5, ii (vc v : Int)), (6, ii (q : Int)), (7, ii ((k : Nat) : Int))]) (S' := [.ref 102]) dm_X12_amendedTable_88 rfl rfl rfl rfl ?_
              refine me1 (pc' := 91) (L' := [(8, ii ((p1 : Nat) : Int)), (0, .ref 102), (1, ii (hd : Int)), (2, ii (hd2 : Int)), (3, ii (hd3 : Int)), (4, ii place), (5, ii (vc v : Int)), (6, ii (q : Int)), (7, ii ((k : Nat) : Int))]) (S' := [ii ((p1 : Nat) : Int), .ref 102]) dm_X12_amendedTable_89 rfl rfl rfl rfl ?_
              refine x_cp (pc' := 94) (v := zz (decide (2 ≤ vk (gvF w u k) ∧ vk (gvF w u k) ≤ 5))) (rest := []) dm_X12_amendedTable_91 rfl (q_inv (As := [ii ((p1 : Nat) : Int)]) (S := []) hm rfl rfl rfl) rfl rfl rfl (r_isRow_ hm (by omega) hB1_ hg.1) ?_
              refine y_zne (c := decide (2 ≤ vk (gvF w u k) ∧ vk (gvF w u k) ≤ 5)) (t := 105) (pc' := 97) dm_X12_amendedTable_94 rfl rfl (fun hb3 => ?_) (fun hb3 => ?_)
              · replace hb3 := dT hb3
                refine me1 (pc' := 106) (L' := [(8, ii ((p1 : Nat) : Int)), (0, .ref 102), (1, ii (hd : Int)), (2, ii (hd2 : Int)), (3, ii (hd3 : Int)), (4, ii place), (5, ii (vc v : Int)), (6, ii (q : Int)), (7, ii ((k : Nat) : Int))]) (S' := [.ref 102]) dm_X12_amendedTable_105 rfl rfl rfl rfl ?_
                refine me1 (pc' := 108) (L' := [(8, ii ((p1 : Nat) : Int)), (0, .ref 102), (1, ii (hd : Int)), (2, ii (hd2 : Int)), (3, ii (hd3 : Int)), (4, ii place), (5, ii (vc v : Int)), (6, ii (q : Int)), (7, ii ((k : Nat) : Int))]) (S' := [ii ((p1 : Nat) : Int), .ref 102]) dm_X12_amendedTable_106 rfl rfl rfl rfl ?_
                refine x_cp (pc' := 111) (v := ii (vk (gvF w u k) : Int)) (rest := []) dm_X12_amendedTable_108 rfl (q_inv (As := [ii ((p1 : Nat) : Int)]) (S := []) hm rfl rfl rfl) rfl rfl rfl (r_kindOf_ hm (by omega) hB1_ hg.1) ?_
                refine me0 (pc' := 112) (S' := [ii 3, ii (vk (gvF w u k) : Int)]) dm_X12_amendedTable_111 rfl rfl rfl rfl ?_
                refine y_2ne (a := (vk (gvF w u k) : Int)) (b := 3) (t := 123) (pc' := 115) dm_X12_amendedTable_112 rfl rfl (by omega) (fun hb4 => ?_) (fun hb4 => ?_)
                · refine me1 (pc' := 124) (L' := [(8, ii ((p1 : Nat) : Int)), (0, .ref 102), (1, ii (hd : Int)), (2, ii (hd2 : Int)), (3, ii (hd3 : Int)), (4, ii place), (5, ii (vc v : Int)), (6, ii (q : Int)), (7, ii ((k : Nat) : Int))]) (S' := [.ref 102]) dm_X12_amendedTable_123 rfl rfl rfl rfl ?_
                  refine me1 (pc' := 126) (L' := [(8, ii ((p1 : Nat) : Int)), (0, .ref 102), (1, ii (hd : Int)), (2, ii (hd2 : Int)), (3, ii (hd3 : Int)), (4, ii place), (5, ii (vc v : Int)), (6, ii (q : Int)), (7, ii ((k : Nat) : Int))]) (S' := [ii ((p1 : Nat) : Int), .ref 102]) dm_X12_amendedTable_124 rfl rfl rfl rfl ?_
                  refine x_cp (pc' := 129) (v := ii (vm (gvF w u k) : Int)) (rest := []) dm_X12_amendedTable_126 rfl (q_inv (As := [ii ((p1 : Nat) : Int)]) (S := []) hm rfl rfl rfl) rfl rfl rfl (r_many_ hm (by omega) hB1_ hg.1) ?_
                  refine me1 (pc' := 131) (L' := [(8, ii ((p1 : Nat) : Int)), (0, .ref 102), (1, ii (hd : Int)), (2, ii (hd2 : Int)), (3, ii (hd3 : Int)), (4, ii place), (5, ii (vc v : Int)), (6, ii (q : Int)), (7, ii ((k : Nat) : Int))]) (S' := [ii (vc v : Int), ii (vm (gvF w u k) : Int)]) dm_X12_amendedTable_129 rfl rfl rfl rfl ?_
                  refine y_2eq (a := (vm (gvF w u k) : Int)) (b := (vc v : Int)) (t := 142) (pc' := 134) dm_X12_amendedTable_131 rfl rfl (by omega) (fun hb5 => ?_) (fun hb5 => ?_)
                  · refine me0 (pc' := 143) (S' := [ii 0]) dm_X12_amendedTable_142 rfl rfl rfl rfl ?_
                    refine me1 (pc' := 145) (L' := [(9, ii 0), (8, ii ((p1 : Nat) : Int)), (0, .ref 102), (1, ii (hd : Int)), (2, ii (hd2 : Int)), (3, ii (hd3 : Int)), (4, ii place), (5, ii (vc v : Int)), (6, ii (q : Int)), (7, ii ((k : Nat) : Int))]) (S' := []) dm_X12_amendedTable_143 rfl rfl rfl rfl ?_
                    have lp145 : ∀ (n145 : Nat) (i : Nat) (G2 : Nat → Int64) (t2 : RS), vc v - i = n145 → (i ≤ vc v) → (amH v w u k i G2) → (vw3 (fillS (tabS s q b (vm v : Int) (vc v : Int)) b (vm v * vc v) G2) t2) → (t2.2.2.1 = s1.2.2.1) → (alfP (gvF w u k) i) → pgE xt (d - 1) 12 10 false (Option.some Jvm.ClassFile.FieldType.int) (mj_dec prog_14_method_102_code) 145 [(0, .ref 102), (1, ii (hd : Int)), (2, ii (hd2 : Int)), (3, ii (hd3 : Int)), (4, ii place), (5, ii (vc v : Int)), (6, ii (q : Int)), (7, ii ((k : Nat) : Int)), (8, ii ((p1 : Nat) : Int)), (9, ii ((i : Nat) : Int))] [] (rI pre post t2.1 t2.2.1 t2.2.2.1 t2.2.2.2) (fun r h' => ∃ x, r = some x ∧ rres pre post s (e + 1) (amT v w u) place (vq v) 1 x h') := by
                      intro n145
                      induction n145 using Nat.strongRecOn with
                      | ind n145 ih145 =>
                        intro i G2 t2 hm145 hi hG2 hvw2 hV9 hal2
                        have hx2 : rext s t2 := rext_tr (rext_fill hxT (by omega) G2) (vw3_pre hvw2).1
                        have hB2 : rB t2 := rB_vw (s := (fillS (tabS s q b (vm v : Int) (vc v : Int)) b (vm v * vc v) G2)) hvw2 hBT
                        have hw2 : rv t2 (e + 1) hd2 w := rv_ext hx2 hh4 hw
                        have hg2 := rvB_fill hg (by omega) hv1 hvw2 hV9
                        have hq2 : t2.2.2.1 1 q = (b : Int) := by rw [(hvw2.2.2.2.2 q hq3).1]; exact up_eq _ _ _
                        refine me1 (pc' := 147) (L' := [(0, .ref 102), (1, ii (hd : Int)), (2, ii (hd2 : Int)), (3, ii (hd3 : Int)), (4, ii place), (5, ii (vc v : Int)), (6, ii (q : Int)), (7, ii ((k : Nat) : Int)), (8, ii ((p1 : Nat) : Int)), (9, ii ((i : Nat) : Int))]) (S' := [ii ((i : Nat) : Int)]) dm_X12_amendedTable_145 rfl rfl rfl rfl ?_
                        refine me1 (pc' := 149) (L' := [(0, .ref 102), (1, ii (hd : Int)), (2, ii (hd2 : Int)), (3, ii (hd3 : Int)), (4, ii place), (5, ii (vc v : Int)), (6, ii (q : Int)), (7, ii ((k : Nat) : Int)), (8, ii ((p1 : Nat) : Int)), (9, ii ((i : Nat) : Int))]) (S' := [ii (vc v : Int), ii ((i : Nat) : Int)]) dm_X12_amendedTable_147 rfl rfl rfl rfl ?_
                        refine y_2ge (a := ((i : Nat) : Int)) (b := (vc v : Int)) (t := 216) (pc' := 152) dm_X12_amendedTable_149 rfl rfl (by omega) (fun hb6 => ?_) (fun hb6 => ?_)
                        · have hiN : i = vc v := by omega
                          refine y_iinc (pc' := 219) (L' := [(7, ii (((k : Nat) : Int) + 1)), (0, .ref 102), (1, ii (hd : Int)), (2, ii (hd2 : Int)), (3, ii (hd3 : Int)), (4, ii place), (5, ii (vc v : Int)), (6, ii (q : Int)), (8, ii ((p1 : Nat) : Int)), (9, ii ((i : Nat) : Int))]) dm_X12_amendedTable_216 (y_incp (a := ((k : Nat) : Int)) (c := 1) rfl rfl (by decide)) rfl ?_
                          refine me2 (pc' := 67) (S' := []) dm_X12_amendedTable_219 rfl rfl rfl ?_
                          exact pg_sub (L := [(0, .ref 102), (1, ii (hd : Int)), (2, ii (hd2 : Int)), (3, ii (hd3 : Int)), (4, ii place), (5, ii (vc v : Int)), (6, ii (q : Int)), (7, ii (((k + 1) : Nat) : Int))]) rfl rfl rfl (ih67 (vm w - (k + 1)) (by omega) (k + 1) G2 t2 rfl (by omega) (amH_e (by rw [← hiN]; exact hG2) hvc0) hvw2 ((errs_s0 hE).trans (amL_0 (by omega) (by omega) (by omega) (by rw [← hiN]; exact hal2))))
                        · refine me1 (pc' := 153) (L' := [(0, .ref 102), (1, ii (hd : Int)), (2, ii (hd2 : Int)), (3, ii (hd3 : Int)), (4, ii place), (5, ii (vc v : Int)), (6, ii (q : Int)), (7, ii ((k : Nat) : Int)), (8, ii ((p1 : Nat) : Int)), (9, ii ((i : Nat) : Int))]) (S' := [.ref 102]) dm_X12_amendedTable_152 rfl rfl rfl rfl ?_
                          refine me1 (pc' := 155) (L' := [(0, .ref 102), (1, ii (hd : Int)), (2, ii (hd2 : Int)), (3, ii (hd3 : Int)), (4, ii place), (5, ii (vc v : Int)), (6, ii (q : Int)), (7, ii ((k : Nat) : Int)), (8, ii ((p1 : Nat) : Int)), (9, ii ((i : Nat) : Int))]) (S' := [ii ((p1 : Nat) : Int), .ref 102]) dm_X12_amendedTable_153 rfl rfl rfl rfl ?_
                          refine me1 (pc' := 157) (L' := [(0, .ref 102), (1, ii (hd : Int)), (2, ii (hd2 : Int)), (3, ii (hd3 : Int)), (4, ii place), (5, ii (vc v : Int)), (6, ii (q : Int)), (7, ii ((k : Nat) : Int)), (8, ii ((p1 : Nat) : Int)), (9, ii ((i : Nat) : Int))]) (S' := [ii ((i : Nat) : Int), ii ((p1 : Nat) : Int), .ref 102]) dm_X12_amendedTable_155 rfl rfl rfl rfl ?_
                          refine x_cp (pc' := 160) (v := .long (vn (gvF w u k) i)) (rest := []) dm_X12_amendedTable_157 rfl (q_inv (As := [ii ((p1 : Nat) : Int), ii ((i : Nat) : Int)]) (S := []) hm rfl rfl rfl) rfl rfl rfl (r_number_ (k := i) hm (by omega) hB2 hg2.1 (by omega) (by have := vq_m (v := gvF w u k) (by omega); omega)) ?_
                          refine x_cp (pc' := 163) (v := zz (fitsB (vn (gvF w u k) i))) (rest := []) dm_X12_amendedTable_160 rfl (g_invs (As := [.long (vn (gvF w u k) i)]) (S := []) rfl rfl rfl) rfl rfl rfl (r_fits_ (by omega)) ?_
                          refine y_zne (c := fitsB (vn (gvF w u k) i)) (t := 175) (pc' := 166) dm_X12_amendedTable_163 rfl rfl (fun hb7 => ?_) (fun hb7 => ?_)
                          · have hfi : fits (vn (gvF w u k) i) := fitsB_iff.mp hb7
                            refine me1 (pc' := 176) (L' := [(0, .ref 102), (1, ii (hd : Int)), (2, ii (hd2 : Int)), (3, ii (hd3 : Int)), (4, ii place), (5, ii (vc v : Int)), (6, ii (q : Int)), (7, ii ((k : Nat) : Int)), (8, ii ((p1 : Nat) : Int)), (9, ii ((i : Nat) : Int))]) (S' := [.ref 102]) dm_X12_amendedTable_175 rfl rfl rfl rfl ?_
                            refine me3 (pc' := 179) (S' := [.ref (102 + 1)]) dm_X12_amendedTable_176 (q_getr hm rfl (fun m i l => rg_0 m i l)) rfl rfl rfl ?_
                            refine me1 (pc' := 180) (L' := [(0, .ref 102), (1, ii (hd : Int)), (2, ii (hd2 : Int)), (3, ii (hd3 : Int)), (4, ii place), (5, ii (vc v : Int)), (6, ii (q : Int)), (7, ii ((k : Nat) : Int)), (8, ii ((p1 : Nat) : Int)), (9, ii ((i : Nat) : Int))]) (S' := [.ref 102, .ref (102 + 1)]) dm_X12_amendedTable_179 rfl rfl rfl rfl ?_
                            refine me3 (pc' := 183) (S' := [.ref (102 + 2), .ref (102 + 1)]) dm_X12_amendedTable_180 (q_getr hm rfl (fun m i l => rg_1 m i l)) rfl rfl rfl ?_
                            refine me1 (pc' := 185) (L' := [(0, .ref 102), (1, ii (hd : Int)), (2, ii (hd2 : Int)), (3, ii (hd3 : Int)), (4, ii place), (5, ii (vc v : Int)), (6, ii (q : Int)), (7, ii ((k : Nat) : Int)), (8, ii ((p1 : Nat) : Int)), (9, ii ((i : Nat) : Int))]) (S' := [ii (q : Int), .ref (102 + 2), .ref (102 + 1)]) dm_X12_amendedTable_183 rfl rfl rfl rfl ?_
                            refine me3 (pc' := 186) (S' := [ii ((t2.2.2.1 1) q), .ref (102 + 1)]) dm_X12_amendedTable_185 (q_iald (v := (t2.2.2.1 1) q) (k := 1) (n := 310000) hm (fun m i l I J => rc_1 m i l I J) (by omega) (by omega) (by decide) rfl) rfl rfl rfl ?_
                            refine pg_st (S' := [ii (b : Int), .ref (102 + 1)]) (congrArg (fun z => ii z :: [.ref (102 + 1)]) (hq2)) ?_
                            refine me1 (pc' := 187) (L' := [(0, .ref 102), (1, ii (hd : Int)), (2, ii (hd2 : Int)), (3, ii (hd3 : Int)), (4, ii place), (5, ii (vc v : Int)), (6, ii (q : Int)), (7, ii ((k : Nat) : Int)), (8, ii ((p1 : Nat) : Int)), (9, ii ((i : Nat) : Int))]) (S' := [.ref 102, ii (b : Int), .ref (102 + 1)]) dm_X12_amendedTable_186 rfl rfl rfl rfl ?_
                            refine me1 (pc' := 188) (L' := [(0, .ref 102), (1, ii (hd : Int)), (2, ii (hd2 : Int)), (3, ii (hd3 : Int)), (4, ii place), (5, ii (vc v : Int)), (6, ii (q : Int)), (7, ii ((k : Nat) : Int)), (8, ii ((p1 : Nat) : Int)), (9, ii ((i : Nat) : Int))]) (S' := [ii (hd2 : Int), .ref 102, ii (b : Int), .ref (102 + 1)]) dm_X12_amendedTable_187 rfl rfl rfl rfl ?_
                            refine me1 (pc' := 190) (L' := [(0, .ref 102), (1, ii (hd : Int)), (2, ii (hd2 : Int)), (3, ii (hd3 : Int)), (4, ii place), (5, ii (vc v : Int)), (6, ii (q : Int)), (7, ii ((k : Nat) : Int)), (8, ii ((p1 : Nat) : Int)), (9, ii ((i : Nat) : Int))]) (S' := [ii ((k : Nat) : Int), ii (hd2 : Int), .ref 102, ii (b : Int), .ref (102 + 1)]) dm_X12_amendedTable_188 rfl rfl rfl rfl ?_
                            refine x_cp (pc' := 193) (v := .long (vn w k)) (rest := [ii (b : Int), .ref (102 + 1)]) dm_X12_amendedTable_190 rfl (q_inv (As := [ii (hd2 : Int), ii ((k : Nat) : Int)]) (S := [ii (b : Int), .ref (102 + 1)]) hm rfl rfl rfl) rfl rfl rfl (r_number_ (k := k) hm (by omega) hB2 hw2 (by omega) (by omega)) ?_
                            refine y_l2i (a := (vn w k).toInt) dm_X12_amendedTable_193 (pc' := 194) rfl (n_l2i _ rfl) ?_
                            refine me1 (pc' := 196) (L' := [(0, .ref 102), (1, ii (hd : Int)), (2, ii (hd2 : Int)), (3, ii (hd3 : Int)), (4, ii place), (5, ii (vc v : Int)), (6, ii (q : Int)), (7, ii ((k : Nat) : Int)), (8, ii ((p1 : Nat) : Int)), (9, ii ((i : Nat) : Int))]) (S' := [ii (vc v : Int), ii ((vn w k).toInt), ii (b : Int), .ref (102 + 1)]) dm_X12_amendedTable_194 rfl rfl rfl rfl ?_
                            refine y_imul (a := (vn w k).toInt) (b := (vc v : Int)) dm_X12_amendedTable_196 (pc' := 197) rfl ?_
                            refine y_iadd (a := (b : Int)) (b := ((vn w k).toInt) * (vc v : Int)) dm_X12_amendedTable_197 (pc' := 198) rfl ?_
                            refine me1 (pc' := 200) (L' := [(0, .ref 102), (1, ii (hd : Int)), (2, ii (hd2 : Int)), (3, ii (hd3 : Int)), (4, ii place), (5, ii (vc v : Int)), (6, ii (q : Int)), (7, ii ((k : Nat) : Int)), (8, ii ((p1 : Nat) : Int)), (9, ii ((i : Nat) : Int))]) (S' := [ii ((i : Nat) : Int), ii ((b : Int) + (((vn w k).toInt) * (vc v : Int))), .ref (102 + 1)]) dm_X12_amendedTable_198 rfl rfl rfl rfl ?_
                            refine y_iadd (a := (b : Int) + (((vn w k).toInt) * (vc v : Int))) (b := ((i : Nat) : Int)) dm_X12_amendedTable_200 (pc' := 201) rfl ?_
                            have hjN := mul_lt (a := plw w k) (b := i) (m := vc v) (n := vm v) hplt (by omega)
                            refine pg_st (S' := [ii ((b + (plw w k * vc v + i) : Nat) : Int), .ref (102 + 1)]) (congrArg (fun z => ii z :: [.ref (102 + 1)]) (by rw [hplw]; push_cast; omega)) ?_
                            refine me1 (pc' := 202) (L' := [(0, .ref 102), (1, ii (hd : Int)), (2, ii (hd2 : Int)), (3, ii (hd3 : Int)), (4, ii place), (5, ii (vc v : Int)), (6, ii (q : Int)), (7, ii ((k : Nat) : Int)), (8, ii ((p1 : Nat) : Int)), (9, ii ((i : Nat) : Int))]) (S' := [.ref 102, ii ((b + (plw w k * vc v + i) : Nat) : Int), .ref (102 + 1)]) dm_X12_amendedTable_201 rfl rfl rfl rfl ?_
                            refine me1 (pc' := 204) (L' := [(0, .ref 102), (1, ii (hd : Int)), (2, ii (hd2 : Int)), (3, ii (hd3 : Int)), (4, ii place), (5, ii (vc v : Int)), (6, ii (q : Int)), (7, ii ((k : Nat) : Int)), (8, ii ((p1 : Nat) : Int)), (9, ii ((i : Nat) : Int))]) (S' := [ii ((p1 : Nat) : Int), .ref 102, ii ((b + (plw w k * vc v + i) : Nat) : Int), .ref (102 + 1)]) dm_X12_amendedTable_202 rfl rfl rfl rfl ?_
                            refine me1 (pc' := 206) (L' := [(0, .ref 102), (1, ii (hd : Int)), (2, ii (hd2 : Int)), (3, ii (hd3 : Int)), (4, ii place), (5, ii (vc v : Int)), (6, ii (q : Int)), (7, ii ((k : Nat) : Int)), (8, ii ((p1 : Nat) : Int)), (9, ii ((i : Nat) : Int))]) (S' := [ii ((i : Nat) : Int), ii ((p1 : Nat) : Int), .ref 102, ii ((b + (plw w k * vc v + i) : Nat) : Int), .ref (102 + 1)]) dm_X12_amendedTable_204 rfl rfl rfl rfl ?_
                            refine x_cp (pc' := 209) (v := .long (vn (gvF w u k) i)) (rest := [ii ((b + (plw w k * vc v + i) : Nat) : Int), .ref (102 + 1)]) dm_X12_amendedTable_206 rfl (q_inv (As := [ii ((p1 : Nat) : Int), ii ((i : Nat) : Int)]) (S := [ii ((b + (plw w k * vc v + i) : Nat) : Int), .ref (102 + 1)]) hm rfl rfl rfl) rfl rfl rfl (r_number_ (k := i) hm (by omega) hB2 hg2.1 (by omega) (by have := vq_m (v := gvF w u k) (by omega); omega)) ?_
                            refine me3 (pc' := 210) (S' := []) (h1 := rI pre post t2.1 t2.2.1 t2.2.2.1 (va_up t2.2.2.2 0 (va_up (t2.2.2.2 0) (b + (plw w k * vc v + i)) (vn (gvF w u k) i)))) dm_X12_amendedTable_209 (q_last (j := ((b + (plw w k * vc v + i) : Nat) : Int)) (k := 0) (n := 820000) hm (fun m i l I J => rc_0 m i l I J) (fun m i l I J f => rs_0 m i l I J f) (by omega) (by omega) (by decide)) rfl rfl rfl ?_
                            obtain ⟨u2, hu1, hu2, hu3⟩ := fill_vwg (pre := pre) (post := post) (x := vn (gvF w u k) i) hvw2 hjN
                            refine pg_cast (h2 := rS pre post u2) hu1 ?_
                            refine y_iinc (pc' := 213) (L' := [(9, ii (((i : Nat) : Int) + 1)), (0, .ref 102), (1, ii (hd : Int)), (2, ii (hd2 : Int)), (3, ii (hd3 : Int)), (4, ii place), (5, ii (vc v : Int)), (6, ii (q : Int)), (7, ii ((k : Nat) : Int)), (8, ii ((p1 : Nat) : Int))]) dm_X12_amendedTable_210 (y_incp (a := ((i : Nat) : Int)) (c := 1) rfl rfl (by decide)) rfl ?_
                            refine me2 (pc' := 145) (S' := []) dm_X12_amendedTable_213 rfl rfl rfl ?_
                            exact pg_sub (L := [(0, .ref 102), (1, ii (hd : Int)), (2, ii (hd2 : Int)), (3, ii (hd3 : Int)), (4, ii place), (5, ii (vc v : Int)), (6, ii (q : Int)), (7, ii ((k : Nat) : Int)), (8, ii ((p1 : Nat) : Int)), (9, ii (((i + 1) : Nat) : Int))]) rfl rfl rfl (ih145 (vc v - (i + 1)) (by omega) (i + 1) (va_up G2 (plw w k * vc v + i) (vn (gvF w u k) i)) u2 rfl (by omega) (amH_s hG2 (by omega)) hu2 (hu3.trans hV9) (fun j hj => by by_cases z : j = i; (rw [z]; exact hfi); exact hal2 j (by omega)))
                          · have hnf : ¬ fits (vn (gvF w u k) i) := fun z => by rw [fitsB_iff.mpr z] at hb7; cases hb7
                            refine me1 (pc' := 167) (L' := [(0, .ref 102), (1, ii (hd : Int)), (2, ii (hd2 : Int)), (3, ii (hd3 : Int)), (4, ii place), (5, ii (vc v : Int)), (6, ii (q : Int)), (7, ii ((k : Nat) : Int)), (8, ii ((p1 : Nat) : Int)), (9, ii ((i : Nat) : Int))]) (S' := [.ref 102]) dm_X12_amendedTable_166 rfl rfl rfl rfl ?_
                            refine me0 (pc' := 169) (S' := [ii 6, .ref 102]) dm_X12_amendedTable_167 rfl rfl rfl rfl ?_
                            refine me1 (pc' := 171) (L' := [(0, .ref 102), (1, ii (hd : Int)), (2, ii (hd2 : Int)), (3, ii (hd3 : Int)), (4, ii place), (5, ii (vc v : Int)), (6, ii (q : Int)), (7, ii ((k : Nat) : Int)), (8, ii ((p1 : Nat) : Int)), (9, ii ((i : Nat) : Int))]) (S' := [ii place, ii 6, .ref 102]) dm_X12_amendedTable_169 rfl rfl rfl rfl ?_
                            refine x_cv (pc' := 174) (rest := []) dm_X12_amendedTable_171 rfl (q_inv (As := [ii 6, ii place]) (S := []) hm rfl rfl rfl) rfl rfl rfl (r_fail_ (s := t2) hm (by omega) (by rw [hvw2.1]; exact he0) (by rw [hvw2.1]; exact hca.1) (by rw [hvw2.1]; exact hca.2)) ?_
                            rintro _ _ ⟨rfl, rfl⟩
                            refine y_ret (r := some (ii (-1))) dm_X12_amendedTable_174 rfl rfl rfl ?_
                            rw [amT_e (n := 6) hE (by omega) (amL_6 (i := i) (by omega) (by omega) (by omega) (by omega) hnf) (by decide)]
                            exact ⟨_, rfl, rres_failT (rext_tr (rext_fill hxT (by omega) G2) (vw3_pre hvw2).1) (rfr_tr (rfr_tr (rfr_tab s q b _ _) (rfr_fill _ b _ G2)) (vw3_pre hvw2).2.1) (by rw [hvw2.1]; show (b : Int) + (vm v : Int) * (vc v : Int) ≤ _; omega) (by rw [hvw2.1]; show (q : Int) + 1 ≤ _; omega)⟩
                    exact pg_sub (L := [(0, .ref 102), (1, ii (hd : Int)), (2, ii (hd2 : Int)), (3, ii (hd3 : Int)), (4, ii place), (5, ii (vc v : Int)), (6, ii (q : Int)), (7, ii ((k : Nat) : Int)), (8, ii ((p1 : Nat) : Int)), (9, ii ((0 : Nat) : Int))]) rfl rfl rfl (lp145 _ 0 G s1 rfl (Nat.zero_le _) (amH_0 hG) hv1 rfl (fun j hj => absurd hj (Nat.not_lt_zero j)))
                  · refine me1 (pc' := 135) (L' := [(8, ii ((p1 : Nat) : Int)), (0, .ref 102), (1, ii (hd : Int)), (2, ii (hd2 : Int)), (3, ii (hd3 : Int)), (4, ii place), (5, ii (vc v : Int)), (6, ii (q : Int)), (7, ii ((k : Nat) : Int))]) (S' := [.ref 102]) dm_X12_amendedTable_134 rfl rfl rfl rfl ?_
                    refine me0 (pc' := 136) (S' := [ii 4, .ref 102]) dm_X12_amendedTable_135 rfl rfl rfl rfl ?_
                    refine me1 (pc' := 138) (L' := [(8, ii ((p1 : Nat) : Int)), (0, .ref 102), (1, ii (hd : Int)), (2, ii (hd2 : Int)), (3, ii (hd3 : Int)), (4, ii place), (5, ii (vc v : Int)), (6, ii (q : Int)), (7, ii ((k : Nat) : Int))]) (S' := [ii place, ii 4, .ref 102]) dm_X12_amendedTable_136 rfl rfl rfl rfl ?_
                    refine x_cv (pc' := 141) (rest := []) dm_X12_amendedTable_138 rfl (q_inv (As := [ii 4, ii place]) (S := []) hm rfl rfl rfl) rfl rfl rfl (r_fail_ (s := s1) hm (by omega) (by rw [hv1.1]; exact he0) (by rw [hv1.1]; exact hca.1) (by rw [hv1.1]; exact hca.2)) ?_
                    rintro _ _ ⟨rfl, rfl⟩
                    refine y_ret (r := some (ii (-1))) dm_X12_amendedTable_141 rfl rfl rfl ?_
                    rw [amT_e (n := 4) hE (by omega) (amL_4 (by omega) (by omega) (by omega)) (by decide)]
                    exact ⟨_, rfl, rres_failT (rext_tr (rext_fill hxT (by omega) G) (vw3_pre hv1).1) (rfr_tr (rfr_tr (rfr_tab s q b _ _) (rfr_fill _ b _ G)) (vw3_pre hv1).2.1) (by rw [hv1.1]; show (b : Int) + (vm v : Int) * (vc v : Int) ≤ _; omega) (by rw [hv1.1]; show (q : Int) + 1 ≤ _; omega)⟩
                · refine me1 (pc' := 116) (L' := [(8, ii ((p1 : Nat) : Int)), (0, .ref 102), (1, ii (hd : Int)), (2, ii (hd2 : Int)), (3, ii (hd3 : Int)), (4, ii place), (5, ii (vc v : Int)), (6, ii (q : Int)), (7, ii ((k : Nat) : Int))]) (S' := [.ref 102]) dm_X12_amendedTable_115 rfl rfl rfl rfl ?_
                  refine me0 (pc' := 117) (S' := [ii 5, .ref 102]) dm_X12_amendedTable_116 rfl rfl rfl rfl ?_
                  refine me1 (pc' := 119) (L' := [(8, ii ((p1 : Nat) : Int)), (0, .ref 102), (1, ii (hd : Int)), (2, ii (hd2 : Int)), (3, ii (hd3 : Int)), (4, ii place), (5, ii (vc v : Int)), (6, ii (q : Int)), (7, ii ((k : Nat) : Int))]) (S' := [ii place, ii 5, .ref 102]) dm_X12_amendedTable_117 rfl rfl rfl rfl ?_
                  refine x_cv (pc' := 122) (rest := []) dm_X12_amendedTable_119 rfl (q_inv (As := [ii 5, ii place]) (S := []) hm rfl rfl rfl) rfl rfl rfl (r_fail_ (s := s1) hm (by omega) (by rw [hv1.1]; exact he0) (by rw [hv1.1]; exact hca.1) (by rw [hv1.1]; exact hca.2)) ?_
                  rintro _ _ ⟨rfl, rfl⟩
                  refine y_ret (r := some (ii (-1))) dm_X12_amendedTable_122 rfl rfl rfl ?_
                  rw [amT_e (n := 5) hE (by omega) (amL_5 (by omega) (by omega)) (by decide)]
                  exact ⟨_, rfl, rres_failT (rext_tr (rext_fill hxT (by omega) G) (vw3_pre hv1).1) (rfr_tr (rfr_tr (rfr_tab s q b _ _) (rfr_fill _ b _ G)) (vw3_pre hv1).2.1) (by rw [hv1.1]; show (b : Int) + (vm v : Int) * (vc v : Int) ≤ _; omega) (by rw [hv1.1]; show (q : Int) + 1 ≤ _; omega)⟩
              · replace hb3 := dF hb3
                refine me1 (pc' := 98) (L' := [(8, ii ((p1 : Nat) : Int)), (0, .ref 102), (1, ii (hd : Int)), (2, ii (hd2 : Int)), (3, ii (hd3 : Int)), (4, ii place), (5, ii (vc v : Int)), (6, ii (q : Int)), (7, ii ((k : Nat) : Int))]) (S' := [.ref 102]) dm_X12_amendedTable_97 rfl rfl rfl rfl ?_
                refine me0 (pc' := 99) (S' := [ii 3, .ref 102]) dm_X12_amendedTable_98 rfl rfl rfl rfl ?_
                refine me1 (pc' := 101) (L' := [(8, ii ((p1 : Nat) : Int)), (0, .ref 102), (1, ii (hd : Int)), (2, ii (hd2 : Int)), (3, ii (hd3 : Int)), (4, ii place), (5, ii (vc v : Int)), (6, ii (q : Int)), (7, ii ((k : Nat) : Int))]) (S' := [ii place, ii 3, .ref 102]) dm_X12_amendedTable_99 rfl rfl rfl rfl ?_
                refine x_cv (pc' := 104) (rest := []) dm_X12_amendedTable_101 rfl (q_inv (As := [ii 3, ii place]) (S := []) hm rfl rfl rfl) rfl rfl rfl (r_fail_ (s := s1) hm (by omega) (by rw [hv1.1]; exact he0) (by rw [hv1.1]; exact hca.1) (by rw [hv1.1]; exact hca.2)) ?_
                rintro _ _ ⟨rfl, rfl⟩
                refine y_ret (r := some (ii (-1))) dm_X12_amendedTable_104 rfl rfl rfl ?_
                rw [amT_e (n := 3) hE (by omega) (amL_3 (by omega)) (by decide)]
                exact ⟨_, rfl, rres_failT (rext_tr (rext_fill hxT (by omega) G) (vw3_pre hv1).1) (rfr_tr (rfr_tr (rfr_tab s q b _ _) (rfr_fill _ b _ G)) (vw3_pre hv1).2.1) (by rw [hv1.1]; show (b : Int) + (vm v : Int) * (vc v : Int) ≤ _; omega) (by rw [hv1.1]; show (q : Int) + 1 ≤ _; omega)⟩
        refine pg_cast (h2 := rI pre post ((fillS (tabS s q b (vm v : Int) (vc v : Int)) b (vm v * vc v) (vn v)).1) ((fillS (tabS s q b (vm v : Int) (vc v : Int)) b (vm v * vc v) (vn v)).2.1) ((fillS (tabS s q b (vm v : Int) (vc v : Int)) b (vm v * vc v) (vn v)).2.2.1) ((fillS (tabS s q b (vm v : Int) (vc v : Int)) b (vm v * vc v) (vn v)).2.2.2)) (by rw [hkN]) ?_
        exact pg_sub (L := [(0, .ref 102), (1, ii (hd : Int)), (2, ii (hd2 : Int)), (3, ii (hd3 : Int)), (4, ii place), (5, ii (vc v : Int)), (6, ii (q : Int)), (7, ii ((0 : Nat) : Int))]) rfl rfl rfl (lp67 _ 0 (vn v) (fillS (tabS s q b (vm v : Int) (vc v : Int)) b (vm v * vc v) (vn v)) rfl (Nat.zero_le _) amG_0 (vw3_rf _) rfl)
      · refine me1 (pc' := 37) (L' := [(0, .ref 102), (1, ii (hd : Int)), (2, ii (hd2 : Int)), (3, ii (hd3 : Int)), (4, ii place), (5, ii (vc v : Int)), (6, ii (q : Int)), (7, ii (k : Int))]) (S' := [.ref 102]) dm_X12_amendedTable_36 rfl rfl rfl rfl ?_
        refine me3 (pc' := 40) (S' := [.ref (102 + 1)]) dm_X12_amendedTable_37 (q_getr hm rfl (fun m i l => rg_0 m i l)) rfl rfl rfl ?_
        refine me1 (pc' := 41) (L' := [(0, .ref 102), (1, ii (hd : Int)), (2, ii (hd2 : Int)), (3, ii (hd3 : Int)), (4, ii place), (5, ii (vc v : Int)), (6, ii (q : Int)), (7, ii (k : Int))]) (S' := [.ref 102, .ref (102 + 1)]) dm_X12_amendedTable_40 rfl rfl rfl rfl ?_
        refine me3 (pc' := 44) (S' := [.ref (102 + 2), .ref (102 + 1)]) dm_X12_amendedTable_41 (q_getr hm rfl (fun m i l => rg_1 m i l)) rfl rfl rfl ?_
        refine me1 (pc' := 46) (L' := [(0, .ref 102), (1, ii (hd : Int)), (2, ii (hd2 : Int)), (3, ii (hd3 : Int)), (4, ii place), (5, ii (vc v : Int)), (6, ii (q : Int)), (7, ii (k : Int))]) (S' := [ii (q : Int), .ref (102 + 2), .ref (102 + 1)]) dm_X12_amendedTable_44 rfl rfl rfl rfl ?_
        refine me3 (pc' := 47) (S' := [ii ((((fillS (tabS s q b (vm v : Int) (vc v : Int)) b k (vn v)).2.2.1) 1) q), .ref (102 + 1)]) dm_X12_amendedTable_46 (q_iald (v := (((fillS (tabS s q b (vm v : Int) (vc v : Int)) b k (vn v)).2.2.1) 1) q) (k := 1) (n := 310000) hm (fun m i l I J => rc_1 m i l I J) (by omega) (by omega) (by decide) rfl) rfl rfl rfl ?_
        refine pg_st (S' := [ii (b : Int), .ref (102 + 1)]) (congrArg (fun z => ii z :: [.ref (102 + 1)]) (up_eq _ _ _)) ?_
        refine me1 (pc' := 49) (L' := [(0, .ref 102), (1, ii (hd : Int)), (2, ii (hd2 : Int)), (3, ii (hd3 : Int)), (4, ii place), (5, ii (vc v : Int)), (6, ii (q : Int)), (7, ii (k : Int))]) (S' := [ii (k : Int), ii (b : Int), .ref (102 + 1)]) dm_X12_amendedTable_47 rfl rfl rfl rfl ?_
        refine y_iadd (a := (b : Int)) (b := (k : Int)) dm_X12_amendedTable_49 (pc' := 50) rfl ?_
        refine me1 (pc' := 51) (L' := [(0, .ref 102), (1, ii (hd : Int)), (2, ii (hd2 : Int)), (3, ii (hd3 : Int)), (4, ii place), (5, ii (vc v : Int)), (6, ii (q : Int)), (7, ii (k : Int))]) (S' := [.ref 102, ii ((b : Int) + (k : Int)), .ref (102 + 1)]) dm_X12_amendedTable_50 rfl rfl rfl rfl ?_
        refine me1 (pc' := 52) (L' := [(0, .ref 102), (1, ii (hd : Int)), (2, ii (hd2 : Int)), (3, ii (hd3 : Int)), (4, ii place), (5, ii (vc v : Int)), (6, ii (q : Int)), (7, ii (k : Int))]) (S' := [ii (hd : Int), .ref 102, ii ((b : Int) + (k : Int)), .ref (102 + 1)]) dm_X12_amendedTable_51 rfl rfl rfl rfl ?_
        refine me1 (pc' := 54) (L' := [(0, .ref 102), (1, ii (hd : Int)), (2, ii (hd2 : Int)), (3, ii (hd3 : Int)), (4, ii place), (5, ii (vc v : Int)), (6, ii (q : Int)), (7, ii (k : Int))]) (S' := [ii (k : Int), ii (hd : Int), .ref 102, ii ((b : Int) + (k : Int)), .ref (102 + 1)]) dm_X12_amendedTable_52 rfl rfl rfl rfl ?_
        refine x_cp (pc' := 57) (v := .long (vn v k)) (rest := [ii ((b : Int) + (k : Int)), .ref (102 + 1)]) dm_X12_amendedTable_54 rfl (q_inv (As := [ii (hd : Int), ii (k : Int)]) (S := [ii ((b : Int) + (k : Int)), .ref (102 + 1)]) hm rfl rfl rfl) rfl rfl rfl (r_number_ (k := k) hm (by omega) hBT (hvT _ _) (by omega) (by omega)) ?_
        refine me3 (pc' := 58) (S' := []) (h1 := rI pre post ((fillS (tabS s q b (vm v : Int) (vc v : Int)) b k (vn v)).1) ((fillS (tabS s q b (vm v : Int) (vc v : Int)) b k (vn v)).2.1) ((fillS (tabS s q b (vm v : Int) (vc v : Int)) b k (vn v)).2.2.1) (va_up ((fillS (tabS s q b (vm v : Int) (vc v : Int)) b k (vn v)).2.2.2) 0 (va_up (((fillS (tabS s q b (vm v : Int) (vc v : Int)) b k (vn v)).2.2.2) 0) (b + k) (vn v k)))) dm_X12_amendedTable_57 (q_last (j := (b : Int) + (k : Int)) (k := 0) (n := 820000) hm (fun m i l I J => rc_0 m i l I J) (fun m i l I J f => rs_0 m i l I J f) (by omega) (by omega) (by decide)) rfl rfl rfl ?_
        refine y_iinc (pc' := 61) (L' := [(7, ii ((k : Int) + 1)), (0, .ref 102), (1, ii (hd : Int)), (2, ii (hd2 : Int)), (3, ii (hd3 : Int)), (4, ii place), (5, ii (vc v : Int)), (6, ii (q : Int))]) dm_X12_amendedTable_58 (y_incp (a := (k : Int)) (c := 1) rfl rfl (by decide)) rfl ?_
        refine me2 (pc' := 23) (S' := []) dm_X12_amendedTable_61 rfl rfl rfl ?_
        refine pg_cast (h2 := rI pre post ((fillS (tabS s q b (vm v : Int) (vc v : Int)) b (k + 1) (vn v)).1) ((fillS (tabS s q b (vm v : Int) (vc v : Int)) b (k + 1) (vn v)).2.1) ((fillS (tabS s q b (vm v : Int) (vc v : Int)) b (k + 1) (vn v)).2.2.1) ((fillS (tabS s q b (vm v : Int) (vc v : Int)) b (k + 1) (vn v)).2.2.2)) (fill_s (tabS s q b (vm v : Int) (vc v : Int)) b k (vn v)) ?_
        exact pg_sub (L := [(0, .ref 102), (1, ii (hd : Int)), (2, ii (hd2 : Int)), (3, ii (hd3 : Int)), (4, ii place), (5, ii (vc v : Int)), (6, ii (q : Int)), (7, ii ((k + 1) : Int))]) rfl rfl rfl (ih23 ((vm v * vc v) - (k + 1)) (by omega) (k + 1) rfl (by omega))
  refine pg_cast (h2 := rI pre post ((fillS (tabS s q b (vm v : Int) (vc v : Int)) b 0 (vn v)).1) ((fillS (tabS s q b (vm v : Int) (vc v : Int)) b 0 (vn v)).2.1) ((fillS (tabS s q b (vm v : Int) (vc v : Int)) b 0 (vn v)).2.2.1) ((fillS (tabS s q b (vm v : Int) (vc v : Int)) b 0 (vn v)).2.2.2)) (fill_0 (tabS s q b (vm v : Int) (vc v : Int)) b (vn v)) ?_
  exact pg_sub (L := [(0, .ref 102), (1, ii (hd : Int)), (2, ii (hd2 : Int)), (3, ii (hd3 : Int)), (4, ii place), (5, ii (vc v : Int)), (6, ii (q : Int)), (7, ii (0 : Int))]) rfl rfl rfl (lp23 _ 0 rfl (Nat.zero_le _))
