theorem dm_X12_expression_9 : mj_dec prog_14_method_84_code 9 = some (.iconst (-1), 1) := by decide +kernel
theorem dm_X12_expression_10 : mj_dec prog_14_method_84_code 10 = some (.istore_n 2, 1) := by decide +kernel
theorem dm_X12_expression_11 : mj_dec prog_14_method_84_code 11 = some (.aload_n 0, 1) := by decide +kernel
theorem dm_X12_expression_12 : mj_dec prog_14_method_84_code 12 = some (.invokevirtual 443, 3) := by decide +kernel
theorem dm_X12_expression_15 : mj_dec prog_14_method_84_code 15 = some (.ifCond .eq 43, 3) := by decide +kernel
theorem dm_X12_expression_18 : mj_dec prog_14_method_84_code 18 = some (.aload_n 0, 1) := by decide +kernel
theorem dm_X12_expression_19 : mj_dec prog_14_method_84_code 19 = some (.invokevirtual 447, 3) := by decide +kernel
theorem dm_X12_expression_22 : mj_dec prog_14_method_84_code 22 = some (.istore_n 2, 1) := by decide +kernel
theorem dm_X12_expression_23 : mj_dec prog_14_method_84_code 23 = some (.aload_n 0, 1) := by decide +kernel
theorem dm_X12_expression_24 : mj_dec prog_14_method_84_code 24 = some (.getfield 427, 3) := by decide +kernel
theorem dm_X12_expression_27 : mj_dec prog_14_method_84_code 27 = some (.ifCond .lt 5, 3) := by decide +kernel
theorem dm_X12_expression_30 : mj_dec prog_14_method_84_code 30 = some (.iconst (-1), 1) := by decide +kernel
theorem dm_X12_expression_31 : mj_dec prog_14_method_84_code 31 = some (.ireturn, 1) := by decide +kernel
theorem dm_X12_expression_32 : mj_dec prog_14_method_84_code 32 = some (.aload_n 0, 1) := by decide +kernel
theorem dm_X12_expression_33 : mj_dec prog_14_method_84_code 33 = some (.getfield 380, 3) := by decide +kernel
theorem dm_X12_expression_36 : mj_dec prog_14_method_84_code 36 = some (.iconst 5, 1) := by decide +kernel
theorem dm_X12_expression_37 : mj_dec prog_14_method_84_code 37 = some (.if_icmp .eq 42, 3) := by decide +kernel
theorem dm_X12_expression_40 : mj_dec prog_14_method_84_code 40 = some (.aload_n 0, 1) := by decide +kernel
theorem dm_X12_expression_41 : mj_dec prog_14_method_84_code 41 = some (.getfield 380, 3) := by decide +kernel
theorem dm_X12_expression_44 : mj_dec prog_14_method_84_code 44 = some (.iconst 4, 1) := by decide +kernel
theorem dm_X12_expression_45 : mj_dec prog_14_method_84_code 45 = some (.if_icmp .eq 34, 3) := by decide +kernel
theorem dm_X12_expression_48 : mj_dec prog_14_method_84_code 48 = some (.aload_n 0, 1) := by decide +kernel
theorem dm_X12_expression_49 : mj_dec prog_14_method_84_code 49 = some (.iconst 0, 1) := by decide +kernel
theorem dm_X12_expression_50 : mj_dec prog_14_method_84_code 50 = some (.iload_n 2, 1) := by decide +kernel
theorem dm_X12_expression_51 : mj_dec prog_14_method_84_code 51 = some (.iload_n 1, 1) := by decide +kernel
theorem dm_X12_expression_52 : mj_dec prog_14_method_84_code 52 = some (.iconst 0, 1) := by decide +kernel
theorem dm_X12_expression_53 : mj_dec prog_14_method_84_code 53 = some (.iconst 0, 1) := by decide +kernel
theorem dm_X12_expression_54 : mj_dec prog_14_method_84_code 54 = some (.invokevirtual 450, 3) := by decide +kernel
theorem dm_X12_expression_57 : mj_dec prog_14_method_84_code 57 = some (.ireturn, 1) := by decide +kernel
theorem dm_X12_expression_58 : mj_dec prog_14_method_84_code 58 = some (.aload_n 0, 1) := by decide +kernel
theorem dm_X12_expression_59 : mj_dec prog_14_method_84_code 59 = some (.getfield 380, 3) := by decide +kernel
theorem dm_X12_expression_62 : mj_dec prog_14_method_84_code 62 = some (.iconst 5, 1) := by decide +kernel
theorem dm_X12_expression_63 : mj_dec prog_14_method_84_code 63 = some (.if_icmp .eq 16, 3) := by decide +kernel
theorem dm_X12_expression_66 : mj_dec prog_14_method_84_code 66 = some (.aload_n 0, 1) := by decide +kernel
theorem dm_X12_expression_67 : mj_dec prog_14_method_84_code 67 = some (.getfield 380, 3) := by decide +kernel
theorem dm_X12_expression_70 : mj_dec prog_14_method_84_code 70 = some (.iconst 4, 1) := by decide +kernel
theorem dm_X12_expression_71 : mj_dec prog_14_method_84_code 71 = some (.if_icmp .eq 8, 3) := by decide +kernel
theorem dm_X12_expression_74 : mj_dec prog_14_method_84_code 74 = some (.aload_n 0, 1) := by decide +kernel
theorem dm_X12_expression_75 : mj_dec prog_14_method_84_code 75 = some (.invokevirtual 433, 3) := by decide +kernel
theorem dm_X12_expression_78 : mj_dec prog_14_method_84_code 78 = some (.ireturn, 1) := by decide +kernel
theorem dm_X12_expression_79 : mj_dec prog_14_method_84_code 79 = some (.aload_n 0, 1) := by decide +kernel
theorem dm_X12_expression_80 : mj_dec prog_14_method_84_code 80 = some (.aload_n 0, 1) := by decide +kernel
theorem dm_X12_expression_81 : mj_dec prog_14_method_84_code 81 = some (.getfield 380, 3) := by decide +kernel
theorem dm_X12_expression_84 : mj_dec prog_14_method_84_code 84 = some (.iconst 5, 1) := by decide +kernel
theorem dm_X12_expression_85 : mj_dec prog_14_method_84_code 85 = some (.if_icmp .ne 8, 3) := by decide +kernel
theorem dm_X12_expression_88 : mj_dec prog_14_method_84_code 88 = some (.bipush 6, 2) := by decide +kernel
theorem dm_X12_expression_90 : mj_dec prog_14_method_84_code 90 = some (.goto 5, 3) := by decide +kernel
theorem dm_X12_expression_93 : mj_dec prog_14_method_84_code 93 = some (.bipush 7, 2) := by decide +kernel
theorem dm_X12_expression_95 : mj_dec prog_14_method_84_code 95 = some (.iload_n 2, 1) := by decide +kernel
theorem dm_X12_expression_96 : mj_dec prog_14_method_84_code 96 = some (.aload_n 0, 1) := by decide +kernel
theorem dm_X12_expression_97 : mj_dec prog_14_method_84_code 97 = some (.getfield 414, 3) := by decide +kernel
theorem dm_X12_expression_100 : mj_dec prog_14_method_84_code 100 = some (.iconst 0, 1) := by decide +kernel
theorem dm_X12_expression_101 : mj_dec prog_14_method_84_code 101 = some (.aload_n 0, 1) := by decide +kernel
theorem dm_X12_expression_102 : mj_dec prog_14_method_84_code 102 = some (.getfield 386, 3) := by decide +kernel
theorem dm_X12_expression_105 : mj_dec prog_14_method_84_code 105 = some (.invokevirtual 450, 3) := by decide +kernel
theorem dm_X12_expression_108 : mj_dec prog_14_method_84_code 108 = some (.istore_n 3, 1) := by decide +kernel
theorem dm_X12_expression_109 : mj_dec prog_14_method_84_code 109 = some (.aload_n 0, 1) := by decide +kernel
theorem dm_X12_expression_110 : mj_dec prog_14_method_84_code 110 = some (.getfield 93, 3) := by decide +kernel
theorem dm_X12_expression_113 : mj_dec prog_14_method_84_code 113 = some (.iload_n 3, 1) := by decide +kernel
theorem dm_X12_expression_114 : mj_dec prog_14_method_84_code 114 = some (.aload_n 0, 1) := by decide +kernel
theorem dm_X12_expression_115 : mj_dec prog_14_method_84_code 115 = some (.getfield 417, 3) := by decide +kernel
theorem dm_X12_expression_118 : mj_dec prog_14_method_84_code 118 = some (.lastore, 1) := by decide +kernel
theorem dm_X12_expression_119 : mj_dec prog_14_method_84_code 119 = some (.aload_n 0, 1) := by decide +kernel
theorem dm_X12_expression_120 : mj_dec prog_14_method_84_code 120 = some (.getfield 90, 3) := by decide +kernel
theorem dm_X12_expression_123 : mj_dec prog_14_method_84_code 123 = some (.iload_n 3, 1) := by decide +kernel
theorem dm_X12_expression_124 : mj_dec prog_14_method_84_code 124 = some (.iload_n 1, 1) := by decide +kernel
theorem dm_X12_expression_125 : mj_dec prog_14_method_84_code 125 = some (.iastore, 1) := by decide +kernel
theorem dm_X12_expression_126 : mj_dec prog_14_method_84_code 126 = some (.iload_n 3, 1) := by decide +kernel
theorem dm_X12_expression_127 : mj_dec prog_14_method_84_code 127 = some (.istore_n 1, 1) := by decide +kernel
theorem dm_X12_expression_128 : mj_dec prog_14_method_84_code 128 = some (.aload_n 0, 1) := by decide +kernel
theorem dm_X12_expression_129 : mj_dec prog_14_method_84_code 129 = some (.invokevirtual 437, 3) := by decide +kernel
theorem dm_X12_expression_132 : mj_dec prog_14_method_84_code 132 = some (.iconst 0, 1) := by decide +kernel
theorem dm_X12_expression_133 : mj_dec prog_14_method_84_code 133 = some (.istore 4, 2) := by decide +kernel
theorem dm_X12_expression_135 : mj_dec prog_14_method_84_code 135 = some (.aload_n 0, 1) := by decide +kernel
theorem dm_X12_expression_136 : mj_dec prog_14_method_84_code 136 = some (.getfield 380, 3) := by decide +kernel
theorem dm_X12_expression_139 : mj_dec prog_14_method_84_code 139 = some (.bipush 6, 2) := by decide +kernel
theorem dm_X12_expression_141 : mj_dec prog_14_method_84_code 141 = some (.if_icmp .ne 72, 3) := by decide +kernel
theorem dm_X12_expression_144 : mj_dec prog_14_method_84_code 144 = some (.aload_n 0, 1) := by decide +kernel
theorem dm_X12_expression_145 : mj_dec prog_14_method_84_code 145 = some (.getfield 427, 3) := by decide +kernel
theorem dm_X12_expression_148 : mj_dec prog_14_method_84_code 148 = some (.ifCond .ge 65, 3) := by decide +kernel
theorem dm_X12_expression_151 : mj_dec prog_14_method_84_code 151 = some (.iload 4, 2) := by decide +kernel
theorem dm_X12_expression_153 : mj_dec prog_14_method_84_code 153 = some (.iconst 4, 1) := by decide +kernel
theorem dm_X12_expression_154 : mj_dec prog_14_method_84_code 154 = some (.if_icmp .ne 8, 3) := by decide +kernel
theorem dm_X12_expression_157 : mj_dec prog_14_method_84_code 157 = some (.aload_n 0, 1) := by decide +kernel
theorem dm_X12_expression_158 : mj_dec prog_14_method_84_code 158 = some (.invokevirtual 433, 3) := by decide +kernel
theorem dm_X12_expression_161 : mj_dec prog_14_method_84_code 161 = some (.ireturn, 1) := by decide +kernel
theorem dm_X12_expression_162 : mj_dec prog_14_method_84_code 162 = some (.aload_n 0, 1) := by decide +kernel
theorem dm_X12_expression_163 : mj_dec prog_14_method_84_code 163 = some (.getfield 84, 3) := by decide +kernel
theorem dm_X12_expression_166 : mj_dec prog_14_method_84_code 166 = some (.iload_n 3, 1) := by decide +kernel
theorem dm_X12_expression_167 : mj_dec prog_14_method_84_code 167 = some (.dup2, 1) := by decide +kernel
theorem dm_X12_expression_168 : mj_dec prog_14_method_84_code 168 = some (.iaload, 1) := by decide +kernel
theorem dm_X12_expression_169 : mj_dec prog_14_method_84_code 169 = some (.aload_n 0, 1) := by decide +kernel
theorem dm_X12_expression_170 : mj_dec prog_14_method_84_code 170 = some (.getfield 414, 3) := by decide +kernel
theorem dm_X12_expression_173 : mj_dec prog_14_method_84_code 173 = some (.bipush 47, 2) := by decide +kernel
theorem dm_X12_expression_175 : mj_dec prog_14_method_84_code 175 = some (.if_icmp .ne 7, 3) := by decide +kernel
theorem dm_X12_expression_178 : mj_dec prog_14_method_84_code 178 = some (.iconst 1, 1) := by decide +kernel
theorem dm_X12_expression_179 : mj_dec prog_14_method_84_code 179 = some (.goto 17, 3) := by decide +kernel
theorem dm_X12_expression_182 : mj_dec prog_14_method_84_code 182 = some (.aload_n 0, 1) := by decide +kernel
theorem dm_X12_expression_183 : mj_dec prog_14_method_84_code 183 = some (.getfield 414, 3) := by decide +kernel
theorem dm_X12_expression_186 : mj_dec prog_14_method_84_code 186 = some (.bipush 92, 2) := by decide +kernel
theorem dm_X12_expression_188 : mj_dec prog_14_method_84_code 188 = some (.if_icmp .ne 7, 3) := by decide +kernel
theorem dm_X12_expression_191 : mj_dec prog_14_method_84_code 191 = some (.iconst 2, 1) := by decide +kernel
theorem dm_X12_expression_192 : mj_dec prog_14_method_84_code 192 = some (.goto 4, 3) := by decide +kernel
theorem dm_X12_expression_195 : mj_dec prog_14_method_84_code 195 = some (.iconst 3, 1) := by decide +kernel
theorem dm_X12_expression_196 : mj_dec prog_14_method_84_code 196 = some (.iconst 2, 1) := by decide +kernel
theorem dm_X12_expression_197 : mj_dec prog_14_method_84_code 197 = some (.iload 4, 2) := by decide +kernel
theorem dm_X12_expression_199 : mj_dec prog_14_method_84_code 199 = some (.imul, 1) := by decide +kernel
theorem dm_X12_expression_200 : mj_dec prog_14_method_84_code 200 = some (.ishl, 1) := by decide +kernel
theorem dm_X12_expression_201 : mj_dec prog_14_method_84_code 201 = some (.ior, 1) := by decide +kernel
theorem dm_X12_expression_202 : mj_dec prog_14_method_84_code 202 = some (.iastore, 1) := by decide +kernel
theorem dm_X12_expression_203 : mj_dec prog_14_method_84_code 203 = some (.iinc 4 1, 3) := by decide +kernel
theorem dm_X12_expression_206 : mj_dec prog_14_method_84_code 206 = some (.aload_n 0, 1) := by decide +kernel
theorem dm_X12_expression_207 : mj_dec prog_14_method_84_code 207 = some (.invokevirtual 437, 3) := by decide +kernel
theorem dm_X12_expression_210 : mj_dec prog_14_method_84_code 210 = some (.goto (-75), 3) := by decide +kernel
theorem dm_X12_expression_213 : mj_dec prog_14_method_84_code 213 = some (.goto (-211), 3) := by decide +kernel
theorem r_expr1 {xt : mj_X} {d o f : Nat} {pre post : mj_H} {s : RS} {bf : Nat → Int} {ln n m hi i mk : Nat} {F : Nat → Int → Bool} {T : Nat → Tok} (hm : pre.length = 102) (hd : 6 * (12 - o) + 20 ≤ d) (hT : T = tkI bf ln F) (hK : TOKS T mk ln) (hR : RD bf ln F n m hi s i) (hE : ∀ g, g < f → RE xt pre post bf ln F T mk n m hi g) (hRM : RM T ln s i) (ho12 : o ≤ 12) (hhi : mk ≤ hi) (ho : s.1 51 = (o : Int)) (h52 : s.1 52 = -1) (hi1 : i ≤ mk) (hf : 8 * (mk - i) + 6 ≤ f) (hTX : ∀ i, tqS (tkI bf ln F i) = 2 → ∀ k : Nat, (k : Int) < tqD (tkI bf ln F i) → tqP (tkI bf ln F i) + 1 + k < ln ∧ bf (tqP (tkI bf ln F i) + 1 + k) = tqX (tkI bf ln F i) k) : pgV xt d 221 [.ref 102] (rS pre post s) (RQ pre post bf ln F T n m hi s f 0 o i (-1)) := by
  have hln := hK.2.1
  have hmk200 := hK.1
  obtain ⟨r1, r2, r3, r4, r5, r6⟩ := id hRM
  refine x_enter pm_X12_expression (L0 := [(0, .ref 102)]) rfl (Nat.le_of_ble_eq_true rfl) (by omega) ?_
  refine me0 (pc' := 1) (S' := [ii (-1)]) dm_X12_expression_0 rfl rfl rfl rfl ?_
  refine me1 (pc' := 2) (L' := [(1, ii (-1)), (0, .ref 102)]) (S' := []) dm_X12_expression_1 rfl rfl rfl rfl ?_
  have lp2 : ∀ (n2 : Nat) (a : Nat) (g : Nat) (x : Int) (z : RS), mk + 1 - a = n2 → (EJ bf ln F T mk n m hi f o i s a g x z) → pgE xt (d - 1) 12 5 false (Option.some Jvm.ClassFile.FieldType.int) (mj_dec prog_14_method_84_code) 2 [(0, .ref 102), (1, ii x)] [] (rI pre post z.1 z.2.1 z.2.2.1 z.2.2.2) (fun r h' => ∃ x, r = some x ∧ RQ pre post bf ln F T n m hi s f 0 o i (-1) x h') := by
    intro n2
    induction n2 using Nat.strongRecOn with
    | ind n2 ih2 =>
      intro a g x z hm2 hJ
      obtain ⟨z1, z2, z3, z4, z5, z6, z7, z8, -⟩ := id hJ
      have zRM := RM_d hRM z4 z8 (by decide)
      have hg : g = (g - 1) + 1 := by omega
      have hJ1 : EJ bf ln F T mk n m hi f o i s a ((g - 1) + 1) x z := by rw [← hg]; exact hJ
      obtain ⟨w1, w2, w3, w4, w5, w6⟩ := id zRM
      obtain ⟨x1, x2, x3⟩ := id z8
      obtain ⟨s38, s8, s40⟩ := RD_s hT hK z1
      clear s40
      have zP := P_ln hK a
      have sz9 := z4.2.1
      have z39 : z.1 39 = ((tqP (T a) : Nat) : Int) := by rw [hT]; exact (RD_38 z1).2
      refine me1 (pc' := 3) (L' := [(0, .ref 102), (1, ii x)]) (S' := [.ref 102]) dm_X12_expression_2 rfl rfl rfl rfl ?_
      refine me3 (pc' := 6) (S' := [ii (z.1 52)]) dm_X12_expression_3 (q_geti (v := z.1 52) hm rfl (fun m i l => rg_52 m i l) rfl) rfl rfl rfl ?_
      refine y_1ge (a := z.1 52) (t := 216) (pc' := 9) dm_X12_expression_6 rfl rfl (by omega) (fun hb1 => ?_) (fun hb1 => ?_)
      · exfalso; omega
      · refine me0 (pc' := 10) (S' := [ii (-1)]) dm_X12_expression_9 rfl rfl rfl rfl ?_
        refine me1 (pc' := 11) (L' := [(2, ii (-1)), (0, .ref 102), (1, ii x)]) (S' := []) dm_X12_expression_10 rfl rfl rfl rfl ?_
        have jn95 : ∀ (j : Nat) (nv : Int) (y : RS), AJ bf ln F T mk n m hi o a (g - 1) z j nv y → pgE xt (d - 1) 12 5 false (Option.some Jvm.ClassFile.FieldType.int) (mj_dec prog_14_method_84_code) 95 [(0, .ref 102), (1, ii x), (2, ii nv)] [ii (if tqS (T j) = 5 then 6 else 7), .ref 102] (rI pre post y.1 y.2.1 y.2.2.1 y.2.2.2) (fun r h' => ∃ x, r = some x ∧ RQ pre post bf ln F T n m hi s f 0 o i (-1) x h') := by
          intro j nv y hA
          obtain ⟨a1, a2, a3, a4, a5, a6, a7, -⟩ := id hA
          have yRM := RM_d zRM a5 a6 (by decide)
          obtain ⟨v1, v2, v3, v4, v5, v6⟩ := id yRM
          obtain ⟨b1, b2, b3⟩ := id a6
          obtain ⟨y38, y8, y40⟩ := RD_s hT hK a1
          have hPj := hK.2.2.2.2.2.2.1 j a7.2
          have hPj1 := P_ln hK (j + 1)
          have y39 : y.1 39 = ((tqP (T j) : Nat) : Int) := by rw [hT]; exact (RD_38 a1).2
          have ydn : tqS (T j) = 4 → y.2.1 41 = Int64.ofInt (tqR (T j)) := fun h4 => by rw [hT]; exact RD_dn a1 (by rw [← hT]; exact Or.inr h4)
          have y5 : tqS (T j) = 5 → y.1 40 = tqD (T j) := fun h5 => (y40 (Or.inl h5)).1
          clear y40
          obtain ⟨N, hN⟩ : ∃ N : Nat, y.1 50 = (N : Int) := ⟨(y.1 50).toNat, by omega⟩
          have zy := a5.2.1
          refine me1 (pc' := 96) (L' := [(0, .ref 102), (1, ii x), (2, ii nv)]) (S' := [ii nv, ii (if tqS (T j) = 5 then 6 else 7), .ref 102]) dm_X12_expression_95 rfl rfl rfl rfl ?_
          refine me1 (pc' := 97) (L' := [(0, .ref 102), (1, ii x), (2, ii nv)]) (S' := [.ref 102, ii nv, ii (if tqS (T j) = 5 then 6 else 7), .ref 102]) dm_X12_expression_96 rfl rfl rfl rfl ?_
          refine me3 (pc' := 100) (S' := [ii (y.1 40), ii nv, ii (if tqS (T j) = 5 then 6 else 7), .ref 102]) dm_X12_expression_97 (q_geti (v := y.1 40) hm rfl (fun m i l => rg_40 m i l) rfl) rfl rfl rfl ?_
          refine me0 (pc' := 101) (S' := [ii 0, ii (y.1 40), ii nv, ii (if tqS (T j) = 5 then 6 else 7), .ref 102]) dm_X12_expression_100 rfl rfl rfl rfl ?_
          refine me1 (pc' := 102) (L' := [(0, .ref 102), (1, ii x), (2, ii nv)]) (S' := [.ref 102, ii 0, ii (y.1 40), ii nv, ii (if tqS (T j) = 5 then 6 else 7), .ref 102]) dm_X12_expression_101 rfl rfl rfl rfl ?_
          refine me3 (pc' := 105) (S' := [ii (y.1 39), ii 0, ii (y.1 40), ii nv, ii (if tqS (T j) = 5 then 6 else 7), .ref 102]) dm_X12_expression_102 (q_geti (v := y.1 39) hm rfl (fun m i l => rg_39 m i l) rfl) rfl rfl rfl ?_
          refine x_cv (pc' := 108) (rest := []) dm_X12_expression_105 rfl (q_inv (As := [ii (if tqS (T j) = 5 then 6 else 7), ii nv, ii (y.1 40), ii 0, ii (y.1 39)]) (S := []) hm rfl rfl rfl) rfl rfl rfl (r_node_ (s := y) (N := N) hm (by omega) hN (by omega)) ?_
          rintro _ _ ⟨rfl, rfl⟩
          refine me1 (pc' := 109) (L' := [(3, ii (N : Int)), (0, .ref 102), (1, ii x), (2, ii nv)]) (S' := []) dm_X12_expression_108 rfl rfl rfl rfl ?_
          refine me1 (pc' := 110) (L' := [(3, ii (N : Int)), (0, .ref 102), (1, ii x), (2, ii nv)]) (S' := [.ref 102]) dm_X12_expression_109 rfl rfl rfl rfl ?_
          refine me3 (pc' := 113) (S' := [.ref (102 + 24)]) dm_X12_expression_110 (q_getr hm rfl (fun m i l => rg_49 m i l)) rfl rfl rfl ?_
          refine me1 (pc' := 114) (L' := [(3, ii (N : Int)), (0, .ref 102), (1, ii x), (2, ii nv)]) (S' := [ii (N : Int), .ref (102 + 24)]) dm_X12_expression_113 rfl rfl rfl rfl ?_
          refine me1 (pc' := 115) (L' := [(3, ii (N : Int)), (0, .ref 102), (1, ii x), (2, ii nv)]) (S' := [.ref 102, ii (N : Int), .ref (102 + 24)]) dm_X12_expression_114 rfl rfl rfl rfl ?_
          refine me3 (pc' := 118) (S' := [.long (((nodS y N (if tqS (T j) = 5 then 6 else 7) nv (y.1 40) 0 (y.1 39)).2.1) 41), ii (N : Int), .ref (102 + 24)]) dm_X12_expression_115 (q_getl (v := ((nodS y N (if tqS (T j) = 5 then 6 else 7) nv (y.1 40) 0 (y.1 39)).2.1) 41) hm rfl (fun m i l => rg_41 m i l) rfl) rfl rfl rfl ?_
          refine me3 (pc' := 119) (S' := []) (h1 := rI pre post ((nodS y N (if tqS (T j) = 5 then 6 else 7) nv (y.1 40) 0 (y.1 39)).1) ((nodS y N (if tqS (T j) = 5 then 6 else 7) nv (y.1 40) 0 (y.1 39)).2.1) ((nodS y N (if tqS (T j) = 5 then 6 else 7) nv (y.1 40) 0 (y.1 39)).2.2.1) (va_up ((nodS y N (if tqS (T j) = 5 then 6 else 7) nv (y.1 40) 0 (y.1 39)).2.2.2) 49 (va_up (((nodS y N (if tqS (T j) = 5 then 6 else 7) nv (y.1 40) 0 (y.1 39)).2.2.2) 49) N (((nodS y N (if tqS (T j) = 5 then 6 else 7) nv (y.1 40) 0 (y.1 39)).2.1) 41)))) dm_X12_expression_118 (q_last (j := (N : Int)) (k := 49) (n := 84000) hm (fun m i l I J => rc_49 m i l I J) (fun m i l I J f => rs_49 m i l I J f) (by omega) (by omega) (by decide)) rfl rfl rfl ?_
          refine me1 (pc' := 120) (L' := [(3, ii (N : Int)), (0, .ref 102), (1, ii x), (2, ii nv)]) (S' := [.ref 102]) dm_X12_expression_119 rfl rfl rfl rfl ?_
          refine me3 (pc' := 123) (S' := [.ref (102 + 23)]) dm_X12_expression_120 (q_getr hm rfl (fun m i l => rg_48 m i l)) rfl rfl rfl ?_
          refine me1 (pc' := 124) (L' := [(3, ii (N : Int)), (0, .ref 102), (1, ii x), (2, ii nv)]) (S' := [ii (N : Int), .ref (102 + 23)]) dm_X12_expression_123 rfl rfl rfl rfl ?_
          refine me1 (pc' := 125) (L' := [(3, ii (N : Int)), (0, .ref 102), (1, ii x), (2, ii nv)]) (S' := [ii x, ii (N : Int), .ref (102 + 23)]) dm_X12_expression_124 rfl rfl rfl rfl ?_
          refine me3 (pc' := 126) (S' := []) (h1 := rI pre post ((nodS y N (if tqS (T j) = 5 then 6 else 7) nv (y.1 40) 0 (y.1 39)).1) ((nodS y N (if tqS (T j) = 5 then 6 else 7) nv (y.1 40) 0 (y.1 39)).2.1) (va_up ((nodS y N (if tqS (T j) = 5 then 6 else 7) nv (y.1 40) 0 (y.1 39)).2.2.1) 48 (va_up (((nodS y N (if tqS (T j) = 5 then 6 else 7) nv (y.1 40) 0 (y.1 39)).2.2.1) 48) N x)) (va_up ((nodS y N (if tqS (T j) = 5 then 6 else 7) nv (y.1 40) 0 (y.1 39)).2.2.2) 49 (va_up (((nodS y N (if tqS (T j) = 5 then 6 else 7) nv (y.1 40) 0 (y.1 39)).2.2.2) 49) N (((nodS y N (if tqS (T j) = 5 then 6 else 7) nv (y.1 40) 0 (y.1 39)).2.1) 41)))) dm_X12_expression_125 (q_iast (j := (N : Int)) (k := 48) (n := 84000) hm (fun m i l I J => rc_48 m i l I J) (fun m i l I J f => rs_48 m i l I J f) (by omega) (by omega) (by decide)) rfl rfl rfl ?_
          refine pg_cast (h2 := rI pre post ((acS y N (if tqS (T j) = 5 then 6 else 7) nv (y.1 40) (y.1 39) x (y.2.1 41)).1) ((acS y N (if tqS (T j) = 5 then 6 else 7) nv (y.1 40) (y.1 39) x (y.2.1 41)).2.1) ((acS y N (if tqS (T j) = 5 then 6 else 7) nv (y.1 40) (y.1 39) x (y.2.1 41)).2.2.1) ((acS y N (if tqS (T j) = 5 then 6 else 7) nv (y.1 40) (y.1 39) x (y.2.1 41)).2.2.2)) rfl ?_
          refine me1 (pc' := 127) (L' := [(3, ii (N : Int)), (0, .ref 102), (1, ii x), (2, ii nv)]) (S' := [ii (N : Int)]) dm_X12_expression_126 rfl rfl rfl rfl ?_
          refine me1 (pc' := 128) (L' := [(1, ii (N : Int)), (3, ii (N : Int)), (0, .ref 102), (2, ii nv)]) (S' := []) dm_X12_expression_127 rfl rfl rfl rfl ?_
          refine me1 (pc' := 129) (L' := [(1, ii (N : Int)), (3, ii (N : Int)), (0, .ref 102), (2, ii nv)]) (S' := [.ref 102]) dm_X12_expression_128 rfl rfl rfl rfl ?_
          refine x_cn (pc' := 132) (rest := []) dm_X12_expression_129 rfl (q_inv (As := []) (S := []) hm rfl rfl rfl) rfl rfl rfl (r_nxt (s := (acS y N (if tqS (T j) = 5 then 6 else 7) nv (y.1 40) (y.1 39) x (y.2.1 41))) (i := j) hm (by omega) (RD_fr (rdR_ac hN _ _ _ _ _ _) (tkE_ac _ _ _ _ _ _ _ _) a1) (by omega)) ?_
          rintro _ ⟨u, rfl, hku, hRu⟩
          have hV0 : VJ bf ln F T n m hi j N nv x y 0 u := VJ_0 hA hN rfl y5 y39 ydn hku hRu
          clear y5 ydn
          refine me0 (pc' := 133) (S' := [ii 0]) dm_X12_expression_132 rfl rfl rfl rfl ?_
          refine me1 (pc' := 135) (L' := [(4, ii 0), (1, ii (N : Int)), (3, ii (N : Int)), (0, .ref 102), (2, ii nv)]) (S' := []) dm_X12_expression_133 rfl rfl rfl rfl ?_
          have lp135 : ∀ (n135 : Nat) (c : Nat) (y2 : RS), 5 - c = n135 → (VJ bf ln F T n m hi j N nv x y c y2) → pgE xt (d - 1) 12 5 false (Option.some Jvm.ClassFile.FieldType.int) (mj_dec prog_14_method_84_code) 135 [(0, .ref 102), (1, ii (N : Int)), (3, ii (N : Int)), (4, ii ((c : Nat) : Int))] [] (rI pre post y2.1 y2.2.1 y2.2.2.1 y2.2.2.2) (fun r h' => ∃ x, r = some x ∧ RQ pre post bf ln F T n m hi s f 0 o i (-1) x h') := by
            intro n135
            induction n135 using Nat.strongRecOn with
            | ind n135 ih135 =>
              intro c y2 hm135 hV
              obtain ⟨l1, l2, l3, l4, l5, l6, l7, l8, l9, -, -, -, l13, -, -⟩ := id hV
              obtain ⟨l38, l388, l40⟩ := RD_s hT hK l1
              have lP := P_ln hK (j + 1 + c)
              refine me1 (pc' := 136) (L' := [(0, .ref 102), (1, ii (N : Int)), (3, ii (N : Int)), (4, ii ((c : Nat) : Int))]) (S' := [.ref 102]) dm_X12_expression_135 rfl rfl rfl rfl ?_
              refine me3 (pc' := 139) (S' := [ii (y2.1 38)]) dm_X12_expression_136 (q_geti (v := y2.1 38) hm rfl (fun m i l => rg_38 m i l) rfl) rfl rfl rfl ?_
              refine me0 (pc' := 141) (S' := [ii 6, ii (y2.1 38)]) dm_X12_expression_139 rfl rfl rfl rfl ?_
              refine y_2ne (a := y2.1 38) (b := 6) (t := 213) (pc' := 144) dm_X12_expression_141 rfl rfl (by omega) (fun hb2 => ?_) (fun hb2 => ?_)
              · clear l40
                have hEs := EJ_s (g := g - 1) hK hJ1 hA hN hV (by omega)
                have hE2 := hEs.1.2.2.1
                have hE3 := hEs.2
                refine me2 (pc' := 2) (S' := []) dm_X12_expression_213 rfl rfl rfl ?_
                exact pg_sub (L := [(0, .ref 102), (1, ii (N : Int))]) rfl rfl rfl (ih2 (mk + 1 - (dsE T j)) (by omega) (dsE T j) (g - 1) (N : Int) y2 rfl hEs.1)
              · have h6 : tqS (T (j + 1 + c)) = 6 := by omega
                have l40b := l40 (Or.inr (Or.inl h6))
                clear l40
                have hlc := TOKS_lt hK (i := j + 1 + c) (by omega)
                refine me1 (pc' := 145) (L' := [(0, .ref 102), (1, ii (N : Int)), (3, ii (N : Int)), (4, ii ((c : Nat) : Int))]) (S' := [.ref 102]) dm_X12_expression_144 rfl rfl rfl rfl ?_
                refine me3 (pc' := 148) (S' := [ii (y2.1 52)]) dm_X12_expression_145 (q_geti (v := y2.1 52) hm rfl (fun m i l => rg_52 m i l) rfl) rfl rfl rfl ?_
                refine y_1ge (a := y2.1 52) (t := 213) (pc' := 151) dm_X12_expression_148 rfl rfl (by omega) (fun hb3 => ?_) (fun hb3 => ?_)
                · exfalso; omega
                · refine me1 (pc' := 153) (L' := [(0, .ref 102), (1, ii (N : Int)), (3, ii (N : Int)), (4, ii ((c : Nat) : Int))]) (S' := [ii ((c : Nat) : Int)]) dm_X12_expression_151 rfl rfl rfl rfl ?_
                  refine me0 (pc' := 154) (S' := [ii 4, ii ((c : Nat) : Int)]) dm_X12_expression_153 rfl rfl rfl rfl ?_
                  refine y_2ne (a := ((c : Nat) : Int)) (b := 4) (t := 162) (pc' := 157) dm_X12_expression_154 rfl rfl (by omega) (fun hb4 => ?_) (fun hb4 => ?_)
                  · refine me1 (pc' := 163) (L' := [(0, .ref 102), (1, ii (N : Int)), (3, ii (N : Int)), (4, ii ((c : Nat) : Int))]) (S' := [.ref 102]) dm_X12_expression_162 rfl rfl rfl rfl ?_
                    refine me3 (pc' := 166) (S' := [.ref (102 + 21)]) dm_X12_expression_163 (q_getr hm rfl (fun m i l => rg_46 m i l)) rfl rfl rfl ?_
                    refine me1 (pc' := 167) (L' := [(0, .ref 102), (1, ii (N : Int)), (3, ii (N : Int)), (4, ii ((c : Nat) : Int))]) (S' := [ii (N : Int), .ref (102 + 21)]) dm_X12_expression_166 rfl rfl rfl rfl ?_
                    refine me0 (pc' := 168) (S' := [ii (N : Int), .ref (102 + 21), ii (N : Int), .ref (102 + 21)]) dm_X12_expression_167 rfl rfl rfl rfl ?_
                    refine me3 (pc' := 169) (S' := [ii ((y2.2.2.1 46) N), ii (N : Int), .ref (102 + 21)]) dm_X12_expression_168 (q_iald (v := (y2.2.2.1 46) N) (k := 46) (n := 84000) hm (fun m i l I J => rc_46 m i l I J) (by omega) (by omega) (by decide) rfl) rfl rfl rfl ?_
                    refine pg_st0 (S' := [ii (rvI T (j + 1) c), ii (N : Int), .ref (102 + 21)]) (congrArg (fun z => ii z :: [ii (N : Int), .ref (102 + 21)]) (l13)) ?_
                    refine me1 (pc' := 170) (L' := [(0, .ref 102), (1, ii (N : Int)), (3, ii (N : Int)), (4, ii ((c : Nat) : Int))]) (S' := [.ref 102, ii (rvI T (j + 1) c), ii (N : Int), .ref (102 + 21)]) dm_X12_expression_169 rfl rfl rfl rfl ?_
                    refine me3 (pc' := 173) (S' := [ii (y2.1 40), ii (rvI T (j + 1) c), ii (N : Int), .ref (102 + 21)]) dm_X12_expression_170 (q_geti (v := y2.1 40) hm rfl (fun m i l => rg_40 m i l) rfl) rfl rfl rfl ?_
                    refine me0 (pc' := 175) (S' := [ii 47, ii (y2.1 40), ii (rvI T (j + 1) c), ii (N : Int), .ref (102 + 21)]) dm_X12_expression_173 rfl rfl rfl rfl ?_
                    refine y_2ne (a := y2.1 40) (b := 47) (t := 182) (pc' := 178) dm_X12_expression_175 rfl rfl (by omega) (fun hb5 => ?_) (fun hb5 => ?_)
                    · refine me1 (pc' := 183) (L' := [(0, .ref 102), (1, ii (N : Int)), (3, ii (N : Int)), (4, ii ((c : Nat) : Int))]) (S' := [.ref 102, ii (rvI T (j + 1) c), ii (N : Int), .ref (102 + 21)]) dm_X12_expression_182 rfl rfl rfl rfl ?_
                      refine me3 (pc' := 186) (S' := [ii (y2.1 40), ii (rvI T (j + 1) c), ii (N : Int), .ref (102 + 21)]) dm_X12_expression_183 (q_geti (v := y2.1 40) hm rfl (fun m i l => rg_40 m i l) rfl) rfl rfl rfl ?_
                      refine me0 (pc' := 188) (S' := [ii 92, ii (y2.1 40), ii (rvI T (j + 1) c), ii (N : Int), .ref (102 + 21)]) dm_X12_expression_186 rfl rfl rfl rfl ?_
                      refine y_2ne (a := y2.1 40) (b := 92) (t := 195) (pc' := 191) dm_X12_expression_188 rfl rfl (by omega) (fun hb6 => ?_) (fun hb6 => ?_)
                      · refine me0 (pc' := 196) (S' := [ii 3, ii (rvI T (j + 1) c), ii (N : Int), .ref (102 + 21)]) dm_X12_expression_195 rfl rfl rfl rfl ?_
                        have hcr := rcA_r (tqD (T (j + 1 + c)))
                        have hvr := rvI_r T (j + 1) c
                        have h4r := p4_r (c := c) (by omega)
                        refine pg_st0 (S' := [ii (rcA (tqD (T (j + 1 + c)))), ii (rvI T (j + 1) c), ii (N : Int), .ref (102 + 21)]) (congrArg (fun z => ii z :: [ii (rvI T (j + 1) c), ii (N : Int), .ref (102 + 21)]) (by unfold rcA; first | (rw [if_pos (by omega)]) | (rw [if_neg (by omega), if_pos (by omega)]) | (rw [if_neg (by omega), if_neg (by omega)]))) ?_
                        refine me0 (pc' := 197) (S' := [ii 2, ii (rcA (tqD (T (j + 1 + c)))), ii (rvI T (j + 1) c), ii (N : Int), .ref (102 + 21)]) dm_X12_expression_196 rfl rfl rfl rfl ?_
                        refine me1 (pc' := 199) (L' := [(0, .ref 102), (1, ii (N : Int)), (3, ii (N : Int)), (4, ii ((c : Nat) : Int))]) (S' := [ii ((c : Nat) : Int), ii 2, ii (rcA (tqD (T (j + 1 + c)))), ii (rvI T (j + 1) c), ii (N : Int), .ref (102 + 21)]) dm_X12_expression_197 rfl rfl rfl rfl ?_
                        refine y_imul (a := 2) (b := ((c : Nat) : Int)) dm_X12_expression_199 (pc' := 200) rfl ?_
                        refine y_shlM (a := rcA (tqD (T (j + 1 + c)))) (n := 2 * ((c : Nat) : Int)) (k := 2 * c) (m := 4 ^ c) dm_X12_expression_200 (pc' := 201) rfl (by push_cast; rfl) (by omega) (p24 c) ?_
                        have hmx : rcA (tqD (T (j + 1 + c))) * 4 ^ c ≤ 3 * 64 := Int.le_trans (Int.mul_le_mul_of_nonneg_right hcr.2 (by omega)) (by omega)
                        refine y_orM (a := rvI T (j + 1) c) (b := (rcA (tqD (T (j + 1 + c)))) * 4 ^ c) (c := rcA (tqD (T (j + 1 + c)))) (m := 4 ^ c) (k := 2 * c) dm_X12_expression_201 (pc' := 202) rfl (p24 c) rfl (by omega) (by omega) (by omega) (by omega) ?_
                        refine me3 (pc' := 203) (S' := []) (h1 := rI pre post y2.1 y2.2.1 (va_up y2.2.2.1 46 (va_up (y2.2.2.1 46) N ((rvI T (j + 1) c) + ((rcA (tqD (T (j + 1 + c)))) * 4 ^ c)))) y2.2.2.2) dm_X12_expression_202 (q_iast (j := (N : Int)) (k := 46) (n := 84000) hm (fun m i l I J => rc_46 m i l I J) (fun m i l I J f => rs_46 m i l I J f) (by omega) (by omega) (by decide)) rfl rfl rfl ?_
                        refine pg_cast (h2 := rI pre post ((thS y2 N (rvI T (j + 1) c + rcA (tqD (T (j + 1 + c))) * 4 ^ c)).1) ((thS y2 N (rvI T (j + 1) c + rcA (tqD (T (j + 1 + c))) * 4 ^ c)).2.1) ((thS y2 N (rvI T (j + 1) c + rcA (tqD (T (j + 1 + c))) * 4 ^ c)).2.2.1) ((thS y2 N (rvI T (j + 1) c + rcA (tqD (T (j + 1 + c))) * 4 ^ c)).2.2.2)) rfl ?_
                        refine y_iinc (pc' := 206) (L' := [(4, ii (((c : Nat) : Int) + 1)), (0, .ref 102), (1, ii (N : Int)), (3, ii (N : Int))]) dm_X12_expression_203 (y_incp (a := ((c : Nat) : Int)) (c := 1) rfl rfl (by decide)) rfl ?_
                        refine me1 (pc' := 207) (L' := [(4, ii (((c : Nat) : Int) + 1)), (0, .ref 102), (1, ii (N : Int)), (3, ii (N : Int))]) (S' := [.ref 102]) dm_X12_expression_206 rfl rfl rfl rfl ?_
                        refine x_cn (pc' := 210) (rest := []) dm_X12_expression_207 rfl (q_inv (As := []) (S := []) hm rfl rfl rfl) rfl rfl rfl (r_nxt (s := thS y2 N (rvI T (j + 1) c + rcA (tqD (T (j + 1 + c))) * 4 ^ c)) (i := j + 1 + c) hm (by omega) (RD_I (t := y2) l1 (up_ne _ _ (by decide)) rfl) (by omega)) ?_
                        rintro _ ⟨u2, rfl, hku2, hRu2⟩
                        refine me2 (pc' := 135) (S' := []) dm_X12_expression_210 rfl rfl rfl ?_
                        exact pg_sub (L := [(0, .ref 102), (1, ii (N : Int)), (3, ii (N : Int)), (4, ii (((c + 1) : Nat) : Int))]) rfl rfl rfl (ih135 (5 - (c + 1)) (by omega) (c + 1) u2 rfl (VJ_s hN hV h6 (by omega) hku2 hRu2))
                      · refine me0 (pc' := 192) (S' := [ii 2, ii (rvI T (j + 1) c), ii (N : Int), .ref (102 + 21)]) dm_X12_expression_191 rfl rfl rfl rfl ?_
                        refine me2 (pc' := 196) (S' := [ii 2, ii (rvI T (j + 1) c), ii (N : Int), .ref (102 + 21)]) dm_X12_expression_192 rfl rfl rfl ?_
                        have hcr := rcA_r (tqD (T (j + 1 + c)))
                        have hvr := rvI_r T (j + 1) c
                        have h4r := p4_r (c := c) (by omega)
                        refine pg_st0 (S' := [ii (rcA (tqD (T (j + 1 + c)))), ii (rvI T (j + 1) c), ii (N : Int), .ref (102 + 21)]) (congrArg (fun z => ii z :: [ii (rvI T (j + 1) c), ii (N : Int), .ref (102 + 21)]) (by unfold rcA; first | (rw [if_pos (by omega)]) | (rw [if_neg (by omega), if_pos (by omega)]) | (rw [if_neg (by omega), if_neg (by omega)]))) ?_
                        refine me0 (pc' := 197) (S' := [ii 2, ii (rcA (tqD (T (j + 1 + c)))), ii (rvI T (j + 1) c), ii (N : Int), .ref (102 + 21)]) dm_X12_expression_196 rfl rfl rfl rfl ?_
                        refine me1 (pc' := 199) (L' := [(0, .ref 102), (1, ii (N : Int)), (3, ii (N : Int)), (4, ii ((c : Nat) : Int))]) (S' := [ii ((c : Nat) : Int), ii 2, ii (rcA (tqD (T (j + 1 + c)))), ii (rvI T (j + 1) c), ii (N : Int), .ref (102 + 21)]) dm_X12_expression_197 rfl rfl rfl rfl ?_
                        refine y_imul (a := 2) (b := ((c : Nat) : Int)) dm_X12_expression_199 (pc' := 200) rfl ?_
                        refine y_shlM (a := rcA (tqD (T (j + 1 + c)))) (n := 2 * ((c : Nat) : Int)) (k := 2 * c) (m := 4 ^ c) dm_X12_expression_200 (pc' := 201) rfl (by push_cast; rfl) (by omega) (p24 c) ?_
                        have hmx : rcA (tqD (T (j + 1 + c))) * 4 ^ c ≤ 3 * 64 := Int.le_trans (Int.mul_le_mul_of_nonneg_right hcr.2 (by omega)) (by omega)
                        refine y_orM (a := rvI T (j + 1) c) (b := (rcA (tqD (T (j + 1 + c)))) * 4 ^ c) (c := rcA (tqD (T (j + 1 + c)))) (m := 4 ^ c) (k := 2 * c) dm_X12_expression_201 (pc' := 202) rfl (p24 c) rfl (by omega) (by omega) (by omega) (by omega) ?_
                        refine me3 (pc' := 203) (S' := []) (h1 := rI pre post y2.1 y2.2.1 (va_up y2.2.2.1 46 (va_up (y2.2.2.1 46) N ((rvI T (j + 1) c) + ((rcA (tqD (T (j + 1 + c)))) * 4 ^ c)))) y2.2.2.2) dm_X12_expression_202 (q_iast (j := (N : Int)) (k := 46) (n := 84000) hm (fun m i l I J => rc_46 m i l I J) (fun m i l I J f => rs_46 m i l I J f) (by omega) (by omega) (by decide)) rfl rfl rfl ?_
                        refine pg_cast (h2 := rI pre post ((thS y2 N (rvI T (j + 1) c + rcA (tqD (T (j + 1 + c))) * 4 ^ c)).1) ((thS y2 N (rvI T (j + 1) c + rcA (tqD (T (j + 1 + c))) * 4 ^ c)).2.1) ((thS y2 N (rvI T (j + 1) c + rcA (tqD (T (j + 1 + c))) * 4 ^ c)).2.2.1) ((thS y2 N (rvI T (j + 1) c + rcA (tqD (T (j + 1 + c))) * 4 ^ c)).2.2.2)) rfl ?_
                        refine y_iinc (pc' := 206) (L' := [(4, ii (((c : Nat) : Int) + 1)), (0, .ref 102), (1, ii (N : Int)), (3, ii (N : Int))]) dm_X12_expression_203 (y_incp (a := ((c : Nat) : Int)) (c := 1) rfl rfl (by decide)) rfl ?_
                        refine me1 (pc' := 207) (L' := [(4, ii (((c : Nat) : Int) + 1)), (0, .ref 102), (1, ii (N : Int)), (3, ii (N : Int))]) (S' := [.ref 102]) dm_X12_expression_206 rfl rfl rfl rfl ?_
                        refine x_cn (pc' := 210) (rest := []) dm_X12_expression_207 rfl (q_inv (As := []) (S := []) hm rfl rfl rfl) rfl rfl rfl (r_nxt (s := thS y2 N (rvI T (j + 1) c + rcA (tqD (T (j + 1 + c))) * 4 ^ c)) (i := j + 1 + c) hm (by omega) (RD_I (t := y2) l1 (up_ne _ _ (by decide)) rfl) (by omega)) ?_
                        rintro _ ⟨u2, rfl, hku2, hRu2⟩
                        refine me2 (pc' := 135) (S' := []) dm_X12_expression_210 rfl rfl rfl ?_
                        exact pg_sub (L := [(0, .ref 102), (1, ii (N : Int)), (3, ii (N : Int)), (4, ii (((c + 1) : Nat) : Int))]) rfl rfl rfl (ih135 (5 - (c + 1)) (by omega) (c + 1) u2 rfl (VJ_s hN hV h6 (by omega) hku2 hRu2))
                    · refine me0 (pc' := 179) (S' := [ii 1, ii (rvI T (j + 1) c), ii (N : Int), .ref (102 + 21)]) dm_X12_expression_178 rfl rfl rfl rfl ?_
                      refine me2 (pc' := 196) (S' := [ii 1, ii (rvI T (j + 1) c), ii (N : Int), .ref (102 + 21)]) dm_X12_expression_179 rfl rfl rfl ?_
                      have hcr := rcA_r (tqD (T (j + 1 + c)))
                      have hvr := rvI_r T (j + 1) c
                      have h4r := p4_r (c := c) (by omega)
                      refine pg_st0 (S' := [ii (rcA (tqD (T (j + 1 + c)))), ii (rvI T (j + 1) c), ii (N : Int), .ref (102 + 21)]) (congrArg (fun z => ii z :: [ii (rvI T (j + 1) c), ii (N : Int), .ref (102 + 21)]) (by unfold rcA; first | (rw [if_pos (by omega)]) | (rw [if_neg (by omega), if_pos (by omega)]) | (rw [if_neg (by omega), if_neg (by omega)]))) ?_
                      refine me0 (pc' := 197) (S' := [ii 2, ii (rcA (tqD (T (j + 1 + c)))), ii (rvI T (j + 1) c), ii (N : Int), .ref (102 + 21)]) dm_X12_expression_196 rfl rfl rfl rfl ?_
                      refine me1 (pc' := 199) (L' := [(0, .ref 102), (1, ii (N : Int)), (3, ii (N : Int)), (4, ii ((c : Nat) : Int))]) (S' := [ii ((c : Nat) : Int), ii 2, ii (rcA (tqD (T (j + 1 + c)))), ii (rvI T (j + 1) c), ii (N : Int), .ref (102 + 21)]) dm_X12_expression_197 rfl rfl rfl rfl ?_
                      refine y_imul (a := 2) (b := ((c : Nat) : Int)) dm_X12_expression_199 (pc' := 200) rfl ?_
                      refine y_shlM (a := rcA (tqD (T (j + 1 + c)))) (n := 2 * ((c : Nat) : Int)) (k := 2 * c) (m := 4 ^ c) dm_X12_expression_200 (pc' := 201) rfl (by push_cast; rfl) (by omega) (p24 c) ?_
                      have hmx : rcA (tqD (T (j + 1 + c))) * 4 ^ c ≤ 3 * 64 := Int.le_trans (Int.mul_le_mul_of_nonneg_right hcr.2 (by omega)) (by omega)
                      refine y_orM (a := rvI T (j + 1) c) (b := (rcA (tqD (T (j + 1 + c)))) * 4 ^ c) (c := rcA (tqD (T (j + 1 + c)))) (m := 4 ^ c) (k := 2 * c) dm_X12_expression_201 (pc' := 202) rfl (p24 c) rfl (by omega) (by omega) (by omega) (by omega) ?_
                      refine me3 (pc' := 203) (S' := []) (h1 := rI pre post y2.1 y2.2.1 (va_up y2.2.2.1 46 (va_up (y2.2.2.1 46) N ((rvI T (j + 1) c) + ((rcA (tqD (T (j + 1 + c)))) * 4 ^ c)))) y2.2.2.2) dm_X12_expression_202 (q_iast (j := (N : Int)) (k := 46) (n := 84000) hm (fun m i l I J => rc_46 m i l I J) (fun m i l I J f => rs_46 m i l I J f) (by omega) (by omega) (by decide)) rfl rfl rfl ?_
                      refine pg_cast (h2 := rI pre post ((thS y2 N (rvI T (j + 1) c + rcA (tqD (T (j + 1 + c))) * 4 ^ c)).1) ((thS y2 N (rvI T (j + 1) c + rcA (tqD (T (j + 1 + c))) * 4 ^ c)).2.1) ((thS y2 N (rvI T (j + 1) c + rcA (tqD (T (j + 1 + c))) * 4 ^ c)).2.2.1) ((thS y2 N (rvI T (j + 1) c + rcA (tqD (T (j + 1 + c))) * 4 ^ c)).2.2.2)) rfl ?_
                      refine y_iinc (pc' := 206) (L' := [(4, ii (((c : Nat) : Int) + 1)), (0, .ref 102), (1, ii (N : Int)), (3, ii (N : Int))]) dm_X12_expression_203 (y_incp (a := ((c : Nat) : Int)) (c := 1) rfl rfl (by decide)) rfl ?_
                      refine me1 (pc' := 207) (L' := [(4, ii (((c : Nat) : Int) + 1)), (0, .ref 102), (1, ii (N : Int)), (3, ii (N : Int))]) (S' := [.ref 102]) dm_X12_expression_206 rfl rfl rfl rfl ?_
                      refine x_cn (pc' := 210) (rest := []) dm_X12_expression_207 rfl (q_inv (As := []) (S := []) hm rfl rfl rfl) rfl rfl rfl (r_nxt (s := thS y2 N (rvI T (j + 1) c + rcA (tqD (T (j + 1 + c))) * 4 ^ c)) (i := j + 1 + c) hm (by omega) (RD_I (t := y2) l1 (up_ne _ _ (by decide)) rfl) (by omega)) ?_
                      rintro _ ⟨u2, rfl, hku2, hRu2⟩
                      refine me2 (pc' := 135) (S' := []) dm_X12_expression_210 rfl rfl rfl ?_
                      exact pg_sub (L := [(0, .ref 102), (1, ii (N : Int)), (3, ii (N : Int)), (4, ii (((c + 1) : Nat) : Int))]) rfl rfl rfl (ih135 (5 - (c + 1)) (by omega) (c + 1) u2 rfl (VJ_s hN hV h6 (by omega) hku2 hRu2))
                  · refine me1 (pc' := 158) (L' := [(0, .ref 102), (1, ii (N : Int)), (3, ii (N : Int)), (4, ii ((c : Nat) : Int))]) (S' := [.ref 102]) dm_X12_expression_157 rfl rfl rfl rfl ?_
                    refine x_cv (pc' := 161) (rest := []) dm_X12_expression_158 rfl (q_inv (As := []) (S := []) hm rfl rfl rfl) rfl rfl rfl (r_wrong_ (s := y2) hm (by omega) (by omega)) ?_
                    rintro _ _ ⟨rfl, rfl⟩
                    refine y_ret (r := some (ii (-1))) dm_X12_expression_161 rfl rfl rfl ?_
                    have hc4 : c = 4 := by omega
                    subst hc4
                    exact ⟨_, rfl, RQ_ie (EJ_5 hJ1 hA hV h6 (by omega)) (rdR_tr z4 (rdR_tr a5 (rdR_tr l7 (rdT_wr y2).1))) ((wr_52 (by omega)).trans (by rw [hT]; exact (RD_38 l1).2)) ⟨by rw [(rdT_wr y2).2.2.1]; omega, by rw [(rdT_wr y2).2.1]; omega, by rw [(rdT_wr y2).2.2.2.1]; omega⟩⟩
          exact pg_sub (L := [(0, .ref 102), (1, ii (N : Int)), (3, ii (N : Int)), (4, ii ((0 : Nat) : Int))]) rfl rfl rfl (lp135 _ 0 u rfl hV0)
        refine me1 (pc' := 12) (L' := [(2, ii (-1)), (0, .ref 102), (1, ii x)]) (S' := [.ref 102]) dm_X12_expression_11 rfl rfl rfl rfl ?_
        refine x_cp (pc' := 15) (v := zz (decide (isNn T a))) (rest := []) dm_X12_expression_12 rfl (q_inv (As := []) (S := []) hm rfl rfl rfl) rfl rfl rfl (r_isNoun_ (i := a) hm (by omega) hT hK z1) ?_
        refine y_zeq (c := decide (isNn T a)) (t := 58) (pc' := 18) dm_X12_expression_15 rfl rfl (fun hb7 => ?_) (fun hb7 => ?_)
        · replace hb7 := dF hb7
          have hnnn := hb7
          refine me1 (pc' := 59) (L' := [(2, ii (-1)), (0, .ref 102), (1, ii x)]) (S' := [.ref 102]) dm_X12_expression_58 rfl rfl rfl rfl ?_
          refine me3 (pc' := 62) (S' := [ii (z.1 38)]) dm_X12_expression_59 (q_geti (v := z.1 38) hm rfl (fun m i l => rg_38 m i l) rfl) rfl rfl rfl ?_
          refine me0 (pc' := 63) (S' := [ii 5, ii (z.1 38)]) dm_X12_expression_62 rfl rfl rfl rfl ?_
          refine y_2eq (a := z.1 38) (b := 5) (t := 79) (pc' := 66) dm_X12_expression_63 rfl rfl (by omega) (fun hb8 => ?_) (fun hb8 => ?_)
          · refine me1 (pc' := 80) (L' := [(2, ii (-1)), (0, .ref 102), (1, ii x)]) (S' := [.ref 102]) dm_X12_expression_79 rfl rfl rfl rfl ?_
            refine me1 (pc' := 81) (L' := [(2, ii (-1)), (0, .ref 102), (1, ii x)]) (S' := [.ref 102, .ref 102]) dm_X12_expression_80 rfl rfl rfl rfl ?_
            refine me3 (pc' := 84) (S' := [ii (z.1 38), .ref 102]) dm_X12_expression_81 (q_geti (v := z.1 38) hm rfl (fun m i l => rg_38 m i l) rfl) rfl rfl rfl ?_
            refine me0 (pc' := 85) (S' := [ii 5, ii (z.1 38), .ref 102]) dm_X12_expression_84 rfl rfl rfl rfl ?_
            refine y_2ne (a := z.1 38) (b := 5) (t := 93) (pc' := 88) dm_X12_expression_85 rfl rfl (by omega) (fun hb9 => ?_) (fun hb9 => ?_)
            · refine me0 (pc' := 95) (S' := [ii 7, .ref 102]) dm_X12_expression_93 rfl rfl rfl rfl ?_
              refine pg_st0 (S' := [ii (if tqS (T a) = 5 then 6 else 7), .ref 102]) (congrArg (fun z => ii z :: [.ref 102]) (by first | (exfalso; omega) | (rw [if_pos (by omega)]) | (rw [if_neg (by omega)]))) ?_
              exact pg_sub (L := [(0, .ref 102), (1, ii x), (2, ii (-1))]) rfl rfl rfl (jn95 a (-1) z (AJ_d hK hJ1 (by omega)))
            · refine me0 (pc' := 90) (S' := [ii 6, .ref 102]) dm_X12_expression_88 rfl rfl rfl rfl ?_
              refine me2 (pc' := 95) (S' := [ii 6, .ref 102]) dm_X12_expression_90 rfl rfl rfl ?_
              refine pg_st0 (S' := [ii (if tqS (T a) = 5 then 6 else 7), .ref 102]) (congrArg (fun z => ii z :: [.ref 102]) (by first | (exfalso; omega) | (rw [if_pos (by omega)]) | (rw [if_neg (by omega)]))) ?_
              exact pg_sub (L := [(0, .ref 102), (1, ii x), (2, ii (-1))]) rfl rfl rfl (jn95 a (-1) z (AJ_d hK hJ1 (by omega)))
          · refine me1 (pc' := 67) (L' := [(2, ii (-1)), (0, .ref 102), (1, ii x)]) (S' := [.ref 102]) dm_X12_expression_66 rfl rfl rfl rfl ?_
            refine me3 (pc' := 70) (S' := [ii (z.1 38)]) dm_X12_expression_67 (q_geti (v := z.1 38) hm rfl (fun m i l => rg_38 m i l) rfl) rfl rfl rfl ?_
            refine me0 (pc' := 71) (S' := [ii 4, ii (z.1 38)]) dm_X12_expression_70 rfl rfl rfl rfl ?_
            refine y_2eq (a := z.1 38) (b := 4) (t := 79) (pc' := 74) dm_X12_expression_71 rfl rfl (by omega) (fun hb10 => ?_) (fun hb10 => ?_)
            · refine me1 (pc' := 80) (L' := [(2, ii (-1)), (0, .ref 102), (1, ii x)]) (S' := [.ref 102]) dm_X12_expression_79 rfl rfl rfl rfl ?_
              refine me1 (pc' := 81) (L' := [(2, ii (-1)), (0, .ref 102), (1, ii x)]) (S' := [.ref 102, .ref 102]) dm_X12_expression_80 rfl rfl rfl rfl ?_
              refine me3 (pc' := 84) (S' := [ii (z.1 38), .ref 102]) dm_X12_expression_81 (q_geti (v := z.1 38) hm rfl (fun m i l => rg_38 m i l) rfl) rfl rfl rfl ?_
              refine me0 (pc' := 85) (S' := [ii 5, ii (z.1 38), .ref 102]) dm_X12_expression_84 rfl rfl rfl rfl ?_
              refine y_2ne (a := z.1 38) (b := 5) (t := 93) (pc' := 88) dm_X12_expression_85 rfl rfl (by omega) (fun hb11 => ?_) (fun hb11 => ?_)
              · refine me0 (pc' := 95) (S' := [ii 7, .ref 102]) dm_X12_expression_93 rfl rfl rfl rfl ?_
                refine pg_st0 (S' := [ii (if tqS (T a) = 5 then 6 else 7), .ref 102]) (congrArg (fun z => ii z :: [.ref 102]) (by first | (exfalso; omega) | (rw [if_pos (by omega)]) | (rw [if_neg (by omega)]))) ?_
                exact pg_sub (L := [(0, .ref 102), (1, ii x), (2, ii (-1))]) rfl rfl rfl (jn95 a (-1) z (AJ_d hK hJ1 (by omega)))
              · refine me0 (pc' := 90) (S' := [ii 6, .ref 102]) dm_X12_expression_88 rfl rfl rfl rfl ?_
                refine me2 (pc' := 95) (S' := [ii 6, .ref 102]) dm_X12_expression_90 rfl rfl rfl ?_
                refine pg_st0 (S' := [ii (if tqS (T a) = 5 then 6 else 7), .ref 102]) (congrArg (fun z => ii z :: [.ref 102]) (by first | (exfalso; omega) | (rw [if_pos (by omega)]) | (rw [if_neg (by omega)]))) ?_
                exact pg_sub (L := [(0, .ref 102), (1, ii x), (2, ii (-1))]) rfl rfl rfl (jn95 a (-1) z (AJ_d hK hJ1 (by omega)))
            · refine me1 (pc' := 75) (L' := [(2, ii (-1)), (0, .ref 102), (1, ii x)]) (S' := [.ref 102]) dm_X12_expression_74 rfl rfl rfl rfl ?_
              refine x_cv (pc' := 78) (rest := []) dm_X12_expression_75 rfl (q_inv (As := []) (S := []) hm rfl rfl rfl) rfl rfl rfl (r_wrong_ (s := z) hm (by omega) (by omega)) ?_
              rintro _ _ ⟨rfl, rfl⟩
              refine y_ret (r := some (ii (-1))) dm_X12_expression_78 rfl rfl rfl ?_
              exact ⟨_, rfl, RQ_ie (z7.trans (by rw [hg, show g - 1 = (g - 3) + 1 + 1 by omega]; exact pR0_e (by omega) (pR1_e (pR3_x (by omega) (fun z => by have := z.1; omega) (fun z => by have := z.1; omega))))) (rdR_tr z4 (rdT_wr z).1) ((wr_52 (by omega)).trans z39) (RMe_tr z8 (by decide) (RMe_T (rdT_wr z) (by omega)))⟩
        · replace hb7 := dT hb7
          have hnn := hb7
          refine me1 (pc' := 19) (L' := [(2, ii (-1)), (0, .ref 102), (1, ii x)]) (S' := [.ref 102]) dm_X12_expression_18 rfl rfl rfl rfl ?_
          have hnd : ¬ isDs T a := by omega
          rcases e : pR T (g - 1) 1 o a with p_e | j_e
          · refine x_cv (pc' := 22) (rest := []) dm_X12_expression_19 rfl (q_inv (As := []) (S := []) hm rfl rfl rfl) rfl rfl rfl (show pgV xt (d - 1) 223 [.ref 102] (rS pre post z) (RQ pre post bf ln F T n m hi z (g - 1) 1 o a 0) by obtain ⟨q, hq⟩ : ∃ q, g - 1 = q + 3 := ⟨g - 4, by omega⟩; rw [hq]; exact r_noun_ (f := q) hm (by omega) hT hK z1 (fun g9 h9 => hE g9 (by omega)) zRM ho12 hhi z2 z3 hnn (by omega) (by omega) hTX) ?_
            rintro xe he hxe
            obtain ⟨t, tv, rfl, rfl, tR, t52, tE⟩ := RQ_e e hxe
            have hpl := pR_ln hK _ _ _ _ _ e
            obtain ⟨ta, tb, tc⟩ := id tE
            refine me1 (pc' := 23) (L' := [(2, ii tv), (0, .ref 102), (1, ii x)]) (S' := []) dm_X12_expression_22 rfl rfl rfl rfl ?_
            refine me1 (pc' := 24) (L' := [(2, ii tv), (0, .ref 102), (1, ii x)]) (S' := [.ref 102]) dm_X12_expression_23 rfl rfl rfl rfl ?_
            refine me3 (pc' := 27) (S' := [ii (t.1 52)]) dm_X12_expression_24 (q_geti (v := t.1 52) hm rfl (fun m i l => rg_52 m i l) rfl) rfl rfl rfl ?_
            refine y_1lt (a := t.1 52) (t := 32) (pc' := 30) dm_X12_expression_27 rfl rfl (by omega) (fun hb12 => ?_) (fun hb12 => ?_)
            · exfalso; omega
            · refine me0 (pc' := 31) (S' := [ii (-1)]) dm_X12_expression_30 rfl rfl rfl rfl ?_
              refine y_ret (r := some (ii (-1))) dm_X12_expression_31 rfl rfl rfl ?_
              exact ⟨_, rfl, RQ_ie (z7.trans (by rw [hg]; exact pR0_e hnd e)) (rdR_tr z4 tR) t52 ⟨by omega, by omega, by omega⟩⟩
          · refine x_cv (pc' := 22) (rest := []) dm_X12_expression_19 rfl (q_inv (As := []) (S := []) hm rfl rfl rfl) rfl rfl rfl (show pgV xt (d - 1) 223 [.ref 102] (rS pre post z) (RQ pre post bf ln F T n m hi z (g - 1) 1 o a 0) by obtain ⟨q, hq⟩ : ∃ q, g - 1 = q + 3 := ⟨g - 4, by omega⟩; rw [hq]; exact r_noun_ (f := q) hm (by omega) hT hK z1 (fun g9 h9 => hE g9 (by omega)) zRM ho12 hhi z2 z3 hnn (by omega) (by omega) hTX) ?_
            rintro xe he hxe
            obtain ⟨t, rfl, tR, tD, t51, t52, tM, nn, B, rfl, tp, tq, tB, tC⟩ := RQ_v e hxe
            have tM : RMd T z t a j_e 1 (-1) := tM
            have hj := pR_mk hK _ 1 _ _ _ (by omega) e
            have hjj := hj.2.2 (by decide)
            obtain ⟨ta, tb, tc⟩ := id tM
            obtain ⟨t38, t8, t40⟩ := RD_s hT hK tD
            clear t40
            have tP := P_ln hK j_e
            have zt9 := tR.2.1
            refine me1 (pc' := 23) (L' := [(2, ii (nn : Int)), (0, .ref 102), (1, ii x)]) (S' := []) dm_X12_expression_22 rfl rfl rfl rfl ?_
            refine me1 (pc' := 24) (L' := [(2, ii (nn : Int)), (0, .ref 102), (1, ii x)]) (S' := [.ref 102]) dm_X12_expression_23 rfl rfl rfl rfl ?_
            refine me3 (pc' := 27) (S' := [ii (t.1 52)]) dm_X12_expression_24 (q_geti (v := t.1 52) hm rfl (fun m i l => rg_52 m i l) rfl) rfl rfl rfl ?_
            refine y_1lt (a := t.1 52) (t := 32) (pc' := 30) dm_X12_expression_27 rfl rfl (by omega) (fun hb13 => ?_) (fun hb13 => ?_)
            · refine me1 (pc' := 33) (L' := [(2, ii (nn : Int)), (0, .ref 102), (1, ii x)]) (S' := [.ref 102]) dm_X12_expression_32 rfl rfl rfl rfl ?_
              refine me3 (pc' := 36) (S' := [ii (t.1 38)]) dm_X12_expression_33 (q_geti (v := t.1 38) hm rfl (fun m i l => rg_38 m i l) rfl) rfl rfl rfl ?_
              refine me0 (pc' := 37) (S' := [ii 5, ii (t.1 38)]) dm_X12_expression_36 rfl rfl rfl rfl ?_
              refine y_2eq (a := t.1 38) (b := 5) (t := 79) (pc' := 40) dm_X12_expression_37 rfl rfl (by omega) (fun hb14 => ?_) (fun hb14 => ?_)
              · have hds : isDs T j_e := by omega
                refine me1 (pc' := 80) (L' := [(2, ii (nn : Int)), (0, .ref 102), (1, ii x)]) (S' := [.ref 102]) dm_X12_expression_79 rfl rfl rfl rfl ?_
                refine me1 (pc' := 81) (L' := [(2, ii (nn : Int)), (0, .ref 102), (1, ii x)]) (S' := [.ref 102, .ref 102]) dm_X12_expression_80 rfl rfl rfl rfl ?_
                refine me3 (pc' := 84) (S' := [ii (t.1 38), .ref 102]) dm_X12_expression_81 (q_geti (v := t.1 38) hm rfl (fun m i l => rg_38 m i l) rfl) rfl rfl rfl ?_
                refine me0 (pc' := 85) (S' := [ii 5, ii (t.1 38), .ref 102]) dm_X12_expression_84 rfl rfl rfl rfl ?_
                refine y_2ne (a := t.1 38) (b := 5) (t := 93) (pc' := 88) dm_X12_expression_85 rfl rfl (by omega) (fun hb15 => ?_) (fun hb15 => ?_)
                · refine me0 (pc' := 95) (S' := [ii 7, .ref 102]) dm_X12_expression_93 rfl rfl rfl rfl ?_
                  refine pg_st0 (S' := [ii (if tqS (T j_e) = 5 then 6 else 7), .ref 102]) (congrArg (fun z => ii z :: [.ref 102]) (by first | (exfalso; omega) | (rw [if_pos (by omega)]) | (rw [if_neg (by omega)]))) ?_
                  exact pg_sub (L := [(0, .ref 102), (1, ii x), (2, ii (nn : Int))]) rfl rfl rfl (jn95 j_e (nn : Int) t (AJ_n hK hnd e hds tD t51 t52 tR tM tq tB tC hjj))
                · refine me0 (pc' := 90) (S' := [ii 6, .ref 102]) dm_X12_expression_88 rfl rfl rfl rfl ?_
                  refine me2 (pc' := 95) (S' := [ii 6, .ref 102]) dm_X12_expression_90 rfl rfl rfl ?_
                  refine pg_st0 (S' := [ii (if tqS (T j_e) = 5 then 6 else 7), .ref 102]) (congrArg (fun z => ii z :: [.ref 102]) (by first | (exfalso; omega) | (rw [if_pos (by omega)]) | (rw [if_neg (by omega)]))) ?_
                  exact pg_sub (L := [(0, .ref 102), (1, ii x), (2, ii (nn : Int))]) rfl rfl rfl (jn95 j_e (nn : Int) t (AJ_n hK hnd e hds tD t51 t52 tR tM tq tB tC hjj))
              · refine me1 (pc' := 41) (L' := [(2, ii (nn : Int)), (0, .ref 102), (1, ii x)]) (S' := [.ref 102]) dm_X12_expression_40 rfl rfl rfl rfl ?_
                refine me3 (pc' := 44) (S' := [ii (t.1 38)]) dm_X12_expression_41 (q_geti (v := t.1 38) hm rfl (fun m i l => rg_38 m i l) rfl) rfl rfl rfl ?_
                refine me0 (pc' := 45) (S' := [ii 4, ii (t.1 38)]) dm_X12_expression_44 rfl rfl rfl rfl ?_
                refine y_2eq (a := t.1 38) (b := 4) (t := 79) (pc' := 48) dm_X12_expression_45 rfl rfl (by omega) (fun hb16 => ?_) (fun hb16 => ?_)
                · have hds : isDs T j_e := by omega
                  refine me1 (pc' := 80) (L' := [(2, ii (nn : Int)), (0, .ref 102), (1, ii x)]) (S' := [.ref 102]) dm_X12_expression_79 rfl rfl rfl rfl ?_
                  refine me1 (pc' := 81) (L' := [(2, ii (nn : Int)), (0, .ref 102), (1, ii x)]) (S' := [.ref 102, .ref 102]) dm_X12_expression_80 rfl rfl rfl rfl ?_
                  refine me3 (pc' := 84) (S' := [ii (t.1 38), .ref 102]) dm_X12_expression_81 (q_geti (v := t.1 38) hm rfl (fun m i l => rg_38 m i l) rfl) rfl rfl rfl ?_
                  refine me0 (pc' := 85) (S' := [ii 5, ii (t.1 38), .ref 102]) dm_X12_expression_84 rfl rfl rfl rfl ?_
                  refine y_2ne (a := t.1 38) (b := 5) (t := 93) (pc' := 88) dm_X12_expression_85 rfl rfl (by omega) (fun hb17 => ?_) (fun hb17 => ?_)
                  · refine me0 (pc' := 95) (S' := [ii 7, .ref 102]) dm_X12_expression_93 rfl rfl rfl rfl ?_
                    refine pg_st0 (S' := [ii (if tqS (T j_e) = 5 then 6 else 7), .ref 102]) (congrArg (fun z => ii z :: [.ref 102]) (by first | (exfalso; omega) | (rw [if_pos (by omega)]) | (rw [if_neg (by omega)]))) ?_
                    exact pg_sub (L := [(0, .ref 102), (1, ii x), (2, ii (nn : Int))]) rfl rfl rfl (jn95 j_e (nn : Int) t (AJ_n hK hnd e hds tD t51 t52 tR tM tq tB tC hjj))
                  · refine me0 (pc' := 90) (S' := [ii 6, .ref 102]) dm_X12_expression_88 rfl rfl rfl rfl ?_
                    refine me2 (pc' := 95) (S' := [ii 6, .ref 102]) dm_X12_expression_90 rfl rfl rfl ?_
                    refine pg_st0 (S' := [ii (if tqS (T j_e) = 5 then 6 else 7), .ref 102]) (congrArg (fun z => ii z :: [.ref 102]) (by first | (exfalso; omega) | (rw [if_pos (by omega)]) | (rw [if_neg (by omega)]))) ?_
                    exact pg_sub (L := [(0, .ref 102), (1, ii x), (2, ii (nn : Int))]) rfl rfl rfl (jn95 j_e (nn : Int) t (AJ_n hK hnd e hds tD t51 t52 tR tM tq tB tC hjj))
                · have hnds : ¬ isDs T j_e := by omega
                  refine me1 (pc' := 49) (L' := [(2, ii (nn : Int)), (0, .ref 102), (1, ii x)]) (S' := [.ref 102]) dm_X12_expression_48 rfl rfl rfl rfl ?_
                  refine me0 (pc' := 50) (S' := [ii 0, .ref 102]) dm_X12_expression_49 rfl rfl rfl rfl ?_
                  refine me1 (pc' := 51) (L' := [(2, ii (nn : Int)), (0, .ref 102), (1, ii x)]) (S' := [ii (nn : Int), ii 0, .ref 102]) dm_X12_expression_50 rfl rfl rfl rfl ?_
                  refine me1 (pc' := 52) (L' := [(2, ii (nn : Int)), (0, .ref 102), (1, ii x)]) (S' := [ii x, ii (nn : Int), ii 0, .ref 102]) dm_X12_expression_51 rfl rfl rfl rfl ?_
                  refine me0 (pc' := 53) (S' := [ii 0, ii x, ii (nn : Int), ii 0, .ref 102]) dm_X12_expression_52 rfl rfl rfl rfl ?_
                  refine me0 (pc' := 54) (S' := [ii 0, ii 0, ii x, ii (nn : Int), ii 0, .ref 102]) dm_X12_expression_53 rfl rfl rfl rfl ?_
                  obtain ⟨N, hN⟩ : ∃ N : Nat, t.1 50 = (N : Int) := ⟨(t.1 50).toNat, by omega⟩
                  refine x_cv (pc' := 57) (rest := []) dm_X12_expression_54 rfl (q_inv (As := [ii 0, ii (nn : Int), ii x, ii 0, ii 0]) (S := []) hm rfl rfl rfl) rfl rfl rfl (r_node_ (s := t) (N := N) hm (by omega) hN (by omega)) ?_
                  rintro _ _ ⟨rfl, rfl⟩
                  have ni := nod_i t N 0 (nn : Int) x 0 0
                  have nr := rdR_nod hN 0 (nn : Int) x 0 0
                  have n3 := ni.2 3 (by decide)
                  have n4 := ni.2 4 (by decide)
                  have n52 := ni.2 52 (by decide)
                  have n51 := ni.2 51 (by decide)
                  have n50 := ni.1
                  have na := nod_at t N 0 (nn : Int) x 0 0
                  refine y_ret (r := some (ii (N : Int))) dm_X12_expression_57 rfl rfl rfl ?_
                  refine ⟨_, rfl, RQ_iv (B := N + 1) (z7.trans (by rw [hg]; exact pR0_n hnd e hnds)) (rdR_tr z4 (rdR_tr tR nr)) (RD_fr nr (tkE_nod t N 0 (nn : Int) x 0 0) tD) (n51.trans t51) (n52.trans t52) ⟨by omega, by omega, by (show _ + _ + (0 : Int) ≤ _; omega), by omega⟩ (by omega) (by omega) n50 (hJ.2.2.2.2.2.2.2.2 _ _ _ (rdR_tr tR nr) (by omega) ?_)⟩
                  rw [hg]
                  exact (rR_n hnd e hnds).mpr ⟨nn, by omega, by omega, rR_k _ _ _ _ _ _ _ _ _ _ (ndK_d nr (show ((B : Nat) : Int) ≤ t.1 50 by omega)) (by omega) tC, na.1, na.2.1, na.2.2.1⟩
            · exfalso; omega
  exact pg_sub (L := [(0, .ref 102), (1, ii (-1))]) rfl rfl rfl (lp2 _ i f (-1) s rfl (EJ_0 hR ho h52 hi1 hf))
theorem r_expr_ {xt : mj_X} {pre post : mj_H} {bf : Nat → Int} {ln n m hi mk : Nat} {F : Nat → Int → Bool} {T : Nat → Tok} (hm : pre.length = 102) (hT : T = tkI bf ln F) (hK : TOKS T mk ln) (hhi : mk ≤ hi) (hTX : ∀ i, tqS (tkI bf ln F i) = 2 → ∀ k : Nat, (k : Int) < tqD (tkI bf ln F i) → tqP (tkI bf ln F i) + 1 + k < ln ∧ bf (tqP (tkI bf ln F i) + 1 + k) = tqX (tkI bf ln F i) k) : ∀ f, RE xt pre post bf ln F T mk n m hi f := by
  intro f
  induction f using Nat.strongRecOn with
  | ind f ih => exact fun d s i o hd hR ho h52 hRM hi1 ho12 hf => r_expr1 hm hd hT hK hR ih hRM ho12 hhi ho h52 hi1 hf hTX
