theorem vres_gt {A : Nat → Prop} {h g : mj_H} {D a b q p : Nat} {v : VV} {c1 c2 c3 : mj_E} (hr : vres A h D v a b (.ref q) g) (hl : 127 ≤ h.length) (hA : okA A h) (h1 : h[16]? = some c1) (h2 : h[32]? = some c2) (h3 : h[p]? = some c3) : g[16]? = some c1 ∧ g[32]? = some c2 ∧ g[p]? = some c3 ∧ h.length ≤ g.length ∧ g.length ≤ h.length + a ∧ okA (newA A h g) g ∧ cv (newA A h g) g D q v := by
  obtain ⟨q', X, e, rfl, x1, x2, x3⟩ := hr
  have e : q = q' := by injection e
  subst e
  have gl : (h ++ X).length = h.length + X.length := List.length_append
  exact ⟨hl_app h1, hl_app h2, hl_app h3, by omega, by omega, okA_new hA hl (by omega), x3⟩
set_option maxRecDepth 20000 in
theorem pm_X1_gather : mj_mmof pg_ms 161 = some ((⟨"ArrayCalculator$Machine", "gather", "(LArrayCalculator$Op;III)V"⟩, prog_3_method_22_code, 9, (Option.none : Option Jvm.ClassFile.FieldType)), 1, false, mj_dec prog_3_method_22_code) := rfl
theorem dm_X1_gather_0 : mj_dec prog_3_method_22_code 0 = some (.iconst 0, 1) := by decide +kernel
theorem dm_X1_gather_1 : mj_dec prog_3_method_22_code 1 = some (.istore 5, 2) := by decide +kernel
theorem dm_X1_gather_3 : mj_dec prog_3_method_22_code 3 = some (.iconst 0, 1) := by decide +kernel
theorem dm_X1_gather_4 : mj_dec prog_3_method_22_code 4 = some (.istore 6, 2) := by decide +kernel
theorem dm_X1_gather_6 : mj_dec prog_3_method_22_code 6 = some (.iconst 0, 1) := by decide +kernel
theorem dm_X1_gather_7 : mj_dec prog_3_method_22_code 7 = some (.istore 7, 2) := by decide +kernel
theorem dm_X1_gather_9 : mj_dec prog_3_method_22_code 9 = some (.iload 7, 2) := by decide +kernel
theorem dm_X1_gather_11 : mj_dec prog_3_method_22_code 11 = some (.iload_n 3, 1) := by decide +kernel
theorem dm_X1_gather_12 : mj_dec prog_3_method_22_code 12 = some (.if_icmp .ge 56, 3) := by decide +kernel
theorem dm_X1_gather_15 : mj_dec prog_3_method_22_code 15 = some (.aload_n 0, 1) := by decide +kernel
theorem dm_X1_gather_16 : mj_dec prog_3_method_22_code 16 = some (.iload_n 2, 1) := by decide +kernel
theorem dm_X1_gather_17 : mj_dec prog_3_method_22_code 17 = some (.iload 7, 2) := by decide +kernel
theorem dm_X1_gather_19 : mj_dec prog_3_method_22_code 19 = some (.iload 4, 2) := by decide +kernel
theorem dm_X1_gather_21 : mj_dec prog_3_method_22_code 21 = some (.imul, 1) := by decide +kernel
theorem dm_X1_gather_22 : mj_dec prog_3_method_22_code 22 = some (.iadd, 1) := by decide +kernel
theorem dm_X1_gather_23 : mj_dec prog_3_method_22_code 23 = some (.invokevirtual 246, 3) := by decide +kernel
theorem dm_X1_gather_26 : mj_dec prog_3_method_22_code 26 = some (.getfield 180, 3) := by decide +kernel
theorem dm_X1_gather_29 : mj_dec prog_3_method_22_code 29 = some (.istore 8, 2) := by decide +kernel
theorem dm_X1_gather_31 : mj_dec prog_3_method_22_code 31 = some (.iload 5, 2) := by decide +kernel
theorem dm_X1_gather_33 : mj_dec prog_3_method_22_code 33 = some (.iload 8, 2) := by decide +kernel
theorem dm_X1_gather_35 : mj_dec prog_3_method_22_code 35 = some (.ifCond .ne 7, 3) := by decide +kernel
theorem dm_X1_gather_38 : mj_dec prog_3_method_22_code 38 = some (.iconst 1, 1) := by decide +kernel
theorem dm_X1_gather_39 : mj_dec prog_3_method_22_code 39 = some (.goto 4, 3) := by decide +kernel
theorem dm_X1_gather_42 : mj_dec prog_3_method_22_code 42 = some (.iconst 0, 1) := by decide +kernel
theorem dm_X1_gather_43 : mj_dec prog_3_method_22_code 43 = some (.iadd, 1) := by decide +kernel
theorem dm_X1_gather_44 : mj_dec prog_3_method_22_code 44 = some (.istore 5, 2) := by decide +kernel
theorem dm_X1_gather_46 : mj_dec prog_3_method_22_code 46 = some (.iload 6, 2) := by decide +kernel
theorem dm_X1_gather_48 : mj_dec prog_3_method_22_code 48 = some (.iload 8, 2) := by decide +kernel
theorem dm_X1_gather_50 : mj_dec prog_3_method_22_code 50 = some (.iconst 1, 1) := by decide +kernel
theorem dm_X1_gather_51 : mj_dec prog_3_method_22_code 51 = some (.if_icmp .ne 7, 3) := by decide +kernel
theorem dm_X1_gather_54 : mj_dec prog_3_method_22_code 54 = some (.iconst 1, 1) := by decide +kernel
theorem dm_X1_gather_55 : mj_dec prog_3_method_22_code 55 = some (.goto 4, 3) := by decide +kernel
theorem dm_X1_gather_58 : mj_dec prog_3_method_22_code 58 = some (.iconst 0, 1) := by decide +kernel
theorem dm_X1_gather_59 : mj_dec prog_3_method_22_code 59 = some (.iadd, 1) := by decide +kernel
theorem dm_X1_gather_60 : mj_dec prog_3_method_22_code 60 = some (.istore 6, 2) := by decide +kernel
theorem dm_X1_gather_62 : mj_dec prog_3_method_22_code 62 = some (.iinc 7 1, 3) := by decide +kernel
theorem dm_X1_gather_65 : mj_dec prog_3_method_22_code 65 = some (.goto (-56), 3) := by decide +kernel
theorem dm_X1_gather_68 : mj_dec prog_3_method_22_code 68 = some (.iload_n 3, 1) := by decide +kernel
theorem dm_X1_gather_69 : mj_dec prog_3_method_22_code 69 = some (.ifCond .le 19, 3) := by decide +kernel
theorem dm_X1_gather_72 : mj_dec prog_3_method_22_code 72 = some (.iload 5, 2) := by decide +kernel
theorem dm_X1_gather_74 : mj_dec prog_3_method_22_code 74 = some (.iload_n 3, 1) := by decide +kernel
theorem dm_X1_gather_75 : mj_dec prog_3_method_22_code 75 = some (.if_icmp .eq 9, 3) := by decide +kernel
theorem dm_X1_gather_78 : mj_dec prog_3_method_22_code 78 = some (.iload 6, 2) := by decide +kernel
theorem dm_X1_gather_80 : mj_dec prog_3_method_22_code 80 = some (.iload_n 3, 1) := by decide +kernel
theorem dm_X1_gather_81 : mj_dec prog_3_method_22_code 81 = some (.if_icmp .ne 7, 3) := by decide +kernel
theorem dm_X1_gather_84 : mj_dec prog_3_method_22_code 84 = some (.iconst 1, 1) := by decide +kernel
theorem dm_X1_gather_85 : mj_dec prog_3_method_22_code 85 = some (.goto 4, 3) := by decide +kernel
theorem dm_X1_gather_88 : mj_dec prog_3_method_22_code 88 = some (.iconst 0, 1) := by decide +kernel
theorem dm_X1_gather_89 : mj_dec prog_3_method_22_code 89 = some (.istore 7, 2) := by decide +kernel
theorem dm_X1_gather_91 : mj_dec prog_3_method_22_code 91 = some (.iload_n 3, 1) := by decide +kernel
theorem dm_X1_gather_92 : mj_dec prog_3_method_22_code 92 = some (.iload 7, 2) := by decide +kernel
theorem dm_X1_gather_94 : mj_dec prog_3_method_22_code 94 = some (.ifCond .eq 8, 3) := by decide +kernel
theorem dm_X1_gather_97 : mj_dec prog_3_method_22_code 97 = some (.bipush 120, 2) := by decide +kernel
theorem dm_X1_gather_99 : mj_dec prog_3_method_22_code 99 = some (.goto 5, 3) := by decide +kernel
theorem dm_X1_gather_102 : mj_dec prog_3_method_22_code 102 = some (.bipush 24, 2) := by decide +kernel
theorem dm_X1_gather_104 : mj_dec prog_3_method_22_code 104 = some (.if_icmp .le 11, 3) := by decide +kernel
theorem dm_X1_gather_107 : mj_dec prog_3_method_22_code 107 = some (.aload_n 0, 1) := by decide +kernel
theorem dm_X1_gather_108 : mj_dec prog_3_method_22_code 108 = some (.bipush 8, 2) := by decide +kernel
theorem dm_X1_gather_110 : mj_dec prog_3_method_22_code 110 = some (.aload_n 1, 1) := by decide +kernel
theorem dm_X1_gather_111 : mj_dec prog_3_method_22_code 111 = some (.invokevirtual 125, 3) := by decide +kernel
theorem dm_X1_gather_114 : mj_dec prog_3_method_22_code 114 = some (.return_, 1) := by decide +kernel
theorem dm_X1_gather_115 : mj_dec prog_3_method_22_code 115 = some (.iload 7, 2) := by decide +kernel
theorem dm_X1_gather_117 : mj_dec prog_3_method_22_code 117 = some (.ifCond .eq 14, 3) := by decide +kernel
theorem dm_X1_gather_120 : mj_dec prog_3_method_22_code 120 = some (.aload_n 0, 1) := by decide +kernel
theorem dm_X1_gather_121 : mj_dec prog_3_method_22_code 121 = some (.iload_n 2, 1) := by decide +kernel
theorem dm_X1_gather_122 : mj_dec prog_3_method_22_code 122 = some (.iload_n 3, 1) := by decide +kernel
theorem dm_X1_gather_123 : mj_dec prog_3_method_22_code 123 = some (.iload 4, 2) := by decide +kernel
theorem dm_X1_gather_125 : mj_dec prog_3_method_22_code 125 = some (.invokevirtual 249, 3) := by decide +kernel
theorem dm_X1_gather_128 : mj_dec prog_3_method_22_code 128 = some (.goto 11, 3) := by decide +kernel
theorem dm_X1_gather_131 : mj_dec prog_3_method_22_code 131 = some (.aload_n 0, 1) := by decide +kernel
theorem dm_X1_gather_132 : mj_dec prog_3_method_22_code 132 = some (.iload_n 2, 1) := by decide +kernel
theorem dm_X1_gather_133 : mj_dec prog_3_method_22_code 133 = some (.iload_n 3, 1) := by decide +kernel
theorem dm_X1_gather_134 : mj_dec prog_3_method_22_code 134 = some (.iload 4, 2) := by decide +kernel
theorem dm_X1_gather_136 : mj_dec prog_3_method_22_code 136 = some (.invokevirtual 253, 3) := by decide +kernel
theorem dm_X1_gather_139 : mj_dec prog_3_method_22_code 139 = some (.astore 8, 2) := by decide +kernel
theorem dm_X1_gather_141 : mj_dec prog_3_method_22_code 141 = some (.aload 8, 2) := by decide +kernel
theorem dm_X1_gather_143 : mj_dec prog_3_method_22_code 143 = some (.getfield 189, 3) := by decide +kernel
theorem dm_X1_gather_146 : mj_dec prog_3_method_22_code 146 = some (.sipush 1000, 3) := by decide +kernel
theorem dm_X1_gather_149 : mj_dec prog_3_method_22_code 149 = some (.if_icmp .gt 12, 3) := by decide +kernel
theorem dm_X1_gather_152 : mj_dec prog_3_method_22_code 152 = some (.aload 8, 2) := by decide +kernel
theorem dm_X1_gather_154 : mj_dec prog_3_method_22_code 154 = some (.getfield 215, 3) := by decide +kernel
theorem dm_X1_gather_157 : mj_dec prog_3_method_22_code 157 = some (.iconst 5, 1) := by decide +kernel
theorem dm_X1_gather_158 : mj_dec prog_3_method_22_code 158 = some (.if_icmp .le 13, 3) := by decide +kernel
theorem dm_X1_gather_161 : mj_dec prog_3_method_22_code 161 = some (.aload_n 0, 1) := by decide +kernel
theorem dm_X1_gather_162 : mj_dec prog_3_method_22_code 162 = some (.bipush 8, 2) := by decide +kernel
theorem dm_X1_gather_164 : mj_dec prog_3_method_22_code 164 = some (.aload_n 1, 1) := by decide +kernel
theorem dm_X1_gather_165 : mj_dec prog_3_method_22_code 165 = some (.invokevirtual 125, 3) := by decide +kernel
theorem dm_X1_gather_168 : mj_dec prog_3_method_22_code 168 = some (.goto 34, 3) := by decide +kernel
theorem dm_X1_gather_171 : mj_dec prog_3_method_22_code 171 = some (.aload_n 0, 1) := by decide +kernel
theorem dm_X1_gather_172 : mj_dec prog_3_method_22_code 172 = some (.iconst 3, 1) := by decide +kernel
theorem dm_X1_gather_173 : mj_dec prog_3_method_22_code 173 = some (.aload 8, 2) := by decide +kernel
theorem dm_X1_gather_175 : mj_dec prog_3_method_22_code 175 = some (.getfield 189, 3) := by decide +kernel
theorem dm_X1_gather_178 : mj_dec prog_3_method_22_code 178 = some (.iadd, 1) := by decide +kernel
theorem dm_X1_gather_179 : mj_dec prog_3_method_22_code 179 = some (.aload_n 1, 1) := by decide +kernel
theorem dm_X1_gather_180 : mj_dec prog_3_method_22_code 180 = some (.invokevirtual 192, 3) := by decide +kernel
theorem dm_X1_gather_183 : mj_dec prog_3_method_22_code 183 = some (.ifCond .eq 19, 3) := by decide +kernel
theorem dm_X1_gather_186 : mj_dec prog_3_method_22_code 186 = some (.aload_n 0, 1) := by decide +kernel
theorem dm_X1_gather_187 : mj_dec prog_3_method_22_code 187 = some (.dup, 1) := by decide +kernel
theorem dm_X1_gather_188 : mj_dec prog_3_method_22_code 188 = some (.getfield 53, 3) := by decide +kernel
theorem dm_X1_gather_191 : mj_dec prog_3_method_22_code 191 = some (.iload_n 3, 1) := by decide +kernel
theorem dm_X1_gather_192 : mj_dec prog_3_method_22_code 192 = some (.isub, 1) := by decide +kernel
theorem dm_X1_gather_193 : mj_dec prog_3_method_22_code 193 = some (.putfield 53, 3) := by decide +kernel
theorem dm_X1_gather_196 : mj_dec prog_3_method_22_code 196 = some (.aload_n 0, 1) := by decide +kernel
theorem dm_X1_gather_197 : mj_dec prog_3_method_22_code 197 = some (.aload 8, 2) := by decide +kernel
theorem dm_X1_gather_199 : mj_dec prog_3_method_22_code 199 = some (.invokevirtual 138, 3) := by decide +kernel
theorem dm_X1_gather_202 : mj_dec prog_3_method_22_code 202 = some (.return_, 1) := by decide +kernel
theorem m_gather {xt : mj_X} {f1 : Nat → Value} {d t e n : Nat} {A : Nat → Prop} {h : mj_H} {sf : Nat → Option Nat} {ix : Nat → Nat} {ch : Nat → VV} {fr stp : Int} {dp ca ou wk pl lv : Int} {nw vx vy lf rt : Value} (hx1 : xt 1 = some (.long, 0, f1)) (hd : 6 ≤ d) (hl : 127 ≤ h.length) (hA : okA A h) (h16 : h[16]? = some (mcC ((t + n : Nat) : Int) dp ca ou wk 0 pl nw vx vy .null lv lf rt)) (h32 : h[32]? = some (cA 4 8192 sf)) (hix : ∀ k, k < n → fr + (k : Int) * stp = ((ix k : Nat) : Int)) (hixb : ∀ k, k < n → ix k < 8192) (hqq : ∀ k, k < n → ∃ q, sf (ix k) = some q ∧ cv A h (e + 1) q (ch k)) (hixt : ∀ k, k < n → ((ix k : Nat) : Int) < ((t + n : Nat) : Int)) {p : Nat} {od pp ov oa om ot : Int} {onm : Int64} {ovl onx oot : Value} (hp : h[p]? = some (opC od pp ov onm oa om ot ovl onx oot)) (hp2 : 127 ≤ p) (hca : -2147483648 ≤ ca ∧ ca ≤ 2147483647) (hH0 : actH h) (hwk : 0 ≤ wk ∧ wk ≤ 1000000) (hn : n ≤ 1000) (htn : t + n ≤ 8192) (ht1 : t < 8192) (hfr0 : 0 < n → fr = ((ix 0 : Nat) : Int)) (he : e + 1 ≤ 20) (hS1 : ∀ k, k < n → vsz (e + 1) (ch k) ≤ 1000) : pgN xt d 161 [.ref 16, .ref p, ii fr, ii (n : Int), ii stp] h (fun h' => mGat A h (e + 2) t n sf dp ca ou pl pp nw vx vy lv lf rt (mGo (e + 2) wk (gaV n ch)) 2 (n + 9) h') := by
  refine x_enter pm_X1_gather (L0 := [(0, .ref 16), (1, .ref p), (2, ii fr), (3, ii (n : Int)), (4, ii stp)]) rfl (Nat.le_of_ble_eq_true rfl) (by omega) ?_
  refine me0 (pc' := 1) (S' := [ii 0]) dm_X1_gather_0 rfl rfl rfl rfl ?_
  refine me1 (pc' := 3) (L' := [(5, ii 0), (0, .ref 16), (1, .ref p), (2, ii fr), (3, ii (n : Int)), (4, ii stp)]) (S' := []) dm_X1_gather_1 rfl rfl rfl rfl ?_
  refine me0 (pc' := 4) (S' := [ii 0]) dm_X1_gather_3 rfl rfl rfl rfl ?_
  refine me1 (pc' := 6) (L' := [(6, ii 0), (5, ii 0), (0, .ref 16), (1, .ref p), (2, ii fr), (3, ii (n : Int)), (4, ii stp)]) (S' := []) dm_X1_gather_4 rfl rfl rfl rfl ?_
  refine me0 (pc' := 7) (S' := [ii 0]) dm_X1_gather_6 rfl rfl rfl rfl ?_
  refine me1 (pc' := 9) (L' := [(7, ii 0), (6, ii 0), (5, ii 0), (0, .ref 16), (1, .ref p), (2, ii fr), (3, ii (n : Int)), (4, ii stp)]) (S' := []) dm_X1_gather_7 rfl rfl rfl rfl ?_
  have lp9 : ∀ (n9 : Nat) (k : Nat) (a : Nat) (b : Nat), n - k = n9 → (k ≤ n) → (a = cnB (isNb ch) k) → (b = cnB (isSg ch) k) → pgE xt (d - 1) 1 9 false (Option.none : Option Jvm.ClassFile.FieldType) (mj_dec prog_3_method_22_code) 9 [(0, .ref 16), (1, .ref p), (2, ii fr), (3, ii (n : Int)), (4, ii stp), (5, ii ((a : Nat) : Int)), (6, ii ((b : Nat) : Int)), (7, ii (k : Int))] [] h (fun r h' => r = none ∧ mGat A h (e + 2) t n sf dp ca ou pl pp nw vx vy lv lf rt (mGo (e + 2) wk (gaV n ch)) 2 (n + 9) h') := by
    intro n9
    induction n9 using Nat.strongRecOn with
    | ind n9 ih9 =>
      intro k a b hm9 hk ha hb
      have ha2 := cnB_le (isNb ch) k
      have hb2 := cnB_le (isSg ch) k
      refine me1 (pc' := 11) (L' := [(0, .ref 16), (1, .ref p), (2, ii fr), (3, ii (n : Int)), (4, ii stp), (5, ii ((a : Nat) : Int)), (6, ii ((b : Nat) : Int)), (7, ii (k : Int))]) (S' := [ii (k : Int)]) dm_X1_gather_9 rfl rfl rfl rfl ?_
      refine me1 (pc' := 12) (L' := [(0, .ref 16), (1, .ref p), (2, ii fr), (3, ii (n : Int)), (4, ii stp), (5, ii ((a : Nat) : Int)), (6, ii ((b : Nat) : Int)), (7, ii (k : Int))]) (S' := [ii (n : Int), ii (k : Int)]) dm_X1_gather_11 rfl rfl rfl rfl ?_
      refine y_2ge (a := (k : Int)) (b := (n : Int)) (t := 68) (pc' := 15) dm_X1_gather_12 rfl rfl (by omega) (fun hb1 => ?_) (fun hb1 => ?_)
      · have hkn : k = n := by omega
        rw [hkn] at ha hb ha2 hb2
        refine me1 (pc' := 69) (L' := [(0, .ref 16), (1, .ref p), (2, ii fr), (3, ii (n : Int)), (4, ii stp), (5, ii ((a : Nat) : Int)), (6, ii ((b : Nat) : Int)), (7, ii (k : Int))]) (S' := [ii (n : Int)]) dm_X1_gather_68 rfl rfl rfl rfl ?_
        refine y_1le (a := (n : Int)) (t := 88) (pc' := 72) dm_X1_gather_69 rfl rfl (by omega) (fun hb2 => ?_) (fun hb2 => ?_)
        · refine me0 (pc' := 89) (S' := [ii 0]) dm_X1_gather_88 rfl rfl rfl rfl ?_
          refine me1 (pc' := 91) (L' := [(7, ii 0), (0, .ref 16), (1, .ref p), (2, ii fr), (3, ii (n : Int)), (4, ii stp), (5, ii ((a : Nat) : Int)), (6, ii ((b : Nat) : Int))]) (S' := []) dm_X1_gather_89 rfl rfl rfl rfl ?_
          refine me1 (pc' := 92) (L' := [(7, ii 0), (0, .ref 16), (1, .ref p), (2, ii fr), (3, ii (n : Int)), (4, ii stp), (5, ii ((a : Nat) : Int)), (6, ii ((b : Nat) : Int))]) (S' := [ii (n : Int)]) dm_X1_gather_91 rfl rfl rfl rfl ?_
          refine me1 (pc' := 94) (L' := [(7, ii 0), (0, .ref 16), (1, .ref p), (2, ii fr), (3, ii (n : Int)), (4, ii stp), (5, ii ((a : Nat) : Int)), (6, ii ((b : Nat) : Int))]) (S' := [ii 0, ii (n : Int)]) dm_X1_gather_92 rfl rfl rfl rfl ?_
          refine me_1t (pc' := 102) dm_X1_gather_94 rfl (by decide) ?_
          refine me0 (pc' := 104) (S' := [ii 24, ii (n : Int)]) dm_X1_gather_102 rfl rfl rfl rfl ?_
          refine y_2le (a := (n : Int)) (b := 24) (t := 115) (pc' := 107) dm_X1_gather_104 rfl rfl (by omega) (fun hb3 => ?_) (fun hb3 => ?_)
          · refine me1 (pc' := 117) (L' := [(7, ii 0), (0, .ref 16), (1, .ref p), (2, ii fr), (3, ii (n : Int)), (4, ii stp), (5, ii ((a : Nat) : Int)), (6, ii ((b : Nat) : Int))]) (S' := [ii 0]) dm_X1_gather_115 rfl rfl rfl rfl ?_
            refine me_1t (pc' := 131) dm_X1_gather_117 rfl (by decide) ?_
            refine me1 (pc' := 132) (L' := [(7, ii 0), (0, .ref 16), (1, .ref p), (2, ii fr), (3, ii (n : Int)), (4, ii stp), (5, ii ((a : Nat) : Int)), (6, ii ((b : Nat) : Int))]) (S' := [.ref 16]) dm_X1_gather_131 rfl rfl rfl rfl ?_
            refine me1 (pc' := 133) (L' := [(7, ii 0), (0, .ref 16), (1, .ref p), (2, ii fr), (3, ii (n : Int)), (4, ii stp), (5, ii ((a : Nat) : Int)), (6, ii ((b : Nat) : Int))]) (S' := [ii fr, .ref 16]) dm_X1_gather_132 rfl rfl rfl rfl ?_
            refine me1 (pc' := 134) (L' := [(7, ii 0), (0, .ref 16), (1, .ref p), (2, ii fr), (3, ii (n : Int)), (4, ii stp), (5, ii ((a : Nat) : Int)), (6, ii ((b : Nat) : Int))]) (S' := [ii (n : Int), ii fr, .ref 16]) dm_X1_gather_133 rfl rfl rfl rfl ?_
            refine me1 (pc' := 136) (L' := [(7, ii 0), (0, .ref 16), (1, .ref p), (2, ii fr), (3, ii (n : Int)), (4, ii stp), (5, ii ((a : Nat) : Int)), (6, ii ((b : Nat) : Int))]) (S' := [ii stp, ii (n : Int), ii fr, .ref 16]) dm_X1_gather_134 rfl rfl rfl rfl ?_
            refine x_cv (pc' := 139) (rest := []) dm_X1_gather_136 rfl (g_inv (As := [ii fr, ii (n : Int), ii stp]) (S := []) h16 rfl rfl rfl (by decide)) rfl rfl rfl (m_gathV (e := e) (fr := fr) (stp := stp) (ix := ix) hx1 (by omega) hl hA h16 h32 hix hixb hqq hixt (by omega) (by omega) (by omega) hS1) ?_
            rintro x9 g hres
            have hgo : gaV n ch = .inr (vnest n ch) := (gaV_v (Or.inl (by omega)) (Or.inl (by omega)) (by omega))
            generalize (vnest n ch) = vz at hres hgo
            obtain ⟨qz, rfl⟩ := vres_ref hres
            obtain ⟨g16, g32, gp, gl1, gl2, gA, gv⟩ := vres_gt hres hl hA h16 h32 hp
            obtain ⟨hwz, ⟨hqz2, hqAz⟩, hszz, hlvz, rowz, frz, valsz, hpz, -, -, -, -⟩ := id gv
            have hqz127 := (gA qz hqAz).2
            refine me1 (pc' := 141) (L' := [(8, .ref qz), (7, ii 0), (0, .ref 16), (1, .ref p), (2, ii fr), (3, ii (n : Int)), (4, ii stp), (5, ii ((a : Nat) : Int)), (6, ii ((b : Nat) : Int))]) (S' := []) dm_X1_gather_139 rfl rfl rfl rfl ?_
            refine me1 (pc' := 143) (L' := [(8, .ref qz), (7, ii 0), (0, .ref 16), (1, .ref p), (2, ii fr), (3, ii (n : Int)), (4, ii stp), (5, ii ((a : Nat) : Int)), (6, ii ((b : Nat) : Int))]) (S' := [.ref qz]) dm_X1_gather_141 rfl rfl rfl rfl ?_
            refine me3 (pc' := 146) (S' := [ii (vsz (e + 1 + 1) vz : Int)]) dm_X1_gather_143 (g_get (v := ii (vsz (e + 1 + 1) vz : Int)) hpz rfl rfl (by omega)) rfl rfl rfl ?_
            refine me0 (pc' := 149) (S' := [ii 1000, ii (vsz (e + 1 + 1) vz : Int)]) dm_X1_gather_146 rfl rfl rfl rfl ?_
            refine y_2gt (a := (vsz (e + 1 + 1) vz : Int)) (b := 1000) (t := 161) (pc' := 152) dm_X1_gather_149 rfl rfl (by omega) (fun hb4 => ?_) (fun hb4 => ?_)
            · refine me1 (pc' := 162) (L' := [(8, .ref qz), (7, ii 0), (0, .ref 16), (1, .ref p), (2, ii fr), (3, ii (n : Int)), (4, ii stp), (5, ii ((a : Nat) : Int)), (6, ii ((b : Nat) : Int))]) (S' := [.ref 16]) dm_X1_gather_161 rfl rfl rfl rfl ?_
              refine me0 (pc' := 164) (S' := [ii 8, .ref 16]) dm_X1_gather_162 rfl rfl rfl rfl ?_
              refine me1 (pc' := 165) (L' := [(8, .ref qz), (7, ii 0), (0, .ref 16), (1, .ref p), (2, ii fr), (3, ii (n : Int)), (4, ii stp), (5, ii ((a : Nat) : Int)), (6, ii ((b : Nat) : Int))]) (S' := [.ref p, ii 8, .ref 16]) dm_X1_gather_164 rfl rfl rfl rfl ?_
              refine x_cn (pc' := 168) (rest := []) dm_X1_gather_165 rfl (g_inv (As := [ii 8, .ref p]) (S := []) g16 rfl rfl rfl (by decide)) rfl rfl rfl (m_fail (c := 8) (by omega) g16 gp hp2 hca rfl) ?_
              rintro _ rfl
              refine me2 (pc' := 202) (S' := []) dm_X1_gather_168 rfl rfl rfl ?_
              refine y_ret (r := none) dm_X1_gather_202 rfl rfl rfl ?_
              refine ⟨rfl, ?_⟩
              rw [show mGo (e + 2) wk (gaV n ch) = _ from mGo_b (D := e + 1 + 1) hgo (by omega)]
              exact mGat_e hl h16 (fun _ _ _ => rfl) hH0 h32 hres
            · refine me1 (pc' := 154) (L' := [(8, .ref qz), (7, ii 0), (0, .ref 16), (1, .ref p), (2, ii fr), (3, ii (n : Int)), (4, ii stp), (5, ii ((a : Nat) : Int)), (6, ii ((b : Nat) : Int))]) (S' := [.ref qz]) dm_X1_gather_152 rfl rfl rfl rfl ?_
              refine me3 (pc' := 157) (S' := [ii (vlv (e + 1 + 1) vz : Int)]) dm_X1_gather_154 (g_get (v := ii (vlv (e + 1 + 1) vz : Int)) hpz rfl rfl (by omega)) rfl rfl rfl ?_
              refine me0 (pc' := 158) (S' := [ii 5, ii (vlv (e + 1 + 1) vz : Int)]) dm_X1_gather_157 rfl rfl rfl rfl ?_
              refine y_2le (a := (vlv (e + 1 + 1) vz : Int)) (b := 5) (t := 171) (pc' := 161) dm_X1_gather_158 rfl rfl (by omega) (fun hb5 => ?_) (fun hb5 => ?_)
              · refine me1 (pc' := 172) (L' := [(8, .ref qz), (7, ii 0), (0, .ref 16), (1, .ref p), (2, ii fr), (3, ii (n : Int)), (4, ii stp), (5, ii ((a : Nat) : Int)), (6, ii ((b : Nat) : Int))]) (S' := [.ref 16]) dm_X1_gather_171 rfl rfl rfl rfl ?_
                refine me0 (pc' := 173) (S' := [ii 3, .ref 16]) dm_X1_gather_172 rfl rfl rfl rfl ?_
                refine me1 (pc' := 175) (L' := [(8, .ref qz), (7, ii 0), (0, .ref 16), (1, .ref p), (2, ii fr), (3, ii (n : Int)), (4, ii stp), (5, ii ((a : Nat) : Int)), (6, ii ((b : Nat) : Int))]) (S' := [.ref qz, ii 3, .ref 16]) dm_X1_gather_173 rfl rfl rfl rfl ?_
                refine me3 (pc' := 178) (S' := [ii (vsz (e + 1 + 1) vz : Int), ii 3, .ref 16]) dm_X1_gather_175 (g_get (v := ii (vsz (e + 1 + 1) vz : Int)) hpz rfl rfl (by omega)) rfl rfl rfl ?_
                refine y_iadd (a := 3) (b := (vsz (e + 1 + 1) vz : Int)) dm_X1_gather_178 (pc' := 179) rfl ?_
                refine me1 (pc' := 180) (L' := [(8, .ref qz), (7, ii 0), (0, .ref 16), (1, .ref p), (2, ii fr), (3, ii (n : Int)), (4, ii stp), (5, ii ((a : Nat) : Int)), (6, ii ((b : Nat) : Int))]) (S' := [.ref p, ii (3 + (vsz (e + 1 + 1) vz : Int)), .ref 16]) dm_X1_gather_179 rfl rfl rfl rfl ?_
                by_cases hW : wk < 3 + (vsz (e + 1 + 1) vz : Int)
                · refine x_cv (pc' := 183) (rest := []) dm_X1_gather_180 rfl (g_inv (As := [ii (3 + (vsz (e + 1 + 1) vz : Int)), .ref p]) (S := []) g16 rfl rfl rfl (by decide)) rfl rfl rfl (m_takeF (n := 3 + (vsz (e + 1 + 1) vz : Int)) (by omega) g16 gp hp2 hca (by omega) hwk hW rfl) ?_
                  rintro _ _ ⟨rfl, rfl⟩
                  refine me_1t (pc' := 202) dm_X1_gather_183 rfl (by decide) ?_
                  refine y_ret (r := none) dm_X1_gather_202 rfl rfl rfl ?_
                  refine ⟨rfl, ?_⟩
                  rw [show mGo (e + 2) wk (gaV n ch) = _ from mGo_w (D := e + 1 + 1) hgo (by omega) hW]
                  exact mGat_e hl h16 (fun _ _ _ => rfl) hH0 h32 hres
                · refine x_cv (pc' := 183) (rest := []) dm_X1_gather_180 rfl (g_inv (As := [ii (3 + (vsz (e + 1 + 1) vz : Int)), .ref p]) (S := []) g16 rfl rfl rfl (by decide)) rfl rfl rfl (m_takeT (n := 3 + (vsz (e + 1 + 1) vz : Int)) (by omega) g16 gp hp2 hca (by omega) hwk (by omega) rfl) ?_
                  rintro _ _ ⟨rfl, rfl⟩
                  refine me_1f (pc' := 186) dm_X1_gather_183 rfl (by decide) rfl ?_
                  refine me1 (pc' := 187) (L' := [(8, .ref qz), (7, ii 0), (0, .ref 16), (1, .ref p), (2, ii fr), (3, ii (n : Int)), (4, ii stp), (5, ii ((a : Nat) : Int)), (6, ii ((b : Nat) : Int))]) (S' := [.ref 16]) dm_X1_gather_186 rfl rfl rfl rfl ?_
                  refine me0 (pc' := 188) (S' := [.ref 16, .ref 16]) dm_X1_gather_187 rfl rfl rfl rfl ?_
                  refine me3 (pc' := 191) (S' := [ii ((t + n : Nat) : Int), .ref 16]) dm_X1_gather_188 (g_get (v := ii ((t + n : Nat) : Int)) (hl_set (hl_lt g16)) rfl rfl (by decide)) rfl rfl rfl ?_
                  refine me1 (pc' := 192) (L' := [(8, .ref qz), (7, ii 0), (0, .ref 16), (1, .ref p), (2, ii fr), (3, ii (n : Int)), (4, ii stp), (5, ii ((a : Nat) : Int)), (6, ii ((b : Nat) : Int))]) (S' := [ii (n : Int), ii ((t + n : Nat) : Int), .ref 16]) dm_X1_gather_191 rfl rfl rfl rfl ?_
                  refine y_isub (a := ((t + n : Nat) : Int)) (b := (n : Int)) dm_X1_gather_192 (pc' := 193) rfl ?_
                  refine pg_st (S' := [ii ((t : Nat) : Int), .ref 16]) (congrArg (fun z => ii z :: [.ref 16]) (by omega)) ?_
                  refine me3 (pc' := 196) (S' := []) (h1 := (g).set 16 (cO 1 [.ref 4, .ref 17, .ref 26, .ref 32, ii ((t : Nat) : Int), .ref 33, ii dp, ii ca, ii ou, ii (wk - (3 + (vsz (e + 1 + 1) vz : Int))), ii 0, ii pl, nw, vx, vy, .null, ii lv, lf, rt])) dm_X1_gather_193 (g_put (fs' := [.ref 4, .ref 17, .ref 26, .ref 32, ii ((t : Nat) : Int), .ref 33, ii dp, ii ca, ii ou, ii (wk - (3 + (vsz (e + 1 + 1) vz : Int))), ii 0, ii pl, nw, vx, vy, .null, ii lv, lf, rt]) (hl_set (hl_lt g16)) rfl (by rw [List.set_set]) rfl (by simp) rfl (by decide) (fun z => by cases z) (by decide)) rfl rfl rfl ?_
                  refine me1 (pc' := 197) (L' := [(8, .ref qz), (7, ii 0), (0, .ref 16), (1, .ref p), (2, ii fr), (3, ii (n : Int)), (4, ii stp), (5, ii ((a : Nat) : Int)), (6, ii ((b : Nat) : Int))]) (S' := [.ref 16]) dm_X1_gather_196 rfl rfl rfl rfl ?_
                  refine me1 (pc' := 199) (L' := [(8, .ref qz), (7, ii 0), (0, .ref 16), (1, .ref p), (2, ii fr), (3, ii (n : Int)), (4, ii stp), (5, ii ((a : Nat) : Int)), (6, ii ((b : Nat) : Int))]) (S' := [.ref qz, .ref 16]) dm_X1_gather_197 rfl rfl rfl rfl ?_
                  refine x_cn (pc' := 202) (rest := []) dm_X1_gather_199 rfl (g_inv (As := [.ref qz]) (S := []) (hl_set (hl_lt g16)) rfl rfl rfl (by decide)) rfl rfl rfl (m_push (t := t) (by omega) (hl_ne (by omega) hpz) (by omega) (hl_set (hl_lt g16)) (hl_ne (by decide) g32) (by omega) rfl) ?_
                  rintro _ rfl
                  refine y_ret (r := none) dm_X1_gather_202 rfl rfl rfl ?_
                  refine ⟨rfl, ?_⟩
                  rw [show mGo (e + 2) wk (gaV n ch) = _ from mGo_v (D := e + 1 + 1) hgo (by omega) hW, List.set_comm _ _ (show (16 : Nat) ≠ 32 by decide), List.set_set]
                  exact mGat_v hl hA h16 (fun _ _ => rfl) hH0 h32 hres
              · refine me1 (pc' := 162) (L' := [(8, .ref qz), (7, ii 0), (0, .ref 16), (1, .ref p), (2, ii fr), (3, ii (n : Int)), (4, ii stp), (5, ii ((a : Nat) : Int)), (6, ii ((b : Nat) : Int))]) (S' := [.ref 16]) dm_X1_gather_161 rfl rfl rfl rfl ?_
                refine me0 (pc' := 164) (S' := [ii 8, .ref 16]) dm_X1_gather_162 rfl rfl rfl rfl ?_
                refine me1 (pc' := 165) (L' := [(8, .ref qz), (7, ii 0), (0, .ref 16), (1, .ref p), (2, ii fr), (3, ii (n : Int)), (4, ii stp), (5, ii ((a : Nat) : Int)), (6, ii ((b : Nat) : Int))]) (S' := [.ref p, ii 8, .ref 16]) dm_X1_gather_164 rfl rfl rfl rfl ?_
                refine x_cn (pc' := 168) (rest := []) dm_X1_gather_165 rfl (g_inv (As := [ii 8, .ref p]) (S := []) g16 rfl rfl rfl (by decide)) rfl rfl rfl (m_fail (c := 8) (by omega) g16 gp hp2 hca rfl) ?_
                rintro _ rfl
                refine me2 (pc' := 202) (S' := []) dm_X1_gather_168 rfl rfl rfl ?_
                refine y_ret (r := none) dm_X1_gather_202 rfl rfl rfl ?_
                refine ⟨rfl, ?_⟩
                rw [show mGo (e + 2) wk (gaV n ch) = _ from mGo_b (D := e + 1 + 1) hgo (by omega)]
                exact mGat_e hl h16 (fun _ _ _ => rfl) hH0 h32 hres
          · refine me1 (pc' := 108) (L' := [(7, ii 0), (0, .ref 16), (1, .ref p), (2, ii fr), (3, ii (n : Int)), (4, ii stp), (5, ii ((a : Nat) : Int)), (6, ii ((b : Nat) : Int))]) (S' := [.ref 16]) dm_X1_gather_107 rfl rfl rfl rfl ?_
            refine me0 (pc' := 110) (S' := [ii 8, .ref 16]) dm_X1_gather_108 rfl rfl rfl rfl ?_
            refine me1 (pc' := 111) (L' := [(7, ii 0), (0, .ref 16), (1, .ref p), (2, ii fr), (3, ii (n : Int)), (4, ii stp), (5, ii ((a : Nat) : Int)), (6, ii ((b : Nat) : Int))]) (S' := [.ref p, ii 8, .ref 16]) dm_X1_gather_110 rfl rfl rfl rfl ?_
            refine x_cn (pc' := 114) (rest := []) dm_X1_gather_111 rfl (g_inv (As := [ii 8, .ref p]) (S := []) h16 rfl rfl rfl (by decide)) rfl rfl rfl (m_fail (c := 8) (by omega) h16 hp hp2 hca rfl) ?_
            rintro _ rfl
            refine y_ret (r := none) dm_X1_gather_114 rfl rfl rfl ?_
            exfalso; omega
        · refine me1 (pc' := 74) (L' := [(0, .ref 16), (1, .ref p), (2, ii fr), (3, ii (n : Int)), (4, ii stp), (5, ii ((a : Nat) : Int)), (6, ii ((b : Nat) : Int)), (7, ii (k : Int))]) (S' := [ii ((a : Nat) : Int)]) dm_X1_gather_72 rfl rfl rfl rfl ?_
          refine me1 (pc' := 75) (L' := [(0, .ref 16), (1, .ref p), (2, ii fr), (3, ii (n : Int)), (4, ii stp), (5, ii ((a : Nat) : Int)), (6, ii ((b : Nat) : Int)), (7, ii (k : Int))]) (S' := [ii (n : Int), ii ((a : Nat) : Int)]) dm_X1_gather_74 rfl rfl rfl rfl ?_
          refine y_2eq (a := ((a : Nat) : Int)) (b := (n : Int)) (t := 84) (pc' := 78) dm_X1_gather_75 rfl rfl (by omega) (fun hb6 => ?_) (fun hb6 => ?_)
          · refine me0 (pc' := 85) (S' := [ii 1]) dm_X1_gather_84 rfl rfl rfl rfl ?_
            refine me2 (pc' := 89) (S' := [ii 1]) dm_X1_gather_85 rfl rfl rfl ?_
            refine me1 (pc' := 91) (L' := [(7, ii 1), (0, .ref 16), (1, .ref p), (2, ii fr), (3, ii (n : Int)), (4, ii stp), (5, ii ((a : Nat) : Int)), (6, ii ((b : Nat) : Int))]) (S' := []) dm_X1_gather_89 rfl rfl rfl rfl ?_
            refine me1 (pc' := 92) (L' := [(7, ii 1), (0, .ref 16), (1, .ref p), (2, ii fr), (3, ii (n : Int)), (4, ii stp), (5, ii ((a : Nat) : Int)), (6, ii ((b : Nat) : Int))]) (S' := [ii (n : Int)]) dm_X1_gather_91 rfl rfl rfl rfl ?_
            refine me1 (pc' := 94) (L' := [(7, ii 1), (0, .ref 16), (1, .ref p), (2, ii fr), (3, ii (n : Int)), (4, ii stp), (5, ii ((a : Nat) : Int)), (6, ii ((b : Nat) : Int))]) (S' := [ii 1, ii (n : Int)]) dm_X1_gather_92 rfl rfl rfl rfl ?_
            refine me_1f (pc' := 97) dm_X1_gather_94 rfl (by decide) rfl ?_
            refine me0 (pc' := 99) (S' := [ii 120, ii (n : Int)]) dm_X1_gather_97 rfl rfl rfl rfl ?_
            refine me2 (pc' := 104) (S' := [ii 120, ii (n : Int)]) dm_X1_gather_99 rfl rfl rfl ?_
            refine y_2le (a := (n : Int)) (b := 120) (t := 115) (pc' := 107) dm_X1_gather_104 rfl rfl (by omega) (fun hb7 => ?_) (fun hb7 => ?_)
            · refine me1 (pc' := 117) (L' := [(7, ii 1), (0, .ref 16), (1, .ref p), (2, ii fr), (3, ii (n : Int)), (4, ii stp), (5, ii ((a : Nat) : Int)), (6, ii ((b : Nat) : Int))]) (S' := [ii 1]) dm_X1_gather_115 rfl rfl rfl rfl ?_
              refine me_1f (pc' := 120) dm_X1_gather_117 rfl (by decide) rfl ?_
              refine me1 (pc' := 121) (L' := [(7, ii 1), (0, .ref 16), (1, .ref p), (2, ii fr), (3, ii (n : Int)), (4, ii stp), (5, ii ((a : Nat) : Int)), (6, ii ((b : Nat) : Int))]) (S' := [.ref 16]) dm_X1_gather_120 rfl rfl rfl rfl ?_
              refine me1 (pc' := 122) (L' := [(7, ii 1), (0, .ref 16), (1, .ref p), (2, ii fr), (3, ii (n : Int)), (4, ii stp), (5, ii ((a : Nat) : Int)), (6, ii ((b : Nat) : Int))]) (S' := [ii fr, .ref 16]) dm_X1_gather_121 rfl rfl rfl rfl ?_
              refine me1 (pc' := 123) (L' := [(7, ii 1), (0, .ref 16), (1, .ref p), (2, ii fr), (3, ii (n : Int)), (4, ii stp), (5, ii ((a : Nat) : Int)), (6, ii ((b : Nat) : Int))]) (S' := [ii (n : Int), ii fr, .ref 16]) dm_X1_gather_122 rfl rfl rfl rfl ?_
              refine me1 (pc' := 125) (L' := [(7, ii 1), (0, .ref 16), (1, .ref p), (2, ii fr), (3, ii (n : Int)), (4, ii stp), (5, ii ((a : Nat) : Int)), (6, ii ((b : Nat) : Int))]) (S' := [ii stp, ii (n : Int), ii fr, .ref 16]) dm_X1_gather_123 rfl rfl rfl rfl ?_
              refine x_cv (pc' := 128) (rest := []) dm_X1_gather_125 rfl (g_inv (As := [ii fr, ii (n : Int), ii stp]) (S := []) h16 rfl rfl rfl (by decide)) rfl rfl rfl (m_gathN (e := e + 1) (fr := fr) (stp := stp) (ix := ix) hx1 (by omega) hl hA h16 h32 hix hixb (fun k hk => by obtain ⟨q, q1, q2⟩ := hqq k hk; exact ⟨q, q1, cv_up q2⟩) hixt (by omega) (by omega) (by omega) (hfr0 (by omega)) (isNb_all (by omega))) ?_
              rintro x9 g hres
              have hgo : gaV n ch = .inr (vrow (vform n (fun k => vn (ch k) 0)) n (fun k => vn (ch k) 0)) := (gaV_n (by omega) (by omega) (by omega))
              generalize (vrow (vform n (fun k => vn (ch k) 0)) n (fun k => vn (ch k) 0)) = vz at hres hgo
              obtain ⟨qz, rfl⟩ := vres_ref hres
              obtain ⟨g16, g32, gp, gl1, gl2, gA, gv⟩ := vres_gt hres hl hA h16 h32 hp
              obtain ⟨hwz, ⟨hqz2, hqAz⟩, hszz, hlvz, rowz, frz, valsz, hpz, -, -, -, -⟩ := id gv
              have hqz127 := (gA qz hqAz).2
              refine me2 (pc' := 139) (S' := [.ref qz]) dm_X1_gather_128 rfl rfl rfl ?_
              refine me1 (pc' := 141) (L' := [(8, .ref qz), (7, ii 1), (0, .ref 16), (1, .ref p), (2, ii fr), (3, ii (n : Int)), (4, ii stp), (5, ii ((a : Nat) : Int)), (6, ii ((b : Nat) : Int))]) (S' := []) dm_X1_gather_139 rfl rfl rfl rfl ?_
              refine me1 (pc' := 143) (L' := [(8, .ref qz), (7, ii 1), (0, .ref 16), (1, .ref p), (2, ii fr), (3, ii (n : Int)), (4, ii stp), (5, ii ((a : Nat) : Int)), (6, ii ((b : Nat) : Int))]) (S' := [.ref qz]) dm_X1_gather_141 rfl rfl rfl rfl ?_
              refine me3 (pc' := 146) (S' := [ii (vsz (e + 1 + 1) vz : Int)]) dm_X1_gather_143 (g_get (v := ii (vsz (e + 1 + 1) vz : Int)) hpz rfl rfl (by omega)) rfl rfl rfl ?_
              refine me0 (pc' := 149) (S' := [ii 1000, ii (vsz (e + 1 + 1) vz : Int)]) dm_X1_gather_146 rfl rfl rfl rfl ?_
              refine y_2gt (a := (vsz (e + 1 + 1) vz : Int)) (b := 1000) (t := 161) (pc' := 152) dm_X1_gather_149 rfl rfl (by omega) (fun hb8 => ?_) (fun hb8 => ?_)
              · refine me1 (pc' := 162) (L' := [(8, .ref qz), (7, ii 1), (0, .ref 16), (1, .ref p), (2, ii fr), (3, ii (n : Int)), (4, ii stp), (5, ii ((a : Nat) : Int)), (6, ii ((b : Nat) : Int))]) (S' := [.ref 16]) dm_X1_gather_161 rfl rfl rfl rfl ?_
                refine me0 (pc' := 164) (S' := [ii 8, .ref 16]) dm_X1_gather_162 rfl rfl rfl rfl ?_
                refine me1 (pc' := 165) (L' := [(8, .ref qz), (7, ii 1), (0, .ref 16), (1, .ref p), (2, ii fr), (3, ii (n : Int)), (4, ii stp), (5, ii ((a : Nat) : Int)), (6, ii ((b : Nat) : Int))]) (S' := [.ref p, ii 8, .ref 16]) dm_X1_gather_164 rfl rfl rfl rfl ?_
                refine x_cn (pc' := 168) (rest := []) dm_X1_gather_165 rfl (g_inv (As := [ii 8, .ref p]) (S := []) g16 rfl rfl rfl (by decide)) rfl rfl rfl (m_fail (c := 8) (by omega) g16 gp hp2 hca rfl) ?_
                rintro _ rfl
                refine me2 (pc' := 202) (S' := []) dm_X1_gather_168 rfl rfl rfl ?_
                refine y_ret (r := none) dm_X1_gather_202 rfl rfl rfl ?_
                refine ⟨rfl, ?_⟩
                rw [show mGo (e + 2) wk (gaV n ch) = _ from mGo_b (D := e + 1 + 1) hgo (by omega)]
                exact mGat_e hl h16 (fun _ _ _ => rfl) hH0 h32 hres
              · refine me1 (pc' := 154) (L' := [(8, .ref qz), (7, ii 1), (0, .ref 16), (1, .ref p), (2, ii fr), (3, ii (n : Int)), (4, ii stp), (5, ii ((a : Nat) : Int)), (6, ii ((b : Nat) : Int))]) (S' := [.ref qz]) dm_X1_gather_152 rfl rfl rfl rfl ?_
                refine me3 (pc' := 157) (S' := [ii (vlv (e + 1 + 1) vz : Int)]) dm_X1_gather_154 (g_get (v := ii (vlv (e + 1 + 1) vz : Int)) hpz rfl rfl (by omega)) rfl rfl rfl ?_
                refine me0 (pc' := 158) (S' := [ii 5, ii (vlv (e + 1 + 1) vz : Int)]) dm_X1_gather_157 rfl rfl rfl rfl ?_
                refine y_2le (a := (vlv (e + 1 + 1) vz : Int)) (b := 5) (t := 171) (pc' := 161) dm_X1_gather_158 rfl rfl (by omega) (fun hb9 => ?_) (fun hb9 => ?_)
                · refine me1 (pc' := 172) (L' := [(8, .ref qz), (7, ii 1), (0, .ref 16), (1, .ref p), (2, ii fr), (3, ii (n : Int)), (4, ii stp), (5, ii ((a : Nat) : Int)), (6, ii ((b : Nat) : Int))]) (S' := [.ref 16]) dm_X1_gather_171 rfl rfl rfl rfl ?_
                  refine me0 (pc' := 173) (S' := [ii 3, .ref 16]) dm_X1_gather_172 rfl rfl rfl rfl ?_
                  refine me1 (pc' := 175) (L' := [(8, .ref qz), (7, ii 1), (0, .ref 16), (1, .ref p), (2, ii fr), (3, ii (n : Int)), (4, ii stp), (5, ii ((a : Nat) : Int)), (6, ii ((b : Nat) : Int))]) (S' := [.ref qz, ii 3, .ref 16]) dm_X1_gather_173 rfl rfl rfl rfl ?_
                  refine me3 (pc' := 178) (S' := [ii (vsz (e + 1 + 1) vz : Int), ii 3, .ref 16]) dm_X1_gather_175 (g_get (v := ii (vsz (e + 1 + 1) vz : Int)) hpz rfl rfl (by omega)) rfl rfl rfl ?_
                  refine y_iadd (a := 3) (b := (vsz (e + 1 + 1) vz : Int)) dm_X1_gather_178 (pc' := 179) rfl ?_
                  refine me1 (pc' := 180) (L' := [(8, .ref qz), (7, ii 1), (0, .ref 16), (1, .ref p), (2, ii fr), (3, ii (n : Int)), (4, ii stp), (5, ii ((a : Nat) : Int)), (6, ii ((b : Nat) : Int))]) (S' := [.ref p, ii (3 + (vsz (e + 1 + 1) vz : Int)), .ref 16]) dm_X1_gather_179 rfl rfl rfl rfl ?_
                  by_cases hW : wk < 3 + (vsz (e + 1 + 1) vz : Int)
                  · refine x_cv (pc' := 183) (rest := []) dm_X1_gather_180 rfl (g_inv (As := [ii (3 + (vsz (e + 1 + 1) vz : Int)), .ref p]) (S := []) g16 rfl rfl rfl (by decide)) rfl rfl rfl (m_takeF (n := 3 + (vsz (e + 1 + 1) vz : Int)) (by omega) g16 gp hp2 hca (by omega) hwk hW rfl) ?_
                    rintro _ _ ⟨rfl, rfl⟩
                    refine me_1t (pc' := 202) dm_X1_gather_183 rfl (by decide) ?_
                    refine y_ret (r := none) dm_X1_gather_202 rfl rfl rfl ?_
                    refine ⟨rfl, ?_⟩
                    rw [show mGo (e + 2) wk (gaV n ch) = _ from mGo_w (D := e + 1 + 1) hgo (by omega) hW]
                    exact mGat_e hl h16 (fun _ _ _ => rfl) hH0 h32 hres
                  · refine x_cv (pc' := 183) (rest := []) dm_X1_gather_180 rfl (g_inv (As := [ii (3 + (vsz (e + 1 + 1) vz : Int)), .ref p]) (S := []) g16 rfl rfl rfl (by decide)) rfl rfl rfl (m_takeT (n := 3 + (vsz (e + 1 + 1) vz : Int)) (by omega) g16 gp hp2 hca (by omega) hwk (by omega) rfl) ?_
                    rintro _ _ ⟨rfl, rfl⟩
                    refine me_1f (pc' := 186) dm_X1_gather_183 rfl (by decide) rfl ?_
                    refine me1 (pc' := 187) (L' := [(8, .ref qz), (7, ii 1), (0, .ref 16), (1, .ref p), (2, ii fr), (3, ii (n : Int)), (4, ii stp), (5, ii ((a : Nat) : Int)), (6, ii ((b : Nat) : Int))]) (S' := [.ref 16]) dm_X1_gather_186 rfl rfl rfl rfl ?_
                    refine me0 (pc' := 188) (S' := [.ref 16, .ref 16]) dm_X1_gather_187 rfl rfl rfl rfl ?_
                    refine me3 (pc' := 191) (S' := [ii ((t + n : Nat) : Int), .ref 16]) dm_X1_gather_188 (g_get (v := ii ((t + n : Nat) : Int)) (hl_set (hl_lt g16)) rfl rfl (by decide)) rfl rfl rfl ?_
                    refine me1 (pc' := 192) (L' := [(8, .ref qz), (7, ii 1), (0, .ref 16), (1, .ref p), (2, ii fr), (3, ii (n : Int)), (4, ii stp), (5, ii ((a : Nat) : Int)), (6, ii ((b : Nat) : Int))]) (S' := [ii (n : Int), ii ((t + n : Nat) : Int), .ref 16]) dm_X1_gather_191 rfl rfl rfl rfl ?_
                    refine y_isub (a := ((t + n : Nat) : Int)) (b := (n : Int)) dm_X1_gather_192 (pc' := 193) rfl ?_
                    refine pg_st (S' := [ii ((t : Nat) : Int), .ref 16]) (congrArg (fun z => ii z :: [.ref 16]) (by omega)) ?_
                    refine me3 (pc' := 196) (S' := []) (h1 := (g).set 16 (cO 1 [.ref 4, .ref 17, .ref 26, .ref 32, ii ((t : Nat) : Int), .ref 33, ii dp, ii ca, ii ou, ii (wk - (3 + (vsz (e + 1 + 1) vz : Int))), ii 0, ii pl, nw, vx, vy, .null, ii lv, lf, rt])) dm_X1_gather_193 (g_put (fs' := [.ref 4, .ref 17, .ref 26, .ref 32, ii ((t : Nat) : Int), .ref 33, ii dp, ii ca, ii ou, ii (wk - (3 + (vsz (e + 1 + 1) vz : Int))), ii 0, ii pl, nw, vx, vy, .null, ii lv, lf, rt]) (hl_set (hl_lt g16)) rfl (by rw [List.set_set]) rfl (by simp) rfl (by decide) (fun z => by cases z) (by decide)) rfl rfl rfl ?_
                    refine me1 (pc' := 197) (L' := [(8, .ref qz), (7, ii 1), (0, .ref 16), (1, .ref p), (2, ii fr), (3, ii (n : Int)), (4, ii stp), (5, ii ((a : Nat) : Int)), (6, ii ((b : Nat) : Int))]) (S' := [.ref 16]) dm_X1_gather_196 rfl rfl rfl rfl ?_
                    refine me1 (pc' := 199) (L' := [(8, .ref qz), (7, ii 1), (0, .ref 16), (1, .ref p), (2, ii fr), (3, ii (n : Int)), (4, ii stp), (5, ii ((a : Nat) : Int)), (6, ii ((b : Nat) : Int))]) (S' := [.ref qz, .ref 16]) dm_X1_gather_197 rfl rfl rfl rfl ?_
                    refine x_cn (pc' := 202) (rest := []) dm_X1_gather_199 rfl (g_inv (As := [.ref qz]) (S := []) (hl_set (hl_lt g16)) rfl rfl rfl (by decide)) rfl rfl rfl (m_push (t := t) (by omega) (hl_ne (by omega) hpz) (by omega) (hl_set (hl_lt g16)) (hl_ne (by decide) g32) (by omega) rfl) ?_
                    rintro _ rfl
                    refine y_ret (r := none) dm_X1_gather_202 rfl rfl rfl ?_
                    refine ⟨rfl, ?_⟩
                    rw [show mGo (e + 2) wk (gaV n ch) = _ from mGo_v (D := e + 1 + 1) hgo (by omega) hW, List.set_comm _ _ (show (16 : Nat) ≠ 32 by decide), List.set_set]
                    exact mGat_v hl hA h16 (fun _ _ => rfl) hH0 h32 hres
                · refine me1 (pc' := 162) (L' := [(8, .ref qz), (7, ii 1), (0, .ref 16), (1, .ref p), (2, ii fr), (3, ii (n : Int)), (4, ii stp), (5, ii ((a : Nat) : Int)), (6, ii ((b : Nat) : Int))]) (S' := [.ref 16]) dm_X1_gather_161 rfl rfl rfl rfl ?_
                  refine me0 (pc' := 164) (S' := [ii 8, .ref 16]) dm_X1_gather_162 rfl rfl rfl rfl ?_
                  refine me1 (pc' := 165) (L' := [(8, .ref qz), (7, ii 1), (0, .ref 16), (1, .ref p), (2, ii fr), (3, ii (n : Int)), (4, ii stp), (5, ii ((a : Nat) : Int)), (6, ii ((b : Nat) : Int))]) (S' := [.ref p, ii 8, .ref 16]) dm_X1_gather_164 rfl rfl rfl rfl ?_
                  refine x_cn (pc' := 168) (rest := []) dm_X1_gather_165 rfl (g_inv (As := [ii 8, .ref p]) (S := []) g16 rfl rfl rfl (by decide)) rfl rfl rfl (m_fail (c := 8) (by omega) g16 gp hp2 hca rfl) ?_
                  rintro _ rfl
                  refine me2 (pc' := 202) (S' := []) dm_X1_gather_168 rfl rfl rfl ?_
                  refine y_ret (r := none) dm_X1_gather_202 rfl rfl rfl ?_
                  refine ⟨rfl, ?_⟩
                  rw [show mGo (e + 2) wk (gaV n ch) = _ from mGo_b (D := e + 1 + 1) hgo (by omega)]
                  exact mGat_e hl h16 (fun _ _ _ => rfl) hH0 h32 hres
            · refine me1 (pc' := 108) (L' := [(7, ii 1), (0, .ref 16), (1, .ref p), (2, ii fr), (3, ii (n : Int)), (4, ii stp), (5, ii ((a : Nat) : Int)), (6, ii ((b : Nat) : Int))]) (S' := [.ref 16]) dm_X1_gather_107 rfl rfl rfl rfl ?_
              refine me0 (pc' := 110) (S' := [ii 8, .ref 16]) dm_X1_gather_108 rfl rfl rfl rfl ?_
              refine me1 (pc' := 111) (L' := [(7, ii 1), (0, .ref 16), (1, .ref p), (2, ii fr), (3, ii (n : Int)), (4, ii stp), (5, ii ((a : Nat) : Int)), (6, ii ((b : Nat) : Int))]) (S' := [.ref p, ii 8, .ref 16]) dm_X1_gather_110 rfl rfl rfl rfl ?_
              refine x_cn (pc' := 114) (rest := []) dm_X1_gather_111 rfl (g_inv (As := [ii 8, .ref p]) (S := []) h16 rfl rfl rfl (by decide)) rfl rfl rfl (m_fail (c := 8) (by omega) h16 hp hp2 hca rfl) ?_
              rintro _ rfl
              refine y_ret (r := none) dm_X1_gather_114 rfl rfl rfl ?_
              refine ⟨rfl, ?_⟩
              rw [mGo_f (show gaV n ch = .inl 8 from (gaV_n8 (by omega) (by omega) (by omega)))]
              exact mGat_0 hl h16 (fun _ _ _ => rfl) hH0 h32
          · refine me1 (pc' := 80) (L' := [(0, .ref 16), (1, .ref p), (2, ii fr), (3, ii (n : Int)), (4, ii stp), (5, ii ((a : Nat) : Int)), (6, ii ((b : Nat) : Int)), (7, ii (k : Int))]) (S' := [ii ((b : Nat) : Int)]) dm_X1_gather_78 rfl rfl rfl rfl ?_
            refine me1 (pc' := 81) (L' := [(0, .ref 16), (1, .ref p), (2, ii fr), (3, ii (n : Int)), (4, ii stp), (5, ii ((a : Nat) : Int)), (6, ii ((b : Nat) : Int)), (7, ii (k : Int))]) (S' := [ii (n : Int), ii ((b : Nat) : Int)]) dm_X1_gather_80 rfl rfl rfl rfl ?_
            refine y_2ne (a := ((b : Nat) : Int)) (b := (n : Int)) (t := 88) (pc' := 84) dm_X1_gather_81 rfl rfl (by omega) (fun hb10 => ?_) (fun hb10 => ?_)
            · refine me0 (pc' := 89) (S' := [ii 0]) dm_X1_gather_88 rfl rfl rfl rfl ?_
              refine me1 (pc' := 91) (L' := [(7, ii 0), (0, .ref 16), (1, .ref p), (2, ii fr), (3, ii (n : Int)), (4, ii stp), (5, ii ((a : Nat) : Int)), (6, ii ((b : Nat) : Int))]) (S' := []) dm_X1_gather_89 rfl rfl rfl rfl ?_
              refine me1 (pc' := 92) (L' := [(7, ii 0), (0, .ref 16), (1, .ref p), (2, ii fr), (3, ii (n : Int)), (4, ii stp), (5, ii ((a : Nat) : Int)), (6, ii ((b : Nat) : Int))]) (S' := [ii (n : Int)]) dm_X1_gather_91 rfl rfl rfl rfl ?_
              refine me1 (pc' := 94) (L' := [(7, ii 0), (0, .ref 16), (1, .ref p), (2, ii fr), (3, ii (n : Int)), (4, ii stp), (5, ii ((a : Nat) : Int)), (6, ii ((b : Nat) : Int))]) (S' := [ii 0, ii (n : Int)]) dm_X1_gather_92 rfl rfl rfl rfl ?_
              refine me_1t (pc' := 102) dm_X1_gather_94 rfl (by decide) ?_
              refine me0 (pc' := 104) (S' := [ii 24, ii (n : Int)]) dm_X1_gather_102 rfl rfl rfl rfl ?_
              refine y_2le (a := (n : Int)) (b := 24) (t := 115) (pc' := 107) dm_X1_gather_104 rfl rfl (by omega) (fun hb11 => ?_) (fun hb11 => ?_)
              · refine me1 (pc' := 117) (L' := [(7, ii 0), (0, .ref 16), (1, .ref p), (2, ii fr), (3, ii (n : Int)), (4, ii stp), (5, ii ((a : Nat) : Int)), (6, ii ((b : Nat) : Int))]) (S' := [ii 0]) dm_X1_gather_115 rfl rfl rfl rfl ?_
                refine me_1t (pc' := 131) dm_X1_gather_117 rfl (by decide) ?_
                refine me1 (pc' := 132) (L' := [(7, ii 0), (0, .ref 16), (1, .ref p), (2, ii fr), (3, ii (n : Int)), (4, ii stp), (5, ii ((a : Nat) : Int)), (6, ii ((b : Nat) : Int))]) (S' := [.ref 16]) dm_X1_gather_131 rfl rfl rfl rfl ?_
                refine me1 (pc' := 133) (L' := [(7, ii 0), (0, .ref 16), (1, .ref p), (2, ii fr), (3, ii (n : Int)), (4, ii stp), (5, ii ((a : Nat) : Int)), (6, ii ((b : Nat) : Int))]) (S' := [ii fr, .ref 16]) dm_X1_gather_132 rfl rfl rfl rfl ?_
                refine me1 (pc' := 134) (L' := [(7, ii 0), (0, .ref 16), (1, .ref p), (2, ii fr), (3, ii (n : Int)), (4, ii stp), (5, ii ((a : Nat) : Int)), (6, ii ((b : Nat) : Int))]) (S' := [ii (n : Int), ii fr, .ref 16]) dm_X1_gather_133 rfl rfl rfl rfl ?_
                refine me1 (pc' := 136) (L' := [(7, ii 0), (0, .ref 16), (1, .ref p), (2, ii fr), (3, ii (n : Int)), (4, ii stp), (5, ii ((a : Nat) : Int)), (6, ii ((b : Nat) : Int))]) (S' := [ii stp, ii (n : Int), ii fr, .ref 16]) dm_X1_gather_134 rfl rfl rfl rfl ?_
                refine x_cv (pc' := 139) (rest := []) dm_X1_gather_136 rfl (g_inv (As := [ii fr, ii (n : Int), ii stp]) (S := []) h16 rfl rfl rfl (by decide)) rfl rfl rfl (m_gathV (e := e) (fr := fr) (stp := stp) (ix := ix) hx1 (by omega) hl hA h16 h32 hix hixb hqq hixt (by omega) (by omega) (by omega) hS1) ?_
                rintro x9 g hres
                have hgo : gaV n ch = .inr (vnest n ch) := (gaV_v (Or.inr (by omega)) (Or.inr (by omega)) (by omega))
                generalize (vnest n ch) = vz at hres hgo
                obtain ⟨qz, rfl⟩ := vres_ref hres
                obtain ⟨g16, g32, gp, gl1, gl2, gA, gv⟩ := vres_gt hres hl hA h16 h32 hp
                obtain ⟨hwz, ⟨hqz2, hqAz⟩, hszz, hlvz, rowz, frz, valsz, hpz, -, -, -, -⟩ := id gv
                have hqz127 := (gA qz hqAz).2
                refine me1 (pc' := 141) (L' := [(8, .ref qz), (7, ii 0), (0, .ref 16), (1, .ref p), (2, ii fr), (3, ii (n : Int)), (4, ii stp), (5, ii ((a : Nat) : Int)), (6, ii ((b : Nat) : Int))]) (S' := []) dm_X1_gather_139 rfl rfl rfl rfl ?_
                refine me1 (pc' := 143) (L' := [(8, .ref qz), (7, ii 0), (0, .ref 16), (1, .ref p), (2, ii fr), (3, ii (n : Int)), (4, ii stp), (5, ii ((a : Nat) : Int)), (6, ii ((b : Nat) : Int))]) (S' := [.ref qz]) dm_X1_gather_141 rfl rfl rfl rfl ?_
                refine me3 (pc' := 146) (S' := [ii (vsz (e + 1 + 1) vz : Int)]) dm_X1_gather_143 (g_get (v := ii (vsz (e + 1 + 1) vz : Int)) hpz rfl rfl (by omega)) rfl rfl rfl ?_
                refine me0 (pc' := 149) (S' := [ii 1000, ii (vsz (e + 1 + 1) vz : Int)]) dm_X1_gather_146 rfl rfl rfl rfl ?_
                refine y_2gt (a := (vsz (e + 1 + 1) vz : Int)) (b := 1000) (t := 161) (pc' := 152) dm_X1_gather_149 rfl rfl (by omega) (fun hb12 => ?_) (fun hb12 => ?_)
                · refine me1 (pc' := 162) (L' := [(8, .ref qz), (7, ii 0), (0, .ref 16), (1, .ref p), (2, ii fr), (3, ii (n : Int)), (4, ii stp), (5, ii ((a : Nat) : Int)), (6, ii ((b : Nat) : Int))]) (S' := [.ref 16]) dm_X1_gather_161 rfl rfl rfl rfl ?_
                  refine me0 (pc' := 164) (S' := [ii 8, .ref 16]) dm_X1_gather_162 rfl rfl rfl rfl ?_
                  refine me1 (pc' := 165) (L' := [(8, .ref qz), (7, ii 0), (0, .ref 16), (1, .ref p), (2, ii fr), (3, ii (n : Int)), (4, ii stp), (5, ii ((a : Nat) : Int)), (6, ii ((b : Nat) : Int))]) (S' := [.ref p, ii 8, .ref 16]) dm_X1_gather_164 rfl rfl rfl rfl ?_
                  refine x_cn (pc' := 168) (rest := []) dm_X1_gather_165 rfl (g_inv (As := [ii 8, .ref p]) (S := []) g16 rfl rfl rfl (by decide)) rfl rfl rfl (m_fail (c := 8) (by omega) g16 gp hp2 hca rfl) ?_
                  rintro _ rfl
                  refine me2 (pc' := 202) (S' := []) dm_X1_gather_168 rfl rfl rfl ?_
                  refine y_ret (r := none) dm_X1_gather_202 rfl rfl rfl ?_
                  refine ⟨rfl, ?_⟩
                  rw [show mGo (e + 2) wk (gaV n ch) = _ from mGo_b (D := e + 1 + 1) hgo (by omega)]
                  exact mGat_e hl h16 (fun _ _ _ => rfl) hH0 h32 hres
                · refine me1 (pc' := 154) (L' := [(8, .ref qz), (7, ii 0), (0, .ref 16), (1, .ref p), (2, ii fr), (3, ii (n : Int)), (4, ii stp), (5, ii ((a : Nat) : Int)), (6, ii ((b : Nat) : Int))]) (S' := [.ref qz]) dm_X1_gather_152 rfl rfl rfl rfl ?_
                  refine me3 (pc' := 157) (S' := [ii (vlv (e + 1 + 1) vz : Int)]) dm_X1_gather_154 (g_get (v := ii (vlv (e + 1 + 1) vz : Int)) hpz rfl rfl (by omega)) rfl rfl rfl ?_
                  refine me0 (pc' := 158) (S' := [ii 5, ii (vlv (e + 1 + 1) vz : Int)]) dm_X1_gather_157 rfl rfl rfl rfl ?_
                  refine y_2le (a := (vlv (e + 1 + 1) vz : Int)) (b := 5) (t := 171) (pc' := 161) dm_X1_gather_158 rfl rfl (by omega) (fun hb13 => ?_) (fun hb13 => ?_)
                  · refine me1 (pc' := 172) (L' := [(8, .ref qz), (7, ii 0), (0, .ref 16), (1, .ref p), (2, ii fr), (3, ii (n : Int)), (4, ii stp), (5, ii ((a : Nat) : Int)), (6, ii ((b : Nat) : Int))]) (S' := [.ref 16]) dm_X1_gather_171 rfl rfl rfl rfl ?_
                    refine me0 (pc' := 173) (S' := [ii 3, .ref 16]) dm_X1_gather_172 rfl rfl rfl rfl ?_
                    refine me1 (pc' := 175) (L' := [(8, .ref qz), (7, ii 0), (0, .ref 16), (1, .ref p), (2, ii fr), (3, ii (n : Int)), (4, ii stp), (5, ii ((a : Nat) : Int)), (6, ii ((b : Nat) : Int))]) (S' := [.ref qz, ii 3, .ref 16]) dm_X1_gather_173 rfl rfl rfl rfl ?_
                    refine me3 (pc' := 178) (S' := [ii (vsz (e + 1 + 1) vz : Int), ii 3, .ref 16]) dm_X1_gather_175 (g_get (v := ii (vsz (e + 1 + 1) vz : Int)) hpz rfl rfl (by omega)) rfl rfl rfl ?_
                    refine y_iadd (a := 3) (b := (vsz (e + 1 + 1) vz : Int)) dm_X1_gather_178 (pc' := 179) rfl ?_
                    refine me1 (pc' := 180) (L' := [(8, .ref qz), (7, ii 0), (0, .ref 16), (1, .ref p), (2, ii fr), (3, ii (n : Int)), (4, ii stp), (5, ii ((a : Nat) : Int)), (6, ii ((b : Nat) : Int))]) (S' := [.ref p, ii (3 + (vsz (e + 1 + 1) vz : Int)), .ref 16]) dm_X1_gather_179 rfl rfl rfl rfl ?_
                    by_cases hW : wk < 3 + (vsz (e + 1 + 1) vz : Int)
                    · refine x_cv (pc' := 183) (rest := []) dm_X1_gather_180 rfl (g_inv (As := [ii (3 + (vsz (e + 1 + 1) vz : Int)), .ref p]) (S := []) g16 rfl rfl rfl (by decide)) rfl rfl rfl (m_takeF (n := 3 + (vsz (e + 1 + 1) vz : Int)) (by omega) g16 gp hp2 hca (by omega) hwk hW rfl) ?_
                      rintro _ _ ⟨rfl, rfl⟩
                      refine me_1t (pc' := 202) dm_X1_gather_183 rfl (by decide) ?_
                      refine y_ret (r := none) dm_X1_gather_202 rfl rfl rfl ?_
                      refine ⟨rfl, ?_⟩
                      rw [show mGo (e + 2) wk (gaV n ch) = _ from mGo_w (D := e + 1 + 1) hgo (by omega) hW]
                      exact mGat_e hl h16 (fun _ _ _ => rfl) hH0 h32 hres
                    · refine x_cv (pc' := 183) (rest := []) dm_X1_gather_180 rfl (g_inv (As := [ii (3 + (vsz (e + 1 + 1) vz : Int)), .ref p]) (S := []) g16 rfl rfl rfl (by decide)) rfl rfl rfl (m_takeT (n := 3 + (vsz (e + 1 + 1) vz : Int)) (by omega) g16 gp hp2 hca (by omega) hwk (by omega) rfl) ?_
                      rintro _ _ ⟨rfl, rfl⟩
                      refine me_1f (pc' := 186) dm_X1_gather_183 rfl (by decide) rfl ?_
                      refine me1 (pc' := 187) (L' := [(8, .ref qz), (7, ii 0), (0, .ref 16), (1, .ref p), (2, ii fr), (3, ii (n : Int)), (4, ii stp), (5, ii ((a : Nat) : Int)), (6, ii ((b : Nat) : Int))]) (S' := [.ref 16]) dm_X1_gather_186 rfl rfl rfl rfl ?_
                      refine me0 (pc' := 188) (S' := [.ref 16, .ref 16]) dm_X1_gather_187 rfl rfl rfl rfl ?_
                      refine me3 (pc' := 191) (S' := [ii ((t + n : Nat) : Int), .ref 16]) dm_X1_gather_188 (g_get (v := ii ((t + n : Nat) : Int)) (hl_set (hl_lt g16)) rfl rfl (by decide)) rfl rfl rfl ?_
                      refine me1 (pc' := 192) (L' := [(8, .ref qz), (7, ii 0), (0, .ref 16), (1, .ref p), (2, ii fr), (3, ii (n : Int)), (4, ii stp), (5, ii ((a : Nat) : Int)), (6, ii ((b : Nat) : Int))]) (S' := [ii (n : Int), ii ((t + n : Nat) : Int), .ref 16]) dm_X1_gather_191 rfl rfl rfl rfl ?_
                      refine y_isub (a := ((t + n : Nat) : Int)) (b := (n : Int)) dm_X1_gather_192 (pc' := 193) rfl ?_
                      refine pg_st (S' := [ii ((t : Nat) : Int), .ref 16]) (congrArg (fun z => ii z :: [.ref 16]) (by omega)) ?_
                      refine me3 (pc' := 196) (S' := []) (h1 := (g).set 16 (cO 1 [.ref 4, .ref 17, .ref 26, .ref 32, ii ((t : Nat) : Int), .ref 33, ii dp, ii ca, ii ou, ii (wk - (3 + (vsz (e + 1 + 1) vz : Int))), ii 0, ii pl, nw, vx, vy, .null, ii lv, lf, rt])) dm_X1_gather_193 (g_put (fs' := [.ref 4, .ref 17, .ref 26, .ref 32, ii ((t : Nat) : Int), .ref 33, ii dp, ii ca, ii ou, ii (wk - (3 + (vsz (e + 1 + 1) vz : Int))), ii 0, ii pl, nw, vx, vy, .null, ii lv, lf, rt]) (hl_set (hl_lt g16)) rfl (by rw [List.set_set]) rfl (by simp) rfl (by decide) (fun z => by cases z) (by decide)) rfl rfl rfl ?_
                      refine me1 (pc' := 197) (L' := [(8, .ref qz), (7, ii 0), (0, .ref 16), (1, .ref p), (2, ii fr), (3, ii (n : Int)), (4, ii stp), (5, ii ((a : Nat) : Int)), (6, ii ((b : Nat) : Int))]) (S' := [.ref 16]) dm_X1_gather_196 rfl rfl rfl rfl ?_
                      refine me1 (pc' := 199) (L' := [(8, .ref qz), (7, ii 0), (0, .ref 16), (1, .ref p), (2, ii fr), (3, ii (n : Int)), (4, ii stp), (5, ii ((a : Nat) : Int)), (6, ii ((b : Nat) : Int))]) (S' := [.ref qz, .ref 16]) dm_X1_gather_197 rfl rfl rfl rfl ?_
                      refine x_cn (pc' := 202) (rest := []) dm_X1_gather_199 rfl (g_inv (As := [.ref qz]) (S := []) (hl_set (hl_lt g16)) rfl rfl rfl (by decide)) rfl rfl rfl (m_push (t := t) (by omega) (hl_ne (by omega) hpz) (by omega) (hl_set (hl_lt g16)) (hl_ne (by decide) g32) (by omega) rfl) ?_
                      rintro _ rfl
                      refine y_ret (r := none) dm_X1_gather_202 rfl rfl rfl ?_
                      refine ⟨rfl, ?_⟩
                      rw [show mGo (e + 2) wk (gaV n ch) = _ from mGo_v (D := e + 1 + 1) hgo (by omega) hW, List.set_comm _ _ (show (16 : Nat) ≠ 32 by decide), List.set_set]
                      exact mGat_v hl hA h16 (fun _ _ => rfl) hH0 h32 hres
                  · refine me1 (pc' := 162) (L' := [(8, .ref qz), (7, ii 0), (0, .ref 16), (1, .ref p), (2, ii fr), (3, ii (n : Int)), (4, ii stp), (5, ii ((a : Nat) : Int)), (6, ii ((b : Nat) : Int))]) (S' := [.ref 16]) dm_X1_gather_161 rfl rfl rfl rfl ?_
                    refine me0 (pc' := 164) (S' := [ii 8, .ref 16]) dm_X1_gather_162 rfl rfl rfl rfl ?_
                    refine me1 (pc' := 165) (L' := [(8, .ref qz), (7, ii 0), (0, .ref 16), (1, .ref p), (2, ii fr), (3, ii (n : Int)), (4, ii stp), (5, ii ((a : Nat) : Int)), (6, ii ((b : Nat) : Int))]) (S' := [.ref p, ii 8, .ref 16]) dm_X1_gather_164 rfl rfl rfl rfl ?_
                    refine x_cn (pc' := 168) (rest := []) dm_X1_gather_165 rfl (g_inv (As := [ii 8, .ref p]) (S := []) g16 rfl rfl rfl (by decide)) rfl rfl rfl (m_fail (c := 8) (by omega) g16 gp hp2 hca rfl) ?_
                    rintro _ rfl
                    refine me2 (pc' := 202) (S' := []) dm_X1_gather_168 rfl rfl rfl ?_
                    refine y_ret (r := none) dm_X1_gather_202 rfl rfl rfl ?_
                    refine ⟨rfl, ?_⟩
                    rw [show mGo (e + 2) wk (gaV n ch) = _ from mGo_b (D := e + 1 + 1) hgo (by omega)]
                    exact mGat_e hl h16 (fun _ _ _ => rfl) hH0 h32 hres
              · refine me1 (pc' := 108) (L' := [(7, ii 0), (0, .ref 16), (1, .ref p), (2, ii fr), (3, ii (n : Int)), (4, ii stp), (5, ii ((a : Nat) : Int)), (6, ii ((b : Nat) : Int))]) (S' := [.ref 16]) dm_X1_gather_107 rfl rfl rfl rfl ?_
                refine me0 (pc' := 110) (S' := [ii 8, .ref 16]) dm_X1_gather_108 rfl rfl rfl rfl ?_
                refine me1 (pc' := 111) (L' := [(7, ii 0), (0, .ref 16), (1, .ref p), (2, ii fr), (3, ii (n : Int)), (4, ii stp), (5, ii ((a : Nat) : Int)), (6, ii ((b : Nat) : Int))]) (S' := [.ref p, ii 8, .ref 16]) dm_X1_gather_110 rfl rfl rfl rfl ?_
                refine x_cn (pc' := 114) (rest := []) dm_X1_gather_111 rfl (g_inv (As := [ii 8, .ref p]) (S := []) h16 rfl rfl rfl (by decide)) rfl rfl rfl (m_fail (c := 8) (by omega) h16 hp hp2 hca rfl) ?_
                rintro _ rfl
                refine y_ret (r := none) dm_X1_gather_114 rfl rfl rfl ?_
                refine ⟨rfl, ?_⟩
                rw [mGo_f (show gaV n ch = .inl 8 from (gaV_v8 (by omega) (by omega) (by omega)))]
                exact mGat_0 hl h16 (fun _ _ _ => rfl) hH0 h32
            · refine me0 (pc' := 85) (S' := [ii 1]) dm_X1_gather_84 rfl rfl rfl rfl ?_
              refine me2 (pc' := 89) (S' := [ii 1]) dm_X1_gather_85 rfl rfl rfl ?_
              refine me1 (pc' := 91) (L' := [(7, ii 1), (0, .ref 16), (1, .ref p), (2, ii fr), (3, ii (n : Int)), (4, ii stp), (5, ii ((a : Nat) : Int)), (6, ii ((b : Nat) : Int))]) (S' := []) dm_X1_gather_89 rfl rfl rfl rfl ?_
              refine me1 (pc' := 92) (L' := [(7, ii 1), (0, .ref 16), (1, .ref p), (2, ii fr), (3, ii (n : Int)), (4, ii stp), (5, ii ((a : Nat) : Int)), (6, ii ((b : Nat) : Int))]) (S' := [ii (n : Int)]) dm_X1_gather_91 rfl rfl rfl rfl ?_
              refine me1 (pc' := 94) (L' := [(7, ii 1), (0, .ref 16), (1, .ref p), (2, ii fr), (3, ii (n : Int)), (4, ii stp), (5, ii ((a : Nat) : Int)), (6, ii ((b : Nat) : Int))]) (S' := [ii 1, ii (n : Int)]) dm_X1_gather_92 rfl rfl rfl rfl ?_
              refine me_1f (pc' := 97) dm_X1_gather_94 rfl (by decide) rfl ?_
              refine me0 (pc' := 99) (S' := [ii 120, ii (n : Int)]) dm_X1_gather_97 rfl rfl rfl rfl ?_
              refine me2 (pc' := 104) (S' := [ii 120, ii (n : Int)]) dm_X1_gather_99 rfl rfl rfl ?_
              refine y_2le (a := (n : Int)) (b := 120) (t := 115) (pc' := 107) dm_X1_gather_104 rfl rfl (by omega) (fun hb14 => ?_) (fun hb14 => ?_)
              · refine me1 (pc' := 117) (L' := [(7, ii 1), (0, .ref 16), (1, .ref p), (2, ii fr), (3, ii (n : Int)), (4, ii stp), (5, ii ((a : Nat) : Int)), (6, ii ((b : Nat) : Int))]) (S' := [ii 1]) dm_X1_gather_115 rfl rfl rfl rfl ?_
                refine me_1f (pc' := 120) dm_X1_gather_117 rfl (by decide) rfl ?_
                refine me1 (pc' := 121) (L' := [(7, ii 1), (0, .ref 16), (1, .ref p), (2, ii fr), (3, ii (n : Int)), (4, ii stp), (5, ii ((a : Nat) : Int)), (6, ii ((b : Nat) : Int))]) (S' := [.ref 16]) dm_X1_gather_120 rfl rfl rfl rfl ?_
                refine me1 (pc' := 122) (L' := [(7, ii 1), (0, .ref 16), (1, .ref p), (2, ii fr), (3, ii (n : Int)), (4, ii stp), (5, ii ((a : Nat) : Int)), (6, ii ((b : Nat) : Int))]) (S' := [ii fr, .ref 16]) dm_X1_gather_121 rfl rfl rfl rfl ?_
                refine me1 (pc' := 123) (L' := [(7, ii 1), (0, .ref 16), (1, .ref p), (2, ii fr), (3, ii (n : Int)), (4, ii stp), (5, ii ((a : Nat) : Int)), (6, ii ((b : Nat) : Int))]) (S' := [ii (n : Int), ii fr, .ref 16]) dm_X1_gather_122 rfl rfl rfl rfl ?_
                refine me1 (pc' := 125) (L' := [(7, ii 1), (0, .ref 16), (1, .ref p), (2, ii fr), (3, ii (n : Int)), (4, ii stp), (5, ii ((a : Nat) : Int)), (6, ii ((b : Nat) : Int))]) (S' := [ii stp, ii (n : Int), ii fr, .ref 16]) dm_X1_gather_123 rfl rfl rfl rfl ?_
                refine x_cv (pc' := 128) (rest := []) dm_X1_gather_125 rfl (g_inv (As := [ii fr, ii (n : Int), ii stp]) (S := []) h16 rfl rfl rfl (by decide)) rfl rfl rfl (m_gathS (e := e + 1) (fr := fr) (stp := stp) (ix := ix) hx1 (by omega) hl hA h16 h32 hix hixb (fun k hk => by obtain ⟨q, q1, q2⟩ := hqq k hk; exact ⟨q, q1, cv_up q2⟩) hixt (by omega) (by omega) (by omega) (hfr0 (by omega)) (isSg_all (by omega))) ?_
                rintro x9 g hres
                have hgo : gaV n ch = .inr (vrow 3 n (fun k => vn (ch k) 0)) := (gaV_s (by omega) (by omega) (by omega) (by omega))
                generalize (vrow 3 n (fun k => vn (ch k) 0)) = vz at hres hgo
                obtain ⟨qz, rfl⟩ := vres_ref hres
                obtain ⟨g16, g32, gp, gl1, gl2, gA, gv⟩ := vres_gt hres hl hA h16 h32 hp
                obtain ⟨hwz, ⟨hqz2, hqAz⟩, hszz, hlvz, rowz, frz, valsz, hpz, -, -, -, -⟩ := id gv
                have hqz127 := (gA qz hqAz).2
                refine me2 (pc' := 139) (S' := [.ref qz]) dm_X1_gather_128 rfl rfl rfl ?_
                refine me1 (pc' := 141) (L' := [(8, .ref qz), (7, ii 1), (0, .ref 16), (1, .ref p), (2, ii fr), (3, ii (n : Int)), (4, ii stp), (5, ii ((a : Nat) : Int)), (6, ii ((b : Nat) : Int))]) (S' := []) dm_X1_gather_139 rfl rfl rfl rfl ?_
                refine me1 (pc' := 143) (L' := [(8, .ref qz), (7, ii 1), (0, .ref 16), (1, .ref p), (2, ii fr), (3, ii (n : Int)), (4, ii stp), (5, ii ((a : Nat) : Int)), (6, ii ((b : Nat) : Int))]) (S' := [.ref qz]) dm_X1_gather_141 rfl rfl rfl rfl ?_
                refine me3 (pc' := 146) (S' := [ii (vsz (e + 1 + 1) vz : Int)]) dm_X1_gather_143 (g_get (v := ii (vsz (e + 1 + 1) vz : Int)) hpz rfl rfl (by omega)) rfl rfl rfl ?_
                refine me0 (pc' := 149) (S' := [ii 1000, ii (vsz (e + 1 + 1) vz : Int)]) dm_X1_gather_146 rfl rfl rfl rfl ?_
                refine y_2gt (a := (vsz (e + 1 + 1) vz : Int)) (b := 1000) (t := 161) (pc' := 152) dm_X1_gather_149 rfl rfl (by omega) (fun hb15 => ?_) (fun hb15 => ?_)
                · refine me1 (pc' := 162) (L' := [(8, .ref qz), (7, ii 1), (0, .ref 16), (1, .ref p), (2, ii fr), (3, ii (n : Int)), (4, ii stp), (5, ii ((a : Nat) : Int)), (6, ii ((b : Nat) : Int))]) (S' := [.ref 16]) dm_X1_gather_161 rfl rfl rfl rfl ?_
                  refine me0 (pc' := 164) (S' := [ii 8, .ref 16]) dm_X1_gather_162 rfl rfl rfl rfl ?_
                  refine me1 (pc' := 165) (L' := [(8, .ref qz), (7, ii 1), (0, .ref 16), (1, .ref p), (2, ii fr), (3, ii (n : Int)), (4, ii stp), (5, ii ((a : Nat) : Int)), (6, ii ((b : Nat) : Int))]) (S' := [.ref p, ii 8, .ref 16]) dm_X1_gather_164 rfl rfl rfl rfl ?_
                  refine x_cn (pc' := 168) (rest := []) dm_X1_gather_165 rfl (g_inv (As := [ii 8, .ref p]) (S := []) g16 rfl rfl rfl (by decide)) rfl rfl rfl (m_fail (c := 8) (by omega) g16 gp hp2 hca rfl) ?_
                  rintro _ rfl
                  refine me2 (pc' := 202) (S' := []) dm_X1_gather_168 rfl rfl rfl ?_
                  refine y_ret (r := none) dm_X1_gather_202 rfl rfl rfl ?_
                  refine ⟨rfl, ?_⟩
                  rw [show mGo (e + 2) wk (gaV n ch) = _ from mGo_b (D := e + 1 + 1) hgo (by omega)]
                  exact mGat_e hl h16 (fun _ _ _ => rfl) hH0 h32 hres
                · refine me1 (pc' := 154) (L' := [(8, .ref qz), (7, ii 1), (0, .ref 16), (1, .ref p), (2, ii fr), (3, ii (n : Int)), (4, ii stp), (5, ii ((a : Nat) : Int)), (6, ii ((b : Nat) : Int))]) (S' := [.ref qz]) dm_X1_gather_152 rfl rfl rfl rfl ?_
                  refine me3 (pc' := 157) (S' := [ii (vlv (e + 1 + 1) vz : Int)]) dm_X1_gather_154 (g_get (v := ii (vlv (e + 1 + 1) vz : Int)) hpz rfl rfl (by omega)) rfl rfl rfl ?_
                  refine me0 (pc' := 158) (S' := [ii 5, ii (vlv (e + 1 + 1) vz : Int)]) dm_X1_gather_157 rfl rfl rfl rfl ?_
                  refine y_2le (a := (vlv (e + 1 + 1) vz : Int)) (b := 5) (t := 171) (pc' := 161) dm_X1_gather_158 rfl rfl (by omega) (fun hb16 => ?_) (fun hb16 => ?_)
                  · refine me1 (pc' := 172) (L' := [(8, .ref qz), (7, ii 1), (0, .ref 16), (1, .ref p), (2, ii fr), (3, ii (n : Int)), (4, ii stp), (5, ii ((a : Nat) : Int)), (6, ii ((b : Nat) : Int))]) (S' := [.ref 16]) dm_X1_gather_171 rfl rfl rfl rfl ?_
                    refine me0 (pc' := 173) (S' := [ii 3, .ref 16]) dm_X1_gather_172 rfl rfl rfl rfl ?_
                    refine me1 (pc' := 175) (L' := [(8, .ref qz), (7, ii 1), (0, .ref 16), (1, .ref p), (2, ii fr), (3, ii (n : Int)), (4, ii stp), (5, ii ((a : Nat) : Int)), (6, ii ((b : Nat) : Int))]) (S' := [.ref qz, ii 3, .ref 16]) dm_X1_gather_173 rfl rfl rfl rfl ?_
                    refine me3 (pc' := 178) (S' := [ii (vsz (e + 1 + 1) vz : Int), ii 3, .ref 16]) dm_X1_gather_175 (g_get (v := ii (vsz (e + 1 + 1) vz : Int)) hpz rfl rfl (by omega)) rfl rfl rfl ?_
                    refine y_iadd (a := 3) (b := (vsz (e + 1 + 1) vz : Int)) dm_X1_gather_178 (pc' := 179) rfl ?_
                    refine me1 (pc' := 180) (L' := [(8, .ref qz), (7, ii 1), (0, .ref 16), (1, .ref p), (2, ii fr), (3, ii (n : Int)), (4, ii stp), (5, ii ((a : Nat) : Int)), (6, ii ((b : Nat) : Int))]) (S' := [.ref p, ii (3 + (vsz (e + 1 + 1) vz : Int)), .ref 16]) dm_X1_gather_179 rfl rfl rfl rfl ?_
                    by_cases hW : wk < 3 + (vsz (e + 1 + 1) vz : Int)
                    · refine x_cv (pc' := 183) (rest := []) dm_X1_gather_180 rfl (g_inv (As := [ii (3 + (vsz (e + 1 + 1) vz : Int)), .ref p]) (S := []) g16 rfl rfl rfl (by decide)) rfl rfl rfl (m_takeF (n := 3 + (vsz (e + 1 + 1) vz : Int)) (by omega) g16 gp hp2 hca (by omega) hwk hW rfl) ?_
                      rintro _ _ ⟨rfl, rfl⟩
                      refine me_1t (pc' := 202) dm_X1_gather_183 rfl (by decide) ?_
                      refine y_ret (r := none) dm_X1_gather_202 rfl rfl rfl ?_
                      refine ⟨rfl, ?_⟩
                      rw [show mGo (e + 2) wk (gaV n ch) = _ from mGo_w (D := e + 1 + 1) hgo (by omega) hW]
                      exact mGat_e hl h16 (fun _ _ _ => rfl) hH0 h32 hres
                    · refine x_cv (pc' := 183) (rest := []) dm_X1_gather_180 rfl (g_inv (As := [ii (3 + (vsz (e + 1 + 1) vz : Int)), .ref p]) (S := []) g16 rfl rfl rfl (by decide)) rfl rfl rfl (m_takeT (n := 3 + (vsz (e + 1 + 1) vz : Int)) (by omega) g16 gp hp2 hca (by omega) hwk (by omega) rfl) ?_
                      rintro _ _ ⟨rfl, rfl⟩
                      refine me_1f (pc' := 186) dm_X1_gather_183 rfl (by decide) rfl ?_
                      refine me1 (pc' := 187) (L' := [(8, .ref qz), (7, ii 1), (0, .ref 16), (1, .ref p), (2, ii fr), (3, ii (n : Int)), (4, ii stp), (5, ii ((a : Nat) : Int)), (6, ii ((b : Nat) : Int))]) (S' := [.ref 16]) dm_X1_gather_186 rfl rfl rfl rfl ?_
                      refine me0 (pc' := 188) (S' := [.ref 16, .ref 16]) dm_X1_gather_187 rfl rfl rfl rfl ?_
                      refine me3 (pc' := 191) (S' := [ii ((t + n : Nat) : Int), .ref 16]) dm_X1_gather_188 (g_get (v := ii ((t + n : Nat) : Int)) (hl_set (hl_lt g16)) rfl rfl (by decide)) rfl rfl rfl ?_
                      refine me1 (pc' := 192) (L' := [(8, .ref qz), (7, ii 1), (0, .ref 16), (1, .ref p), (2, ii fr), (3, ii (n : Int)), (4, ii stp), (5, ii ((a : Nat) : Int)), (6, ii ((b : Nat) : Int))]) (S' := [ii (n : Int), ii ((t + n : Nat) : Int), .ref 16]) dm_X1_gather_191 rfl rfl rfl rfl ?_
                      refine y_isub (a := ((t + n : Nat) : Int)) (b := (n : Int)) dm_X1_gather_192 (pc' := 193) rfl ?_
                      refine pg_st (S' := [ii ((t : Nat) : Int), .ref 16]) (congrArg (fun z => ii z :: [.ref 16]) (by omega)) ?_
                      refine me3 (pc' := 196) (S' := []) (h1 := (g).set 16 (cO 1 [.ref 4, .ref 17, .ref 26, .ref 32, ii ((t : Nat) : Int), .ref 33, ii dp, ii ca, ii ou, ii (wk - (3 + (vsz (e + 1 + 1) vz : Int))), ii 0, ii pl, nw, vx, vy, .null, ii lv, lf, rt])) dm_X1_gather_193 (g_put (fs' := [.ref 4, .ref 17, .ref 26, .ref 32, ii ((t : Nat) : Int), .ref 33, ii dp, ii ca, ii ou, ii (wk - (3 + (vsz (e + 1 + 1) vz : Int))), ii 0, ii pl, nw, vx, vy, .null, ii lv, lf, rt]) (hl_set (hl_lt g16)) rfl (by rw [List.set_set]) rfl (by simp) rfl (by decide) (fun z => by cases z) (by decide)) rfl rfl rfl ?_
                      refine me1 (pc' := 197) (L' := [(8, .ref qz), (7, ii 1), (0, .ref 16), (1, .ref p), (2, ii fr), (3, ii (n : Int)), (4, ii stp), (5, ii ((a : Nat) : Int)), (6, ii ((b : Nat) : Int))]) (S' := [.ref 16]) dm_X1_gather_196 rfl rfl rfl rfl ?_
                      refine me1 (pc' := 199) (L' := [(8, .ref qz), (7, ii 1), (0, .ref 16), (1, .ref p), (2, ii fr), (3, ii (n : Int)), (4, ii stp), (5, ii ((a : Nat) : Int)), (6, ii ((b : Nat) : Int))]) (S' := [.ref qz, .ref 16]) dm_X1_gather_197 rfl rfl rfl rfl ?_
                      refine x_cn (pc' := 202) (rest := []) dm_X1_gather_199 rfl (g_inv (As := [.ref qz]) (S := []) (hl_set (hl_lt g16)) rfl rfl rfl (by decide)) rfl rfl rfl (m_push (t := t) (by omega) (hl_ne (by omega) hpz) (by omega) (hl_set (hl_lt g16)) (hl_ne (by decide) g32) (by omega) rfl) ?_
                      rintro _ rfl
                      refine y_ret (r := none) dm_X1_gather_202 rfl rfl rfl ?_
                      refine ⟨rfl, ?_⟩
                      rw [show mGo (e + 2) wk (gaV n ch) = _ from mGo_v (D := e + 1 + 1) hgo (by omega) hW, List.set_comm _ _ (show (16 : Nat) ≠ 32 by decide), List.set_set]
                      exact mGat_v hl hA h16 (fun _ _ => rfl) hH0 h32 hres
                  · refine me1 (pc' := 162) (L' := [(8, .ref qz), (7, ii 1), (0, .ref 16), (1, .ref p), (2, ii fr), (3, ii (n : Int)), (4, ii stp), (5, ii ((a : Nat) : Int)), (6, ii ((b : Nat) : Int))]) (S' := [.ref 16]) dm_X1_gather_161 rfl rfl rfl rfl ?_
                    refine me0 (pc' := 164) (S' := [ii 8, .ref 16]) dm_X1_gather_162 rfl rfl rfl rfl ?_
                    refine me1 (pc' := 165) (L' := [(8, .ref qz), (7, ii 1), (0, .ref 16), (1, .ref p), (2, ii fr), (3, ii (n : Int)), (4, ii stp), (5, ii ((a : Nat) : Int)), (6, ii ((b : Nat) : Int))]) (S' := [.ref p, ii 8, .ref 16]) dm_X1_gather_164 rfl rfl rfl rfl ?_
                    refine x_cn (pc' := 168) (rest := []) dm_X1_gather_165 rfl (g_inv (As := [ii 8, .ref p]) (S := []) g16 rfl rfl rfl (by decide)) rfl rfl rfl (m_fail (c := 8) (by omega) g16 gp hp2 hca rfl) ?_
                    rintro _ rfl
                    refine me2 (pc' := 202) (S' := []) dm_X1_gather_168 rfl rfl rfl ?_
                    refine y_ret (r := none) dm_X1_gather_202 rfl rfl rfl ?_
                    refine ⟨rfl, ?_⟩
                    rw [show mGo (e + 2) wk (gaV n ch) = _ from mGo_b (D := e + 1 + 1) hgo (by omega)]
                    exact mGat_e hl h16 (fun _ _ _ => rfl) hH0 h32 hres
              · refine me1 (pc' := 108) (L' := [(7, ii 1), (0, .ref 16), (1, .ref p), (2, ii fr), (3, ii (n : Int)), (4, ii stp), (5, ii ((a : Nat) : Int)), (6, ii ((b : Nat) : Int))]) (S' := [.ref 16]) dm_X1_gather_107 rfl rfl rfl rfl ?_
                refine me0 (pc' := 110) (S' := [ii 8, .ref 16]) dm_X1_gather_108 rfl rfl rfl rfl ?_
                refine me1 (pc' := 111) (L' := [(7, ii 1), (0, .ref 16), (1, .ref p), (2, ii fr), (3, ii (n : Int)), (4, ii stp), (5, ii ((a : Nat) : Int)), (6, ii ((b : Nat) : Int))]) (S' := [.ref p, ii 8, .ref 16]) dm_X1_gather_110 rfl rfl rfl rfl ?_
                refine x_cn (pc' := 114) (rest := []) dm_X1_gather_111 rfl (g_inv (As := [ii 8, .ref p]) (S := []) h16 rfl rfl rfl (by decide)) rfl rfl rfl (m_fail (c := 8) (by omega) h16 hp hp2 hca rfl) ?_
                rintro _ rfl
                refine y_ret (r := none) dm_X1_gather_114 rfl rfl rfl ?_
                refine ⟨rfl, ?_⟩
                rw [mGo_f (show gaV n ch = .inl 8 from (gaV_s8 (by omega) (by omega) (by omega) (by omega)))]
                exact mGat_0 hl h16 (fun _ _ _ => rfl) hH0 h32
      · refine me1 (pc' := 16) (L' := [(0, .ref 16), (1, .ref p), (2, ii fr), (3, ii (n : Int)), (4, ii stp), (5, ii ((a : Nat) : Int)), (6, ii ((b : Nat) : Int)), (7, ii (k : Int))]) (S' := [.ref 16]) dm_X1_gather_15 rfl rfl rfl rfl ?_
        refine me1 (pc' := 17) (L' := [(0, .ref 16), (1, .ref p), (2, ii fr), (3, ii (n : Int)), (4, ii stp), (5, ii ((a : Nat) : Int)), (6, ii ((b : Nat) : Int)), (7, ii (k : Int))]) (S' := [ii fr, .ref 16]) dm_X1_gather_16 rfl rfl rfl rfl ?_
        refine me1 (pc' := 19) (L' := [(0, .ref 16), (1, .ref p), (2, ii fr), (3, ii (n : Int)), (4, ii stp), (5, ii ((a : Nat) : Int)), (6, ii ((b : Nat) : Int)), (7, ii (k : Int))]) (S' := [ii (k : Int), ii fr, .ref 16]) dm_X1_gather_17 rfl rfl rfl rfl ?_
        refine me1 (pc' := 21) (L' := [(0, .ref 16), (1, .ref p), (2, ii fr), (3, ii (n : Int)), (4, ii stp), (5, ii ((a : Nat) : Int)), (6, ii ((b : Nat) : Int)), (7, ii (k : Int))]) (S' := [ii stp, ii (k : Int), ii fr, .ref 16]) dm_X1_gather_19 rfl rfl rfl rfl ?_
        refine y_imul (a := (k : Int)) (b := stp) dm_X1_gather_21 (pc' := 22) rfl ?_
        refine y_iadd (a := fr) (b := (k : Int) * stp) dm_X1_gather_22 (pc' := 23) rfl ?_
        obtain ⟨qk, hqk, hvk⟩ := hqq k (by omega)
        obtain ⟨hwk, ⟨hp2k, hpAk⟩, hszk, hlvk, rowk, frk, valsk, hpk, -, -, -, -⟩ := id hvk
        have hixk := hix k (by omega)
        have hbk := hixb k (by omega)
        have htk := hixt k (by omega)
        have hq127k := (hA qk hpAk).2
        have hk7k := hwk.1
        refine pg_st (S' := [ii ((ix k : Nat) : Int), .ref 16]) (congrArg (fun z => ii z :: [.ref 16]) hixk) ?_
        refine x_cp (pc' := 26) (v := .ref qk) (rest := []) dm_X1_gather_23 rfl (g_inv (As := [ii ((ix k : Nat) : Int)]) (S := []) h16 rfl rfl rfl (by decide)) rfl rfl rfl (m_stacked (by omega) h16 h32 (by omega) (by omega) (by omega) hqk) ?_
        refine me3 (pc' := 29) (S' := [ii (vk (ch k) : Int)]) dm_X1_gather_26 (g_get (v := ii (vk (ch k) : Int)) hpk rfl rfl (by omega)) rfl rfl rfl ?_
        refine me1 (pc' := 31) (L' := [(8, ii (vk (ch k) : Int)), (0, .ref 16), (1, .ref p), (2, ii fr), (3, ii (n : Int)), (4, ii stp), (5, ii ((a : Nat) : Int)), (6, ii ((b : Nat) : Int)), (7, ii (k : Int))]) (S' := []) dm_X1_gather_29 rfl rfl rfl rfl ?_
        refine me1 (pc' := 33) (L' := [(8, ii (vk (ch k) : Int)), (0, .ref 16), (1, .ref p), (2, ii fr), (3, ii (n : Int)), (4, ii stp), (5, ii ((a : Nat) : Int)), (6, ii ((b : Nat) : Int)), (7, ii (k : Int))]) (S' := [ii ((a : Nat) : Int)]) dm_X1_gather_31 rfl rfl rfl rfl ?_
        refine me1 (pc' := 35) (L' := [(8, ii (vk (ch k) : Int)), (0, .ref 16), (1, .ref p), (2, ii fr), (3, ii (n : Int)), (4, ii stp), (5, ii ((a : Nat) : Int)), (6, ii ((b : Nat) : Int)), (7, ii (k : Int))]) (S' := [ii (vk (ch k) : Int), ii ((a : Nat) : Int)]) dm_X1_gather_33 rfl rfl rfl rfl ?_
        refine y_1ne (a := (vk (ch k) : Int)) (t := 42) (pc' := 38) dm_X1_gather_35 rfl rfl (by omega) (fun hb17 => ?_) (fun hb17 => ?_)
        · refine me0 (pc' := 43) (S' := [ii 0, ii ((a : Nat) : Int)]) dm_X1_gather_42 rfl rfl rfl rfl ?_
          refine y_iadd (a := ((a : Nat) : Int)) (b := 0) dm_X1_gather_43 (pc' := 44) rfl ?_
          refine pg_st (S' := [ii ((a : Nat) : Int)]) (congrArg (fun z => ii z :: []) (show ((a : Nat) : Int) + 0 = ((a : Nat) : Int) by omega)) ?_
          refine me1 (pc' := 46) (L' := [(5, ii ((a : Nat) : Int)), (8, ii (vk (ch k) : Int)), (0, .ref 16), (1, .ref p), (2, ii fr), (3, ii (n : Int)), (4, ii stp), (6, ii ((b : Nat) : Int)), (7, ii (k : Int))]) (S' := []) dm_X1_gather_44 rfl rfl rfl rfl ?_
          refine me1 (pc' := 48) (L' := [(5, ii ((a : Nat) : Int)), (8, ii (vk (ch k) : Int)), (0, .ref 16), (1, .ref p), (2, ii fr), (3, ii (n : Int)), (4, ii stp), (6, ii ((b : Nat) : Int)), (7, ii (k : Int))]) (S' := [ii ((b : Nat) : Int)]) dm_X1_gather_46 rfl rfl rfl rfl ?_
          refine me1 (pc' := 50) (L' := [(5, ii ((a : Nat) : Int)), (8, ii (vk (ch k) : Int)), (0, .ref 16), (1, .ref p), (2, ii fr), (3, ii (n : Int)), (4, ii stp), (6, ii ((b : Nat) : Int)), (7, ii (k : Int))]) (S' := [ii (vk (ch k) : Int), ii ((b : Nat) : Int)]) dm_X1_gather_48 rfl rfl rfl rfl ?_
          refine me0 (pc' := 51) (S' := [ii 1, ii (vk (ch k) : Int), ii ((b : Nat) : Int)]) dm_X1_gather_50 rfl rfl rfl rfl ?_
          refine y_2ne (a := (vk (ch k) : Int)) (b := 1) (t := 58) (pc' := 54) dm_X1_gather_51 rfl rfl (by omega) (fun hb18 => ?_) (fun hb18 => ?_)
          · refine me0 (pc' := 59) (S' := [ii 0, ii ((b : Nat) : Int)]) dm_X1_gather_58 rfl rfl rfl rfl ?_
            refine y_iadd (a := ((b : Nat) : Int)) (b := 0) dm_X1_gather_59 (pc' := 60) rfl ?_
            refine pg_st (S' := [ii ((b : Nat) : Int)]) (congrArg (fun z => ii z :: []) (show ((b : Nat) : Int) + 0 = ((b : Nat) : Int) by omega)) ?_
            refine me1 (pc' := 62) (L' := [(6, ii ((b : Nat) : Int)), (5, ii ((a : Nat) : Int)), (8, ii (vk (ch k) : Int)), (0, .ref 16), (1, .ref p), (2, ii fr), (3, ii (n : Int)), (4, ii stp), (7, ii (k : Int))]) (S' := []) dm_X1_gather_60 rfl rfl rfl rfl ?_
            refine y_iinc (pc' := 65) (L' := [(7, ii ((k : Int) + 1)), (6, ii ((b : Nat) : Int)), (5, ii ((a : Nat) : Int)), (8, ii (vk (ch k) : Int)), (0, .ref 16), (1, .ref p), (2, ii fr), (3, ii (n : Int)), (4, ii stp)]) dm_X1_gather_62 (y_incp (a := (k : Int)) (c := 1) rfl rfl (by decide)) rfl ?_
            refine me2 (pc' := 9) (S' := []) dm_X1_gather_65 rfl rfl rfl ?_
            exact pg_sub (L := [(0, .ref 16), (1, .ref p), (2, ii fr), (3, ii (n : Int)), (4, ii stp), (5, ii ((a : Nat) : Int)), (6, ii ((b : Nat) : Int)), (7, ii ((k + 1) : Int))]) rfl rfl rfl (ih9 (n - (k + 1)) (by omega) (k + 1) a b rfl (by omega) (ha.trans (cnB_s0 (p := isNb ch) (fun z => by have := of_decide_eq_true z; omega)).symm) (hb.trans (cnB_s0 (p := isSg ch) (fun z => by have := of_decide_eq_true z; omega)).symm))
          · refine me0 (pc' := 55) (S' := [ii 1, ii ((b : Nat) : Int)]) dm_X1_gather_54 rfl rfl rfl rfl ?_
            refine me2 (pc' := 59) (S' := [ii 1, ii ((b : Nat) : Int)]) dm_X1_gather_55 rfl rfl rfl ?_
            refine y_iadd (a := ((b : Nat) : Int)) (b := 1) dm_X1_gather_59 (pc' := 60) rfl ?_
            refine pg_st (S' := [ii ((b + 1 : Nat) : Int)]) (congrArg (fun z => ii z :: []) (show ((b : Nat) : Int) + 1 = ((b + 1 : Nat) : Int) by omega)) ?_
            refine me1 (pc' := 62) (L' := [(6, ii ((b + 1 : Nat) : Int)), (5, ii ((a : Nat) : Int)), (8, ii (vk (ch k) : Int)), (0, .ref 16), (1, .ref p), (2, ii fr), (3, ii (n : Int)), (4, ii stp), (7, ii (k : Int))]) (S' := []) dm_X1_gather_60 rfl rfl rfl rfl ?_
            refine y_iinc (pc' := 65) (L' := [(7, ii ((k : Int) + 1)), (6, ii ((b + 1 : Nat) : Int)), (5, ii ((a : Nat) : Int)), (8, ii (vk (ch k) : Int)), (0, .ref 16), (1, .ref p), (2, ii fr), (3, ii (n : Int)), (4, ii stp)]) dm_X1_gather_62 (y_incp (a := (k : Int)) (c := 1) rfl rfl (by decide)) rfl ?_
            refine me2 (pc' := 9) (S' := []) dm_X1_gather_65 rfl rfl rfl ?_
            exact pg_sub (L := [(0, .ref 16), (1, .ref p), (2, ii fr), (3, ii (n : Int)), (4, ii stp), (5, ii ((a : Nat) : Int)), (6, ii (((b + 1) : Nat) : Int)), (7, ii ((k + 1) : Int))]) rfl rfl rfl (ih9 (n - (k + 1)) (by omega) (k + 1) a (b + 1) rfl (by omega) (ha.trans (cnB_s0 (p := isNb ch) (fun z => by have := of_decide_eq_true z; omega)).symm) ((congrArg (· + 1) hb).trans (cnB_s1 (p := isSg ch) (decide_eq_true (by omega))).symm))
        · refine me0 (pc' := 39) (S' := [ii 1, ii ((a : Nat) : Int)]) dm_X1_gather_38 rfl rfl rfl rfl ?_
          refine me2 (pc' := 43) (S' := [ii 1, ii ((a : Nat) : Int)]) dm_X1_gather_39 rfl rfl rfl ?_
          refine y_iadd (a := ((a : Nat) : Int)) (b := 1) dm_X1_gather_43 (pc' := 44) rfl ?_
          refine pg_st (S' := [ii ((a + 1 : Nat) : Int)]) (congrArg (fun z => ii z :: []) (show ((a : Nat) : Int) + 1 = ((a + 1 : Nat) : Int) by omega)) ?_
          refine me1 (pc' := 46) (L' := [(5, ii ((a + 1 : Nat) : Int)), (8, ii (vk (ch k) : Int)), (0, .ref 16), (1, .ref p), (2, ii fr), (3, ii (n : Int)), (4, ii stp), (6, ii ((b : Nat) : Int)), (7, ii (k : Int))]) (S' := []) dm_X1_gather_44 rfl rfl rfl rfl ?_
          refine me1 (pc' := 48) (L' := [(5, ii ((a + 1 : Nat) : Int)), (8, ii (vk (ch k) : Int)), (0, .ref 16), (1, .ref p), (2, ii fr), (3, ii (n : Int)), (4, ii stp), (6, ii ((b : Nat) : Int)), (7, ii (k : Int))]) (S' := [ii ((b : Nat) : Int)]) dm_X1_gather_46 rfl rfl rfl rfl ?_
          refine me1 (pc' := 50) (L' := [(5, ii ((a + 1 : Nat) : Int)), (8, ii (vk (ch k) : Int)), (0, .ref 16), (1, .ref p), (2, ii fr), (3, ii (n : Int)), (4, ii stp), (6, ii ((b : Nat) : Int)), (7, ii (k : Int))]) (S' := [ii (vk (ch k) : Int), ii ((b : Nat) : Int)]) dm_X1_gather_48 rfl rfl rfl rfl ?_
          refine me0 (pc' := 51) (S' := [ii 1, ii (vk (ch k) : Int), ii ((b : Nat) : Int)]) dm_X1_gather_50 rfl rfl rfl rfl ?_
          refine y_2ne (a := (vk (ch k) : Int)) (b := 1) (t := 58) (pc' := 54) dm_X1_gather_51 rfl rfl (by omega) (fun hb19 => ?_) (fun hb19 => ?_)
          · refine me0 (pc' := 59) (S' := [ii 0, ii ((b : Nat) : Int)]) dm_X1_gather_58 rfl rfl rfl rfl ?_
            refine y_iadd (a := ((b : Nat) : Int)) (b := 0) dm_X1_gather_59 (pc' := 60) rfl ?_
            refine pg_st (S' := [ii ((b : Nat) : Int)]) (congrArg (fun z => ii z :: []) (show ((b : Nat) : Int) + 0 = ((b : Nat) : Int) by omega)) ?_
            refine me1 (pc' := 62) (L' := [(6, ii ((b : Nat) : Int)), (5, ii ((a + 1 : Nat) : Int)), (8, ii (vk (ch k) : Int)), (0, .ref 16), (1, .ref p), (2, ii fr), (3, ii (n : Int)), (4, ii stp), (7, ii (k : Int))]) (S' := []) dm_X1_gather_60 rfl rfl rfl rfl ?_
            refine y_iinc (pc' := 65) (L' := [(7, ii ((k : Int) + 1)), (6, ii ((b : Nat) : Int)), (5, ii ((a + 1 : Nat) : Int)), (8, ii (vk (ch k) : Int)), (0, .ref 16), (1, .ref p), (2, ii fr), (3, ii (n : Int)), (4, ii stp)]) dm_X1_gather_62 (y_incp (a := (k : Int)) (c := 1) rfl rfl (by decide)) rfl ?_
            refine me2 (pc' := 9) (S' := []) dm_X1_gather_65 rfl rfl rfl ?_
            exact pg_sub (L := [(0, .ref 16), (1, .ref p), (2, ii fr), (3, ii (n : Int)), (4, ii stp), (5, ii (((a + 1) : Nat) : Int)), (6, ii ((b : Nat) : Int)), (7, ii ((k + 1) : Int))]) rfl rfl rfl (ih9 (n - (k + 1)) (by omega) (k + 1) (a + 1) b rfl (by omega) ((congrArg (· + 1) ha).trans (cnB_s1 (p := isNb ch) (decide_eq_true (by omega))).symm) (hb.trans (cnB_s0 (p := isSg ch) (fun z => by have := of_decide_eq_true z; omega)).symm))
          · refine me0 (pc' := 55) (S' := [ii 1, ii ((b : Nat) : Int)]) dm_X1_gather_54 rfl rfl rfl rfl ?_
            refine me2 (pc' := 59) (S' := [ii 1, ii ((b : Nat) : Int)]) dm_X1_gather_55 rfl rfl rfl ?_
            refine y_iadd (a := ((b : Nat) : Int)) (b := 1) dm_X1_gather_59 (pc' := 60) rfl ?_
            refine pg_st (S' := [ii ((b + 1 : Nat) : Int)]) (congrArg (fun z => ii z :: []) (show ((b : Nat) : Int) + 1 = ((b + 1 : Nat) : Int) by omega)) ?_
            refine me1 (pc' := 62) (L' := [(6, ii ((b + 1 : Nat) : Int)), (5, ii ((a + 1 : Nat) : Int)), (8, ii (vk (ch k) : Int)), (0, .ref 16), (1, .ref p), (2, ii fr), (3, ii (n : Int)), (4, ii stp), (7, ii (k : Int))]) (S' := []) dm_X1_gather_60 rfl rfl rfl rfl ?_
            refine y_iinc (pc' := 65) (L' := [(7, ii ((k : Int) + 1)), (6, ii ((b + 1 : Nat) : Int)), (5, ii ((a + 1 : Nat) : Int)), (8, ii (vk (ch k) : Int)), (0, .ref 16), (1, .ref p), (2, ii fr), (3, ii (n : Int)), (4, ii stp)]) dm_X1_gather_62 (y_incp (a := (k : Int)) (c := 1) rfl rfl (by decide)) rfl ?_
            refine me2 (pc' := 9) (S' := []) dm_X1_gather_65 rfl rfl rfl ?_
            exact pg_sub (L := [(0, .ref 16), (1, .ref p), (2, ii fr), (3, ii (n : Int)), (4, ii stp), (5, ii (((a + 1) : Nat) : Int)), (6, ii (((b + 1) : Nat) : Int)), (7, ii ((k + 1) : Int))]) rfl rfl rfl (ih9 (n - (k + 1)) (by omega) (k + 1) (a + 1) (b + 1) rfl (by omega) ((congrArg (· + 1) ha).trans (cnB_s1 (p := isNb ch) (decide_eq_true (by omega))).symm) ((congrArg (· + 1) hb).trans (cnB_s1 (p := isSg ch) (decide_eq_true (by omega))).symm))
  exact pg_sub (L := [(0, .ref 16), (1, .ref p), (2, ii fr), (3, ii (n : Int)), (4, ii stp), (5, ii ((0 : Nat) : Int)), (6, ii ((0 : Nat) : Int)), (7, ii (0 : Int))]) rfl rfl rfl (lp9 _ 0 0 0 rfl (Nat.zero_le _) rfl rfl)
