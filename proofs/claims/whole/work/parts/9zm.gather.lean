theorem vres_gt {A : Nat → Prop} {h g : mj_H} {D a b q p : Nat} {v : VV} {c1 c2 c3 : mj_E} (hr : vres A h D v a b (.ref q) g) (hl : 127 ≤ h.length) (hA : okA A h) (h1 : h[16]? = some c1) (h2 : h[32]? = some c2) (h3 : h[p]? = some c3) : g[16]? = some c1 ∧ g[32]? = some c2 ∧ g[p]? = some c3 ∧ h.length ≤ g.length ∧ g.length ≤ h.length + a ∧ okA (newA A h g) g ∧ cv (newA A h g) g D q v := by
  obtain ⟨q', X, e, rfl, x1, x2, x3⟩ := hr
  have e : q = q' := by injection e
  subst e
  have gl : (h ++ X).length = h.length + X.length := List.length_append
  exact ⟨hl_app h1, hl_app h2, hl_app h3, by omega, by omega, okA_new hA hl (by omega), x3⟩
set_option maxRecDepth 20000 in
theorem pm_X1_gather : mj_mmof pg_ms 161 = some ((⟨"ArrayCalculator$Machine", "gather", "(LArrayCalculator$Op;III)V"⟩, prog_3_method_21_code, 9, (Option.none : Option Jvm.ClassFile.FieldType)), 1, false, mj_dec prog_3_method_21_code) := rfl
theorem dm_X1_gather_0 : mj_dec prog_3_method_21_code 0 = some (.iconst 0, 1) := by decide +kernel
theorem dm_X1_gather_1 : mj_dec prog_3_method_21_code 1 = some (.istore 5, 2) := by decide +kernel
theorem dm_X1_gather_3 : mj_dec prog_3_method_21_code 3 = some (.iconst 0, 1) := by decide +kernel
theorem dm_X1_gather_4 : mj_dec prog_3_method_21_code 4 = some (.istore 6, 2) := by decide +kernel
theorem dm_X1_gather_6 : mj_dec prog_3_method_21_code 6 = some (.iconst 0, 1) := by decide +kernel
theorem dm_X1_gather_7 : mj_dec prog_3_method_21_code 7 = some (.istore 7, 2) := by decide +kernel
theorem dm_X1_gather_9 : mj_dec prog_3_method_21_code 9 = some (.iload 7, 2) := by decide +kernel
theorem dm_X1_gather_11 : mj_dec prog_3_method_21_code 11 = some (.iload_n 3, 1) := by decide +kernel
theorem dm_X1_gather_12 : mj_dec prog_3_method_21_code 12 = some (.if_icmp .ge 57, 3) := by decide +kernel
theorem dm_X1_gather_15 : mj_dec prog_3_method_21_code 15 = some (.aload_n 0, 1) := by decide +kernel
theorem dm_X1_gather_16 : mj_dec prog_3_method_21_code 16 = some (.getfield 27, 3) := by decide +kernel
theorem dm_X1_gather_19 : mj_dec prog_3_method_21_code 19 = some (.iload_n 2, 1) := by decide +kernel
theorem dm_X1_gather_20 : mj_dec prog_3_method_21_code 20 = some (.iload 7, 2) := by decide +kernel
theorem dm_X1_gather_22 : mj_dec prog_3_method_21_code 22 = some (.iload 4, 2) := by decide +kernel
theorem dm_X1_gather_24 : mj_dec prog_3_method_21_code 24 = some (.imul, 1) := by decide +kernel
theorem dm_X1_gather_25 : mj_dec prog_3_method_21_code 25 = some (.iadd, 1) := by decide +kernel
theorem dm_X1_gather_26 : mj_dec prog_3_method_21_code 26 = some (.aaload, 1) := by decide +kernel
theorem dm_X1_gather_27 : mj_dec prog_3_method_21_code 27 = some (.getfield 180, 3) := by decide +kernel
theorem dm_X1_gather_30 : mj_dec prog_3_method_21_code 30 = some (.istore 8, 2) := by decide +kernel
theorem dm_X1_gather_32 : mj_dec prog_3_method_21_code 32 = some (.iload 5, 2) := by decide +kernel
theorem dm_X1_gather_34 : mj_dec prog_3_method_21_code 34 = some (.iload 8, 2) := by decide +kernel
theorem dm_X1_gather_36 : mj_dec prog_3_method_21_code 36 = some (.ifCond .ne 7, 3) := by decide +kernel
theorem dm_X1_gather_39 : mj_dec prog_3_method_21_code 39 = some (.iconst 1, 1) := by decide +kernel
theorem dm_X1_gather_40 : mj_dec prog_3_method_21_code 40 = some (.goto 4, 3) := by decide +kernel
theorem dm_X1_gather_43 : mj_dec prog_3_method_21_code 43 = some (.iconst 0, 1) := by decide +kernel
theorem dm_X1_gather_44 : mj_dec prog_3_method_21_code 44 = some (.iadd, 1) := by decide +kernel
theorem dm_X1_gather_45 : mj_dec prog_3_method_21_code 45 = some (.istore 5, 2) := by decide +kernel
theorem dm_X1_gather_47 : mj_dec prog_3_method_21_code 47 = some (.iload 6, 2) := by decide +kernel
theorem dm_X1_gather_49 : mj_dec prog_3_method_21_code 49 = some (.iload 8, 2) := by decide +kernel
theorem dm_X1_gather_51 : mj_dec prog_3_method_21_code 51 = some (.iconst 1, 1) := by decide +kernel
theorem dm_X1_gather_52 : mj_dec prog_3_method_21_code 52 = some (.if_icmp .ne 7, 3) := by decide +kernel
theorem dm_X1_gather_55 : mj_dec prog_3_method_21_code 55 = some (.iconst 1, 1) := by decide +kernel
theorem dm_X1_gather_56 : mj_dec prog_3_method_21_code 56 = some (.goto 4, 3) := by decide +kernel
theorem dm_X1_gather_59 : mj_dec prog_3_method_21_code 59 = some (.iconst 0, 1) := by decide +kernel
theorem dm_X1_gather_60 : mj_dec prog_3_method_21_code 60 = some (.iadd, 1) := by decide +kernel
theorem dm_X1_gather_61 : mj_dec prog_3_method_21_code 61 = some (.istore 6, 2) := by decide +kernel
theorem dm_X1_gather_63 : mj_dec prog_3_method_21_code 63 = some (.iinc 7 1, 3) := by decide +kernel
theorem dm_X1_gather_66 : mj_dec prog_3_method_21_code 66 = some (.goto (-57), 3) := by decide +kernel
theorem dm_X1_gather_69 : mj_dec prog_3_method_21_code 69 = some (.iload_n 3, 1) := by decide +kernel
theorem dm_X1_gather_70 : mj_dec prog_3_method_21_code 70 = some (.ifCond .le 19, 3) := by decide +kernel
theorem dm_X1_gather_73 : mj_dec prog_3_method_21_code 73 = some (.iload 5, 2) := by decide +kernel
theorem dm_X1_gather_75 : mj_dec prog_3_method_21_code 75 = some (.iload_n 3, 1) := by decide +kernel
theorem dm_X1_gather_76 : mj_dec prog_3_method_21_code 76 = some (.if_icmp .eq 9, 3) := by decide +kernel
theorem dm_X1_gather_79 : mj_dec prog_3_method_21_code 79 = some (.iload 6, 2) := by decide +kernel
theorem dm_X1_gather_81 : mj_dec prog_3_method_21_code 81 = some (.iload_n 3, 1) := by decide +kernel
theorem dm_X1_gather_82 : mj_dec prog_3_method_21_code 82 = some (.if_icmp .ne 7, 3) := by decide +kernel
theorem dm_X1_gather_85 : mj_dec prog_3_method_21_code 85 = some (.iconst 1, 1) := by decide +kernel
theorem dm_X1_gather_86 : mj_dec prog_3_method_21_code 86 = some (.goto 4, 3) := by decide +kernel
theorem dm_X1_gather_89 : mj_dec prog_3_method_21_code 89 = some (.iconst 0, 1) := by decide +kernel
theorem dm_X1_gather_90 : mj_dec prog_3_method_21_code 90 = some (.istore 7, 2) := by decide +kernel
theorem dm_X1_gather_92 : mj_dec prog_3_method_21_code 92 = some (.iload_n 3, 1) := by decide +kernel
theorem dm_X1_gather_93 : mj_dec prog_3_method_21_code 93 = some (.iload 7, 2) := by decide +kernel
theorem dm_X1_gather_95 : mj_dec prog_3_method_21_code 95 = some (.ifCond .eq 8, 3) := by decide +kernel
theorem dm_X1_gather_98 : mj_dec prog_3_method_21_code 98 = some (.bipush 120, 2) := by decide +kernel
theorem dm_X1_gather_100 : mj_dec prog_3_method_21_code 100 = some (.goto 5, 3) := by decide +kernel
theorem dm_X1_gather_103 : mj_dec prog_3_method_21_code 103 = some (.bipush 24, 2) := by decide +kernel
theorem dm_X1_gather_105 : mj_dec prog_3_method_21_code 105 = some (.if_icmp .le 11, 3) := by decide +kernel
theorem dm_X1_gather_108 : mj_dec prog_3_method_21_code 108 = some (.aload_n 0, 1) := by decide +kernel
theorem dm_X1_gather_109 : mj_dec prog_3_method_21_code 109 = some (.bipush 8, 2) := by decide +kernel
theorem dm_X1_gather_111 : mj_dec prog_3_method_21_code 111 = some (.aload_n 1, 1) := by decide +kernel
theorem dm_X1_gather_112 : mj_dec prog_3_method_21_code 112 = some (.invokevirtual 125, 3) := by decide +kernel
theorem dm_X1_gather_115 : mj_dec prog_3_method_21_code 115 = some (.return_, 1) := by decide +kernel
theorem dm_X1_gather_116 : mj_dec prog_3_method_21_code 116 = some (.iload 7, 2) := by decide +kernel
theorem dm_X1_gather_118 : mj_dec prog_3_method_21_code 118 = some (.ifCond .eq 14, 3) := by decide +kernel
theorem dm_X1_gather_121 : mj_dec prog_3_method_21_code 121 = some (.aload_n 0, 1) := by decide +kernel
theorem dm_X1_gather_122 : mj_dec prog_3_method_21_code 122 = some (.iload_n 2, 1) := by decide +kernel
theorem dm_X1_gather_123 : mj_dec prog_3_method_21_code 123 = some (.iload_n 3, 1) := by decide +kernel
theorem dm_X1_gather_124 : mj_dec prog_3_method_21_code 124 = some (.iload 4, 2) := by decide +kernel
theorem dm_X1_gather_126 : mj_dec prog_3_method_21_code 126 = some (.invokevirtual 246, 3) := by decide +kernel
theorem dm_X1_gather_129 : mj_dec prog_3_method_21_code 129 = some (.goto 11, 3) := by decide +kernel
theorem dm_X1_gather_132 : mj_dec prog_3_method_21_code 132 = some (.aload_n 0, 1) := by decide +kernel
theorem dm_X1_gather_133 : mj_dec prog_3_method_21_code 133 = some (.iload_n 2, 1) := by decide +kernel
theorem dm_X1_gather_134 : mj_dec prog_3_method_21_code 134 = some (.iload_n 3, 1) := by decide +kernel
theorem dm_X1_gather_135 : mj_dec prog_3_method_21_code 135 = some (.iload 4, 2) := by decide +kernel
theorem dm_X1_gather_137 : mj_dec prog_3_method_21_code 137 = some (.invokevirtual 250, 3) := by decide +kernel
theorem dm_X1_gather_140 : mj_dec prog_3_method_21_code 140 = some (.astore 8, 2) := by decide +kernel
theorem dm_X1_gather_142 : mj_dec prog_3_method_21_code 142 = some (.aload 8, 2) := by decide +kernel
theorem dm_X1_gather_144 : mj_dec prog_3_method_21_code 144 = some (.getfield 189, 3) := by decide +kernel
theorem dm_X1_gather_147 : mj_dec prog_3_method_21_code 147 = some (.sipush 1000, 3) := by decide +kernel
theorem dm_X1_gather_150 : mj_dec prog_3_method_21_code 150 = some (.if_icmp .gt 12, 3) := by decide +kernel
theorem dm_X1_gather_153 : mj_dec prog_3_method_21_code 153 = some (.aload 8, 2) := by decide +kernel
theorem dm_X1_gather_155 : mj_dec prog_3_method_21_code 155 = some (.getfield 215, 3) := by decide +kernel
theorem dm_X1_gather_158 : mj_dec prog_3_method_21_code 158 = some (.iconst 5, 1) := by decide +kernel
theorem dm_X1_gather_159 : mj_dec prog_3_method_21_code 159 = some (.if_icmp .le 13, 3) := by decide +kernel
theorem dm_X1_gather_162 : mj_dec prog_3_method_21_code 162 = some (.aload_n 0, 1) := by decide +kernel
theorem dm_X1_gather_163 : mj_dec prog_3_method_21_code 163 = some (.bipush 8, 2) := by decide +kernel
theorem dm_X1_gather_165 : mj_dec prog_3_method_21_code 165 = some (.aload_n 1, 1) := by decide +kernel
theorem dm_X1_gather_166 : mj_dec prog_3_method_21_code 166 = some (.invokevirtual 125, 3) := by decide +kernel
theorem dm_X1_gather_169 : mj_dec prog_3_method_21_code 169 = some (.goto 34, 3) := by decide +kernel
theorem dm_X1_gather_172 : mj_dec prog_3_method_21_code 172 = some (.aload_n 0, 1) := by decide +kernel
theorem dm_X1_gather_173 : mj_dec prog_3_method_21_code 173 = some (.iconst 3, 1) := by decide +kernel
theorem dm_X1_gather_174 : mj_dec prog_3_method_21_code 174 = some (.aload 8, 2) := by decide +kernel
theorem dm_X1_gather_176 : mj_dec prog_3_method_21_code 176 = some (.getfield 189, 3) := by decide +kernel
theorem dm_X1_gather_179 : mj_dec prog_3_method_21_code 179 = some (.iadd, 1) := by decide +kernel
theorem dm_X1_gather_180 : mj_dec prog_3_method_21_code 180 = some (.aload_n 1, 1) := by decide +kernel
theorem dm_X1_gather_181 : mj_dec prog_3_method_21_code 181 = some (.invokevirtual 192, 3) := by decide +kernel
theorem dm_X1_gather_184 : mj_dec prog_3_method_21_code 184 = some (.ifCond .eq 19, 3) := by decide +kernel
theorem dm_X1_gather_187 : mj_dec prog_3_method_21_code 187 = some (.aload_n 0, 1) := by decide +kernel
theorem dm_X1_gather_188 : mj_dec prog_3_method_21_code 188 = some (.dup, 1) := by decide +kernel
theorem dm_X1_gather_189 : mj_dec prog_3_method_21_code 189 = some (.getfield 53, 3) := by decide +kernel
theorem dm_X1_gather_192 : mj_dec prog_3_method_21_code 192 = some (.iload_n 3, 1) := by decide +kernel
theorem dm_X1_gather_193 : mj_dec prog_3_method_21_code 193 = some (.isub, 1) := by decide +kernel
theorem dm_X1_gather_194 : mj_dec prog_3_method_21_code 194 = some (.putfield 53, 3) := by decide +kernel
theorem dm_X1_gather_197 : mj_dec prog_3_method_21_code 197 = some (.aload_n 0, 1) := by decide +kernel
theorem dm_X1_gather_198 : mj_dec prog_3_method_21_code 198 = some (.aload 8, 2) := by decide +kernel
theorem dm_X1_gather_200 : mj_dec prog_3_method_21_code 200 = some (.invokevirtual 138, 3) := by decide +kernel
theorem dm_X1_gather_203 : mj_dec prog_3_method_21_code 203 = some (.return_, 1) := by decide +kernel
theorem m_gather {xt : mj_X} {f1 : Nat → Value} {d t e n : Nat} {A : Nat → Prop} {h : mj_H} {sf : Nat → Option Nat} {ix : Nat → Nat} {ch : Nat → VV} {fr stp : Int} {dp ca ou wk pl lv : Int} {nw vx vy lf rt : Value} (hx1 : xt 1 = some (.long, 0, f1)) (hd : 6 ≤ d) (hl : 127 ≤ h.length) (hA : okA A h) (h16 : h[16]? = some (mcC ((t + n : Nat) : Int) dp ca ou wk 0 pl nw vx vy .null lv lf rt)) (h32 : h[32]? = some (cA 4 8192 sf)) (hix : ∀ k, k < n → fr + (k : Int) * stp = ((ix k : Nat) : Int)) (hixb : ∀ k, k < n → ix k < 8192) (hqq : ∀ k, k < n → ∃ q, sf (ix k) = some q ∧ cv A h (e + 1) q (ch k)) {p : Nat} {od pp ov oa om ot : Int} {onm : Int64} {ovl onx oot : Value} (hp : h[p]? = some (opC od pp ov onm oa om ot ovl onx oot)) (hp2 : 127 ≤ p) (hca : -2147483648 ≤ ca ∧ ca ≤ 2147483647) (hH0 : actH h) (hwk : 0 ≤ wk ∧ wk ≤ 1000000) (hn : n ≤ 1000) (htn : t + n ≤ 8192) (ht1 : t < 8192) (hfr0 : 0 < n → fr = ((ix 0 : Nat) : Int)) (he : e + 1 ≤ 20) (hS1 : ∀ k, k < n → vsz (e + 1) (ch k) ≤ 1000) : pgN xt d 161 [.ref 16, .ref p, ii fr, ii (n : Int), ii stp] h (fun h' => mGat A h (e + 2) t n sf dp ca ou pl pp nw vx vy lv lf rt (mGo (e + 2) wk (gaV n ch)) 2 (n + 9) h') := by
  refine x_enter pm_X1_gather (L0 := [(0, .ref 16), (1, .ref p), (2, ii fr), (3, ii (n : Int)), (4, ii stp)]) rfl (Nat.le_of_ble_eq_true rfl) (by omega) ?_
  refine me0 (pc' := 1) (S' := [ii 0]) dm_X1_gather_0 rfl rfl rfl rfl ?_
  refine me1 (pc' := 3) (L' := [(5, ii 0), (0, .ref 16), (1, .ref p), (2, ii fr), (3, ii (n : Int)), (4, ii stp)]) (S' := []) dm_X1_gather_1 rfl rfl rfl rfl ?_
  refine me0 (pc' := 4) (S' := [ii 0]) dm_X1_gather_3 rfl rfl rfl rfl ?_
  refine me1 (pc' := 6) (L' := [(6, ii 0), (5, ii 0), (0, .ref 16), (1, .ref p), (2, ii fr), (3, ii (n : Int)), (4, ii stp)]) (S' := []) dm_X1_gather_4 rfl rfl rfl rfl ?_
  refine me0 (pc' := 7) (S' := [ii 0]) dm_X1_gather_6 rfl rfl rfl rfl ?_
  refine me1 (pc' := 9) (L' := [(7, ii 0), (6, ii 0), (5, ii 0), (0, .ref 16), (1, .ref p), (2, ii fr), (3, ii (n : Int)), (4, ii stp)]) (S' := []) dm_X1_gather_7 rfl rfl rfl rfl ?_
  have lp9 : ∀ (n9 : Nat) (k : Nat) (a : Nat) (b : Nat), n - k = n9 → (k ≤ n) → (a = cnB (isNb ch) k) → (b = cnB (isSg ch) k) → pgE xt (d - 1) 1 9 false (Option.none : Option Jvm.ClassFile.FieldType) (mj_dec prog_3_method_21_code) 9 [(0, .ref 16), (1, .ref p), (2, ii fr), (3, ii (n : Int)), (4, ii stp), (5, ii ((a : Nat) : Int)), (6, ii ((b : Nat) : Int)), (7, ii (k : Int))] [] h (fun r h' => r = none ∧ mGat A h (e + 2) t n sf dp ca ou pl pp nw vx vy lv lf rt (mGo (e + 2) wk (gaV n ch)) 2 (n + 9) h') := by
    intro n9
    induction n9 using Nat.strongRecOn with
    | ind n9 ih9 =>
      intro k a b hm9 hk ha hb
      have ha2 := cnB_le (isNb ch) k
      have hb2 := cnB_le (isSg ch) k
      refine me1 (pc' := 11) (L' := [(0, .ref 16), (1, .ref p), (2, ii fr), (3, ii (n : Int)), (4, ii stp), (5, ii ((a : Nat) : Int)), (6, ii ((b : Nat) : Int)), (7, ii (k : Int))]) (S' := [ii (k : Int)]) dm_X1_gather_9 rfl rfl rfl rfl ?_
      refine me1 (pc' := 12) (L' := [(0, .ref 16), (1, .ref p), (2, ii fr), (3, ii (n : Int)), (4, ii stp), (5, ii ((a : Nat) : Int)), (6, ii ((b : Nat) : Int)), (7, ii (k : Int))]) (S' := [ii (n : Int), ii (k : Int)]) dm_X1_gather_11 rfl rfl rfl rfl ?_
      refine y_2ge (a := (k : Int)) (b := (n : Int)) (t := 69) (pc' := 15) dm_X1_gather_12 rfl rfl (by omega) (fun hb1 => ?_) (fun hb1 => ?_)
      · have hkn : k = n := by omega
        rw [hkn] at ha hb ha2 hb2
        refine me1 (pc' := 70) (L' := [(0, .ref 16), (1, .ref p), (2, ii fr), (3, ii (n : Int)), (4, ii stp), (5, ii ((a : Nat) : Int)), (6, ii ((b : Nat) : Int)), (7, ii (k : Int))]) (S' := [ii (n : Int)]) dm_X1_gather_69 rfl rfl rfl rfl ?_
        refine y_1le (a := (n : Int)) (t := 89) (pc' := 73) dm_X1_gather_70 rfl rfl (by omega) (fun hb2 => ?_) (fun hb2 => ?_)
        · refine me0 (pc' := 90) (S' := [ii 0]) dm_X1_gather_89 rfl rfl rfl rfl ?_
          refine me1 (pc' := 92) (L' := [(7, ii 0), (0, .ref 16), (1, .ref p), (2, ii fr), (3, ii (n : Int)), (4, ii stp), (5, ii ((a : Nat) : Int)), (6, ii ((b : Nat) : Int))]) (S' := []) dm_X1_gather_90 rfl rfl rfl rfl ?_
          refine me1 (pc' := 93) (L' := [(7, ii 0), (0, .ref 16), (1, .ref p), (2, ii fr), (3, ii (n : Int)), (4, ii stp), (5, ii ((a : Nat) : Int)), (6, ii ((b : Nat) : Int))]) (S' := [ii (n : Int)]) dm_X1_gather_92 rfl rfl rfl rfl ?_
          refine me1 (pc' := 95) (L' := [(7, ii 0), (0, .ref 16), (1, .ref p), (2, ii fr), (3, ii (n : Int)), (4, ii stp), (5, ii ((a : Nat) : Int)), (6, ii ((b : Nat) : Int))]) (S' := [ii 0, ii (n : Int)]) dm_X1_gather_93 rfl rfl rfl rfl ?_
          refine me_1t (pc' := 103) dm_X1_gather_95 rfl (by decide) ?_
          refine me0 (pc' := 105) (S' := [ii 24, ii (n : Int)]) dm_X1_gather_103 rfl rfl rfl rfl ?_
          refine y_2le (a := (n : Int)) (b := 24) (t := 116) (pc' := 108) dm_X1_gather_105 rfl rfl (by omega) (fun hb3 => ?_) (fun hb3 => ?_)
          · refine me1 (pc' := 118) (L' := [(7, ii 0), (0, .ref 16), (1, .ref p), (2, ii fr), (3, ii (n : Int)), (4, ii stp), (5, ii ((a : Nat) : Int)), (6, ii ((b : Nat) : Int))]) (S' := [ii 0]) dm_X1_gather_116 rfl rfl rfl rfl ?_
            refine me_1t (pc' := 132) dm_X1_gather_118 rfl (by decide) ?_
            refine me1 (pc' := 133) (L' := [(7, ii 0), (0, .ref 16), (1, .ref p), (2, ii fr), (3, ii (n : Int)), (4, ii stp), (5, ii ((a : Nat) : Int)), (6, ii ((b : Nat) : Int))]) (S' := [.ref 16]) dm_X1_gather_132 rfl rfl rfl rfl ?_
            refine me1 (pc' := 134) (L' := [(7, ii 0), (0, .ref 16), (1, .ref p), (2, ii fr), (3, ii (n : Int)), (4, ii stp), (5, ii ((a : Nat) : Int)), (6, ii ((b : Nat) : Int))]) (S' := [ii fr, .ref 16]) dm_X1_gather_133 rfl rfl rfl rfl ?_
            refine me1 (pc' := 135) (L' := [(7, ii 0), (0, .ref 16), (1, .ref p), (2, ii fr), (3, ii (n : Int)), (4, ii stp), (5, ii ((a : Nat) : Int)), (6, ii ((b : Nat) : Int))]) (S' := [ii (n : Int), ii fr, .ref 16]) dm_X1_gather_134 rfl rfl rfl rfl ?_
            refine me1 (pc' := 137) (L' := [(7, ii 0), (0, .ref 16), (1, .ref p), (2, ii fr), (3, ii (n : Int)), (4, ii stp), (5, ii ((a : Nat) : Int)), (6, ii ((b : Nat) : Int))]) (S' := [ii stp, ii (n : Int), ii fr, .ref 16]) dm_X1_gather_135 rfl rfl rfl rfl ?_
            refine x_cv (pc' := 140) (rest := []) dm_X1_gather_137 rfl (g_inv (As := [ii fr, ii (n : Int), ii stp]) (S := []) h16 rfl rfl rfl (by decide)) rfl rfl rfl (m_gathV (e := e) (fr := fr) (stp := stp) (ix := ix) hx1 (by omega) hl hA h16 h32 hix hixb hqq (by omega) (by omega) hS1) ?_
            rintro x9 g hres
            have hgo : gaV n ch = .inr (vnest n ch) := (gaV_v (Or.inl (by omega)) (Or.inl (by omega)) (by omega))
            generalize (vnest n ch) = vz at hres hgo
            obtain ⟨qz, rfl⟩ := vres_ref hres
            obtain ⟨g16, g32, gp, gl1, gl2, gA, gv⟩ := vres_gt hres hl hA h16 h32 hp
            obtain ⟨hwz, ⟨hqz2, hqAz⟩, hszz, hlvz, rowz, frz, valsz, hpz, -, -, -, -⟩ := id gv
            have hqz127 := (gA qz hqAz).2
            refine me1 (pc' := 142) (L' := [(8, .ref qz), (7, ii 0), (0, .ref 16), (1, .ref p), (2, ii fr), (3, ii (n : Int)), (4, ii stp), (5, ii ((a : Nat) : Int)), (6, ii ((b : Nat) : Int))]) (S' := []) dm_X1_gather_140 rfl rfl rfl rfl ?_
            refine me1 (pc' := 144) (L' := [(8, .ref qz), (7, ii 0), (0, .ref 16), (1, .ref p), (2, ii fr), (3, ii (n : Int)), (4, ii stp), (5, ii ((a : Nat) : Int)), (6, ii ((b : Nat) : Int))]) (S' := [.ref qz]) dm_X1_gather_142 rfl rfl rfl rfl ?_
            refine me3 (pc' := 147) (S' := [ii (vsz (e + 1 + 1) vz : Int)]) dm_X1_gather_144 (g_get (v := ii (vsz (e + 1 + 1) vz : Int)) hpz rfl rfl (by omega)) rfl rfl rfl ?_
            refine me0 (pc' := 150) (S' := [ii 1000, ii (vsz (e + 1 + 1) vz : Int)]) dm_X1_gather_147 rfl rfl rfl rfl ?_
            refine y_2gt (a := (vsz (e + 1 + 1) vz : Int)) (b := 1000) (t := 162) (pc' := 153) dm_X1_gather_150 rfl rfl (by omega) (fun hb4 => ?_) (fun hb4 => ?_)
            · refine me1 (pc' := 163) (L' := [(8, .ref qz), (7, ii 0), (0, .ref 16), (1, .ref p), (2, ii fr), (3, ii (n : Int)), (4, ii stp), (5, ii ((a : Nat) : Int)), (6, ii ((b : Nat) : Int))]) (S' := [.ref 16]) dm_X1_gather_162 rfl rfl rfl rfl ?_
              refine me0 (pc' := 165) (S' := [ii 8, .ref 16]) dm_X1_gather_163 rfl rfl rfl rfl ?_
              refine me1 (pc' := 166) (L' := [(8, .ref qz), (7, ii 0), (0, .ref 16), (1, .ref p), (2, ii fr), (3, ii (n : Int)), (4, ii stp), (5, ii ((a : Nat) : Int)), (6, ii ((b : Nat) : Int))]) (S' := [.ref p, ii 8, .ref 16]) dm_X1_gather_165 rfl rfl rfl rfl ?_
              refine x_cn (pc' := 169) (rest := []) dm_X1_gather_166 rfl (g_inv (As := [ii 8, .ref p]) (S := []) g16 rfl rfl rfl (by decide)) rfl rfl rfl (m_fail (c := 8) (by omega) g16 gp hp2 hca rfl) ?_
              rintro _ rfl
              refine me2 (pc' := 203) (S' := []) dm_X1_gather_169 rfl rfl rfl ?_
              refine y_ret (r := none) dm_X1_gather_203 rfl rfl rfl ?_
              refine ⟨rfl, ?_⟩
              rw [show mGo (e + 2) wk (gaV n ch) = _ from mGo_b (D := e + 1 + 1) hgo (by omega)]
              exact mGat_e hl h16 (fun _ _ _ => rfl) hH0 h32 hres
            · refine me1 (pc' := 155) (L' := [(8, .ref qz), (7, ii 0), (0, .ref 16), (1, .ref p), (2, ii fr), (3, ii (n : Int)), (4, ii stp), (5, ii ((a : Nat) : Int)), (6, ii ((b : Nat) : Int))]) (S' := [.ref qz]) dm_X1_gather_153 rfl rfl rfl rfl ?_
              refine me3 (pc' := 158) (S' := [ii (vlv (e + 1 + 1) vz : Int)]) dm_X1_gather_155 (g_get (v := ii (vlv (e + 1 + 1) vz : Int)) hpz rfl rfl (by omega)) rfl rfl rfl ?_
              refine me0 (pc' := 159) (S' := [ii 5, ii (vlv (e + 1 + 1) vz : Int)]) dm_X1_gather_158 rfl rfl rfl rfl ?_
              refine y_2le (a := (vlv (e + 1 + 1) vz : Int)) (b := 5) (t := 172) (pc' := 162) dm_X1_gather_159 rfl rfl (by omega) (fun hb5 => ?_) (fun hb5 => ?_)
              · refine me1 (pc' := 173) (L' := [(8, .ref qz), (7, ii 0), (0, .ref 16), (1, .ref p), (2, ii fr), (3, ii (n : Int)), (4, ii stp), (5, ii ((a : Nat) : Int)), (6, ii ((b : Nat) : Int))]) (S' := [.ref 16]) dm_X1_gather_172 rfl rfl rfl rfl ?_
                refine me0 (pc' := 174) (S' := [ii 3, .ref 16]) dm_X1_gather_173 rfl rfl rfl rfl ?_
                refine me1 (pc' := 176) (L' := [(8, .ref qz), (7, ii 0), (0, .ref 16), (1, .ref p), (2, ii fr), (3, ii (n : Int)), (4, ii stp), (5, ii ((a : Nat) : Int)), (6, ii ((b : Nat) : Int))]) (S' := [.ref qz, ii 3, .ref 16]) dm_X1_gather_174 rfl rfl rfl rfl ?_
                refine me3 (pc' := 179) (S' := [ii (vsz (e + 1 + 1) vz : Int), ii 3, .ref 16]) dm_X1_gather_176 (g_get (v := ii (vsz (e + 1 + 1) vz : Int)) hpz rfl rfl (by omega)) rfl rfl rfl ?_
                refine y_iadd (a := 3) (b := (vsz (e + 1 + 1) vz : Int)) dm_X1_gather_179 (pc' := 180) rfl ?_
                refine me1 (pc' := 181) (L' := [(8, .ref qz), (7, ii 0), (0, .ref 16), (1, .ref p), (2, ii fr), (3, ii (n : Int)), (4, ii stp), (5, ii ((a : Nat) : Int)), (6, ii ((b : Nat) : Int))]) (S' := [.ref p, ii (3 + (vsz (e + 1 + 1) vz : Int)), .ref 16]) dm_X1_gather_180 rfl rfl rfl rfl ?_
                by_cases hW : wk < 3 + (vsz (e + 1 + 1) vz : Int)
                · refine x_cv (pc' := 184) (rest := []) dm_X1_gather_181 rfl (g_inv (As := [ii (3 + (vsz (e + 1 + 1) vz : Int)), .ref p]) (S := []) g16 rfl rfl rfl (by decide)) rfl rfl rfl (m_takeF (n := 3 + (vsz (e + 1 + 1) vz : Int)) (by omega) g16 gp hp2 hca (by omega) hwk hW rfl) ?_
                  rintro _ _ ⟨rfl, rfl⟩
                  refine me_1t (pc' := 203) dm_X1_gather_184 rfl (by decide) ?_
                  refine y_ret (r := none) dm_X1_gather_203 rfl rfl rfl ?_
                  refine ⟨rfl, ?_⟩
                  rw [show mGo (e + 2) wk (gaV n ch) = _ from mGo_w (D := e + 1 + 1) hgo (by omega) hW]
                  exact mGat_e hl h16 (fun _ _ _ => rfl) hH0 h32 hres
                · refine x_cv (pc' := 184) (rest := []) dm_X1_gather_181 rfl (g_inv (As := [ii (3 + (vsz (e + 1 + 1) vz : Int)), .ref p]) (S := []) g16 rfl rfl rfl (by decide)) rfl rfl rfl (m_takeT (n := 3 + (vsz (e + 1 + 1) vz : Int)) (by omega) g16 gp hp2 hca (by omega) hwk (by omega) rfl) ?_
                  rintro _ _ ⟨rfl, rfl⟩
                  refine me_1f (pc' := 187) dm_X1_gather_184 rfl (by decide) rfl ?_
                  refine me1 (pc' := 188) (L' := [(8, .ref qz), (7, ii 0), (0, .ref 16), (1, .ref p), (2, ii fr), (3, ii (n : Int)), (4, ii stp), (5, ii ((a : Nat) : Int)), (6, ii ((b : Nat) : Int))]) (S' := [.ref 16]) dm_X1_gather_187 rfl rfl rfl rfl ?_
                  refine me0 (pc' := 189) (S' := [.ref 16, .ref 16]) dm_X1_gather_188 rfl rfl rfl rfl ?_
                  refine me3 (pc' := 192) (S' := [ii ((t + n : Nat) : Int), .ref 16]) dm_X1_gather_189 (g_get (v := ii ((t + n : Nat) : Int)) (hl_set (hl_lt g16)) rfl rfl (by decide)) rfl rfl rfl ?_
                  refine me1 (pc' := 193) (L' := [(8, .ref qz), (7, ii 0), (0, .ref 16), (1, .ref p), (2, ii fr), (3, ii (n : Int)), (4, ii stp), (5, ii ((a : Nat) : Int)), (6, ii ((b : Nat) : Int))]) (S' := [ii (n : Int), ii ((t + n : Nat) : Int), .ref 16]) dm_X1_gather_192 rfl rfl rfl rfl ?_
                  refine y_isub (a := ((t + n : Nat) : Int)) (b := (n : Int)) dm_X1_gather_193 (pc' := 194) rfl ?_
                  refine pg_st (S' := [ii ((t : Nat) : Int), .ref 16]) (congrArg (fun z => ii z :: [.ref 16]) (by omega)) ?_
                  refine me3 (pc' := 197) (S' := []) (h1 := (g).set 16 (cO 1 [.ref 4, .ref 17, .ref 26, .ref 32, ii ((t : Nat) : Int), .ref 33, ii dp, ii ca, ii ou, ii (wk - (3 + (vsz (e + 1 + 1) vz : Int))), ii 0, ii pl, nw, vx, vy, .null, ii lv, lf, rt])) dm_X1_gather_194 (g_put (fs' := [.ref 4, .ref 17, .ref 26, .ref 32, ii ((t : Nat) : Int), .ref 33, ii dp, ii ca, ii ou, ii (wk - (3 + (vsz (e + 1 + 1) vz : Int))), ii 0, ii pl, nw, vx, vy, .null, ii lv, lf, rt]) (hl_set (hl_lt g16)) rfl (by rw [List.set_set]) rfl (by simp) rfl (by decide) (fun z => by cases z) (by decide)) rfl rfl rfl ?_
                  refine me1 (pc' := 198) (L' := [(8, .ref qz), (7, ii 0), (0, .ref 16), (1, .ref p), (2, ii fr), (3, ii (n : Int)), (4, ii stp), (5, ii ((a : Nat) : Int)), (6, ii ((b : Nat) : Int))]) (S' := [.ref 16]) dm_X1_gather_197 rfl rfl rfl rfl ?_
                  refine me1 (pc' := 200) (L' := [(8, .ref qz), (7, ii 0), (0, .ref 16), (1, .ref p), (2, ii fr), (3, ii (n : Int)), (4, ii stp), (5, ii ((a : Nat) : Int)), (6, ii ((b : Nat) : Int))]) (S' := [.ref qz, .ref 16]) dm_X1_gather_198 rfl rfl rfl rfl ?_
                  refine x_cn (pc' := 203) (rest := []) dm_X1_gather_200 rfl (g_inv (As := [.ref qz]) (S := []) (hl_set (hl_lt g16)) rfl rfl rfl (by decide)) rfl rfl rfl (m_push (t := t) (by omega) (hl_ne (by omega) hpz) (by omega) (hl_set (hl_lt g16)) (hl_ne (by decide) g32) (by omega) rfl) ?_
                  rintro _ rfl
                  refine y_ret (r := none) dm_X1_gather_203 rfl rfl rfl ?_
                  refine ⟨rfl, ?_⟩
                  rw [show mGo (e + 2) wk (gaV n ch) = _ from mGo_v (D := e + 1 + 1) hgo (by omega) hW, List.set_comm _ _ (show (16 : Nat) ≠ 32 by decide), List.set_set]
                  exact mGat_v hl hA h16 (fun _ _ => rfl) hH0 h32 hres
              · refine me1 (pc' := 163) (L' := [(8, .ref qz), (7, ii 0), (0, .ref 16), (1, .ref p), (2, ii fr), (3, ii (n : Int)), (4, ii stp), (5, ii ((a : Nat) : Int)), (6, ii ((b : Nat) : Int))]) (S' := [.ref 16]) dm_X1_gather_162 rfl rfl rfl rfl ?_
                refine me0 (pc' := 165) (S' := [ii 8, .ref 16]) dm_X1_gather_163 rfl rfl rfl rfl ?_
                refine me1 (pc' := 166) (L' := [(8, .ref qz), (7, ii 0), (0, .ref 16), (1, .ref p), (2, ii fr), (3, ii (n : Int)), (4, ii stp), (5, ii ((a : Nat) : Int)), (6, ii ((b : Nat) : Int))]) (S' := [.ref p, ii 8, .ref 16]) dm_X1_gather_165 rfl rfl rfl rfl ?_
                refine x_cn (pc' := 169) (rest := []) dm_X1_gather_166 rfl (g_inv (As := [ii 8, .ref p]) (S := []) g16 rfl rfl rfl (by decide)) rfl rfl rfl (m_fail (c := 8) (by omega) g16 gp hp2 hca rfl) ?_
                rintro _ rfl
                refine me2 (pc' := 203) (S' := []) dm_X1_gather_169 rfl rfl rfl ?_
                refine y_ret (r := none) dm_X1_gather_203 rfl rfl rfl ?_
                refine ⟨rfl, ?_⟩
                rw [show mGo (e + 2) wk (gaV n ch) = _ from mGo_b (D := e + 1 + 1) hgo (by omega)]
                exact mGat_e hl h16 (fun _ _ _ => rfl) hH0 h32 hres
          · refine me1 (pc' := 109) (L' := [(7, ii 0), (0, .ref 16), (1, .ref p), (2, ii fr), (3, ii (n : Int)), (4, ii stp), (5, ii ((a : Nat) : Int)), (6, ii ((b : Nat) : Int))]) (S' := [.ref 16]) dm_X1_gather_108 rfl rfl rfl rfl ?_
            refine me0 (pc' := 111) (S' := [ii 8, .ref 16]) dm_X1_gather_109 rfl rfl rfl rfl ?_
            refine me1 (pc' := 112) (L' := [(7, ii 0), (0, .ref 16), (1, .ref p), (2, ii fr), (3, ii (n : Int)), (4, ii stp), (5, ii ((a : Nat) : Int)), (6, ii ((b : Nat) : Int))]) (S' := [.ref p, ii 8, .ref 16]) dm_X1_gather_111 rfl rfl rfl rfl ?_
            refine x_cn (pc' := 115) (rest := []) dm_X1_gather_112 rfl (g_inv (As := [ii 8, .ref p]) (S := []) h16 rfl rfl rfl (by decide)) rfl rfl rfl (m_fail (c := 8) (by omega) h16 hp hp2 hca rfl) ?_
            rintro _ rfl
            refine y_ret (r := none) dm_X1_gather_115 rfl rfl rfl ?_
            exfalso; omega
        · refine me1 (pc' := 75) (L' := [(0, .ref 16), (1, .ref p), (2, ii fr), (3, ii (n : Int)), (4, ii stp), (5, ii ((a : Nat) : Int)), (6, ii ((b : Nat) : Int)), (7, ii (k : Int))]) (S' := [ii ((a : Nat) : Int)]) dm_X1_gather_73 rfl rfl rfl rfl ?_
          refine me1 (pc' := 76) (L' := [(0, .ref 16), (1, .ref p), (2, ii fr), (3, ii (n : Int)), (4, ii stp), (5, ii ((a : Nat) : Int)), (6, ii ((b : Nat) : Int)), (7, ii (k : Int))]) (S' := [ii (n : Int), ii ((a : Nat) : Int)]) dm_X1_gather_75 rfl rfl rfl rfl ?_
          refine y_2eq (a := ((a : Nat) : Int)) (b := (n : Int)) (t := 85) (pc' := 79) dm_X1_gather_76 rfl rfl (by omega) (fun hb6 => ?_) (fun hb6 => ?_)
          · refine me0 (pc' := 86) (S' := [ii 1]) dm_X1_gather_85 rfl rfl rfl rfl ?_
            refine me2 (pc' := 90) (S' := [ii 1]) dm_X1_gather_86 rfl rfl rfl ?_
            refine me1 (pc' := 92) (L' := [(7, ii 1), (0, .ref 16), (1, .ref p), (2, ii fr), (3, ii (n : Int)), (4, ii stp), (5, ii ((a : Nat) : Int)), (6, ii ((b : Nat) : Int))]) (S' := []) dm_X1_gather_90 rfl rfl rfl rfl ?_
            refine me1 (pc' := 93) (L' := [(7, ii 1), (0, .ref 16), (1, .ref p), (2, ii fr), (3, ii (n : Int)), (4, ii stp), (5, ii ((a : Nat) : Int)), (6, ii ((b : Nat) : Int))]) (S' := [ii (n : Int)]) dm_X1_gather_92 rfl rfl rfl rfl ?_
            refine me1 (pc' := 95) (L' := [(7, ii 1), (0, .ref 16), (1, .ref p), (2, ii fr), (3, ii (n : Int)), (4, ii stp), (5, ii ((a : Nat) : Int)), (6, ii ((b : Nat) : Int))]) (S' := [ii 1, ii (n : Int)]) dm_X1_gather_93 rfl rfl rfl rfl ?_
            refine me_1f (pc' := 98) dm_X1_gather_95 rfl (by decide) rfl ?_
            refine me0 (pc' := 100) (S' := [ii 120, ii (n : Int)]) dm_X1_gather_98 rfl rfl rfl rfl ?_
            refine me2 (pc' := 105) (S' := [ii 120, ii (n : Int)]) dm_X1_gather_100 rfl rfl rfl ?_
            refine y_2le (a := (n : Int)) (b := 120) (t := 116) (pc' := 108) dm_X1_gather_105 rfl rfl (by omega) (fun hb7 => ?_) (fun hb7 => ?_)
            · refine me1 (pc' := 118) (L' := [(7, ii 1), (0, .ref 16), (1, .ref p), (2, ii fr), (3, ii (n : Int)), (4, ii stp), (5, ii ((a : Nat) : Int)), (6, ii ((b : Nat) : Int))]) (S' := [ii 1]) dm_X1_gather_116 rfl rfl rfl rfl ?_
              refine me_1f (pc' := 121) dm_X1_gather_118 rfl (by decide) rfl ?_
              refine me1 (pc' := 122) (L' := [(7, ii 1), (0, .ref 16), (1, .ref p), (2, ii fr), (3, ii (n : Int)), (4, ii stp), (5, ii ((a : Nat) : Int)), (6, ii ((b : Nat) : Int))]) (S' := [.ref 16]) dm_X1_gather_121 rfl rfl rfl rfl ?_
              refine me1 (pc' := 123) (L' := [(7, ii 1), (0, .ref 16), (1, .ref p), (2, ii fr), (3, ii (n : Int)), (4, ii stp), (5, ii ((a : Nat) : Int)), (6, ii ((b : Nat) : Int))]) (S' := [ii fr, .ref 16]) dm_X1_gather_122 rfl rfl rfl rfl ?_
              refine me1 (pc' := 124) (L' := [(7, ii 1), (0, .ref 16), (1, .ref p), (2, ii fr), (3, ii (n : Int)), (4, ii stp), (5, ii ((a : Nat) : Int)), (6, ii ((b : Nat) : Int))]) (S' := [ii (n : Int), ii fr, .ref 16]) dm_X1_gather_123 rfl rfl rfl rfl ?_
              refine me1 (pc' := 126) (L' := [(7, ii 1), (0, .ref 16), (1, .ref p), (2, ii fr), (3, ii (n : Int)), (4, ii stp), (5, ii ((a : Nat) : Int)), (6, ii ((b : Nat) : Int))]) (S' := [ii stp, ii (n : Int), ii fr, .ref 16]) dm_X1_gather_124 rfl rfl rfl rfl ?_
              refine x_cv (pc' := 129) (rest := []) dm_X1_gather_126 rfl (g_inv (As := [ii fr, ii (n : Int), ii stp]) (S := []) h16 rfl rfl rfl (by decide)) rfl rfl rfl (m_gathN (e := e + 1) (fr := fr) (stp := stp) (ix := ix) hx1 (by omega) hl hA h16 h32 hix hixb (fun k hk => by obtain ⟨q, q1, q2⟩ := hqq k hk; exact ⟨q, q1, cv_up q2⟩) (by omega) (by omega) (hfr0 (by omega)) (isNb_all (by omega))) ?_
              rintro x9 g hres
              have hgo : gaV n ch = .inr (vrow (vform n (fun k => vn (ch k) 0)) n (fun k => vn (ch k) 0)) := (gaV_n (by omega) (by omega) (by omega))
              generalize (vrow (vform n (fun k => vn (ch k) 0)) n (fun k => vn (ch k) 0)) = vz at hres hgo
              obtain ⟨qz, rfl⟩ := vres_ref hres
              obtain ⟨g16, g32, gp, gl1, gl2, gA, gv⟩ := vres_gt hres hl hA h16 h32 hp
              obtain ⟨hwz, ⟨hqz2, hqAz⟩, hszz, hlvz, rowz, frz, valsz, hpz, -, -, -, -⟩ := id gv
              have hqz127 := (gA qz hqAz).2
              refine me2 (pc' := 140) (S' := [.ref qz]) dm_X1_gather_129 rfl rfl rfl ?_
              refine me1 (pc' := 142) (L' := [(8, .ref qz), (7, ii 1), (0, .ref 16), (1, .ref p), (2, ii fr), (3, ii (n : Int)), (4, ii stp), (5, ii ((a : Nat) : Int)), (6, ii ((b : Nat) : Int))]) (S' := []) dm_X1_gather_140 rfl rfl rfl rfl ?_
              refine me1 (pc' := 144) (L' := [(8, .ref qz), (7, ii 1), (0, .ref 16), (1, .ref p), (2, ii fr), (3, ii (n : Int)), (4, ii stp), (5, ii ((a : Nat) : Int)), (6, ii ((b : Nat) : Int))]) (S' := [.ref qz]) dm_X1_gather_142 rfl rfl rfl rfl ?_
              refine me3 (pc' := 147) (S' := [ii (vsz (e + 1 + 1) vz : Int)]) dm_X1_gather_144 (g_get (v := ii (vsz (e + 1 + 1) vz : Int)) hpz rfl rfl (by omega)) rfl rfl rfl ?_
              refine me0 (pc' := 150) (S' := [ii 1000, ii (vsz (e + 1 + 1) vz : Int)]) dm_X1_gather_147 rfl rfl rfl rfl ?_
              refine y_2gt (a := (vsz (e + 1 + 1) vz : Int)) (b := 1000) (t := 162) (pc' := 153) dm_X1_gather_150 rfl rfl (by omega) (fun hb8 => ?_) (fun hb8 => ?_)
              · refine me1 (pc' := 163) (L' := [(8, .ref qz), (7, ii 1), (0, .ref 16), (1, .ref p), (2, ii fr), (3, ii (n : Int)), (4, ii stp), (5, ii ((a : Nat) : Int)), (6, ii ((b : Nat) : Int))]) (S' := [.ref 16]) dm_X1_gather_162 rfl rfl rfl rfl ?_
                refine me0 (pc' := 165) (S' := [ii 8, .ref 16]) dm_X1_gather_163 rfl rfl rfl rfl ?_
                refine me1 (pc' := 166) (L' := [(8, .ref qz), (7, ii 1), (0, .ref 16), (1, .ref p), (2, ii fr), (3, ii (n : Int)), (4, ii stp), (5, ii ((a : Nat) : Int)), (6, ii ((b : Nat) : Int))]) (S' := [.ref p, ii 8, .ref 16]) dm_X1_gather_165 rfl rfl rfl rfl ?_
                refine x_cn (pc' := 169) (rest := []) dm_X1_gather_166 rfl (g_inv (As := [ii 8, .ref p]) (S := []) g16 rfl rfl rfl (by decide)) rfl rfl rfl (m_fail (c := 8) (by omega) g16 gp hp2 hca rfl) ?_
                rintro _ rfl
                refine me2 (pc' := 203) (S' := []) dm_X1_gather_169 rfl rfl rfl ?_
                refine y_ret (r := none) dm_X1_gather_203 rfl rfl rfl ?_
                refine ⟨rfl, ?_⟩
                rw [show mGo (e + 2) wk (gaV n ch) = _ from mGo_b (D := e + 1 + 1) hgo (by omega)]
                exact mGat_e hl h16 (fun _ _ _ => rfl) hH0 h32 hres
              · refine me1 (pc' := 155) (L' := [(8, .ref qz), (7, ii 1), (0, .ref 16), (1, .ref p), (2, ii fr), (3, ii (n : Int)), (4, ii stp), (5, ii ((a : Nat) : Int)), (6, ii ((b : Nat) : Int))]) (S' := [.ref qz]) dm_X1_gather_153 rfl rfl rfl rfl ?_
                refine me3 (pc' := 158) (S' := [ii (vlv (e + 1 + 1) vz : Int)]) dm_X1_gather_155 (g_get (v := ii (vlv (e + 1 + 1) vz : Int)) hpz rfl rfl (by omega)) rfl rfl rfl ?_
                refine me0 (pc' := 159) (S' := [ii 5, ii (vlv (e + 1 + 1) vz : Int)]) dm_X1_gather_158 rfl rfl rfl rfl ?_
                refine y_2le (a := (vlv (e + 1 + 1) vz : Int)) (b := 5) (t := 172) (pc' := 162) dm_X1_gather_159 rfl rfl (by omega) (fun hb9 => ?_) (fun hb9 => ?_)
                · refine me1 (pc' := 173) (L' := [(8, .ref qz), (7, ii 1), (0, .ref 16), (1, .ref p), (2, ii fr), (3, ii (n : Int)), (4, ii stp), (5, ii ((a : Nat) : Int)), (6, ii ((b : Nat) : Int))]) (S' := [.ref 16]) dm_X1_gather_172 rfl rfl rfl rfl ?_
                  refine me0 (pc' := 174) (S' := [ii 3, .ref 16]) dm_X1_gather_173 rfl rfl rfl rfl ?_
                  refine me1 (pc' := 176) (L' := [(8, .ref qz), (7, ii 1), (0, .ref 16), (1, .ref p), (2, ii fr), (3, ii (n : Int)), (4, ii stp), (5, ii ((a : Nat) : Int)), (6, ii ((b : Nat) : Int))]) (S' := [.ref qz, ii 3, .ref 16]) dm_X1_gather_174 rfl rfl rfl rfl ?_
                  refine me3 (pc' := 179) (S' := [ii (vsz (e + 1 + 1) vz : Int), ii 3, .ref 16]) dm_X1_gather_176 (g_get (v := ii (vsz (e + 1 + 1) vz : Int)) hpz rfl rfl (by omega)) rfl rfl rfl ?_
                  refine y_iadd (a := 3) (b := (vsz (e + 1 + 1) vz : Int)) dm_X1_gather_179 (pc' := 180) rfl ?_
                  refine me1 (pc' := 181) (L' := [(8, .ref qz), (7, ii 1), (0, .ref 16), (1, .ref p), (2, ii fr), (3, ii (n : Int)), (4, ii stp), (5, ii ((a : Nat) : Int)), (6, ii ((b : Nat) : Int))]) (S' := [.ref p, ii (3 + (vsz (e + 1 + 1) vz : Int)), .ref 16]) dm_X1_gather_180 rfl rfl rfl rfl ?_
                  by_cases hW : wk < 3 + (vsz (e + 1 + 1) vz : Int)
                  · refine x_cv (pc' := 184) (rest := []) dm_X1_gather_181 rfl (g_inv (As := [ii (3 + (vsz (e + 1 + 1) vz : Int)), .ref p]) (S := []) g16 rfl rfl rfl (by decide)) rfl rfl rfl (m_takeF (n := 3 + (vsz (e + 1 + 1) vz : Int)) (by omega) g16 gp hp2 hca (by omega) hwk hW rfl) ?_
                    rintro _ _ ⟨rfl, rfl⟩
                    refine me_1t (pc' := 203) dm_X1_gather_184 rfl (by decide) ?_
                    refine y_ret (r := none) dm_X1_gather_203 rfl rfl rfl ?_
                    refine ⟨rfl, ?_⟩
                    rw [show mGo (e + 2) wk (gaV n ch) = _ from mGo_w (D := e + 1 + 1) hgo (by omega) hW]
                    exact mGat_e hl h16 (fun _ _ _ => rfl) hH0 h32 hres
                  · refine x_cv (pc' := 184) (rest := []) dm_X1_gather_181 rfl (g_inv (As := [ii (3 + (vsz (e + 1 + 1) vz : Int)), .ref p]) (S := []) g16 rfl rfl rfl (by decide)) rfl rfl rfl (m_takeT (n := 3 + (vsz (e + 1 + 1) vz : Int)) (by omega) g16 gp hp2 hca (by omega) hwk (by omega) rfl) ?_
                    rintro _ _ ⟨rfl, rfl⟩
                    refine me_1f (pc' := 187) dm_X1_gather_184 rfl (by decide) rfl ?_
                    refine me1 (pc' := 188) (L' := [(8, .ref qz), (7, ii 1), (0, .ref 16), (1, .ref p), (2, ii fr), (3, ii (n : Int)), (4, ii stp), (5, ii ((a : Nat) : Int)), (6, ii ((b : Nat) : Int))]) (S' := [.ref 16]) dm_X1_gather_187 rfl rfl rfl rfl ?_
                    refine me0 (pc' := 189) (S' := [.ref 16, .ref 16]) dm_X1_gather_188 rfl rfl rfl rfl ?_
                    refine me3 (pc' := 192) (S' := [ii ((t + n : Nat) : Int), .ref 16]) dm_X1_gather_189 (g_get (v := ii ((t + n : Nat) : Int)) (hl_set (hl_lt g16)) rfl rfl (by decide)) rfl rfl rfl ?_
                    refine me1 (pc' := 193) (L' := [(8, .ref qz), (7, ii 1), (0, .ref 16), (1, .ref p), (2, ii fr), (3, ii (n : Int)), (4, ii stp), (5, ii ((a : Nat) : Int)), (6, ii ((b : Nat) : Int))]) (S' := [ii (n : Int), ii ((t + n : Nat) : Int), .ref 16]) dm_X1_gather_192 rfl rfl rfl rfl ?_
                    refine y_isub (a := ((t + n : Nat) : Int)) (b := (n : Int)) dm_X1_gather_193 (pc' := 194) rfl ?_
                    refine pg_st (S' := [ii ((t : Nat) : Int), .ref 16]) (congrArg (fun z => ii z :: [.ref 16]) (by omega)) ?_
                    refine me3 (pc' := 197) (S' := []) (h1 := (g).set 16 (cO 1 [.ref 4, .ref 17, .ref 26, .ref 32, ii ((t : Nat) : Int), .ref 33, ii dp, ii ca, ii ou, ii (wk - (3 + (vsz (e + 1 + 1) vz : Int))), ii 0, ii pl, nw, vx, vy, .null, ii lv, lf, rt])) dm_X1_gather_194 (g_put (fs' := [.ref 4, .ref 17, .ref 26, .ref 32, ii ((t : Nat) : Int), .ref 33, ii dp, ii ca, ii ou, ii (wk - (3 + (vsz (e + 1 + 1) vz : Int))), ii 0, ii pl, nw, vx, vy, .null, ii lv, lf, rt]) (hl_set (hl_lt g16)) rfl (by rw [List.set_set]) rfl (by simp) rfl (by decide) (fun z => by cases z) (by decide)) rfl rfl rfl ?_
                    refine me1 (pc' := 198) (L' := [(8, .ref qz), (7, ii 1), (0, .ref 16), (1, .ref p), (2, ii fr), (3, ii (n : Int)), (4, ii stp), (5, ii ((a : Nat) : Int)), (6, ii ((b : Nat) : Int))]) (S' := [.ref 16]) dm_X1_gather_197 rfl rfl rfl rfl ?_
                    refine me1 (pc' := 200) (L' := [(8, .ref qz), (7, ii 1), (0, .ref 16), (1, .ref p), (2, ii fr), (3, ii (n : Int)), (4, ii stp), (5, ii ((a : Nat) : Int)), (6, ii ((b : Nat) : Int))]) (S' := [.ref qz, .ref 16]) dm_X1_gather_198 rfl rfl rfl rfl ?_
                    refine x_cn (pc' := 203) (rest := []) dm_X1_gather_200 rfl (g_inv (As := [.ref qz]) (S := []) (hl_set (hl_lt g16)) rfl rfl rfl (by decide)) rfl rfl rfl (m_push (t := t) (by omega) (hl_ne (by omega) hpz) (by omega) (hl_set (hl_lt g16)) (hl_ne (by decide) g32) (by omega) rfl) ?_
                    rintro _ rfl
                    refine y_ret (r := none) dm_X1_gather_203 rfl rfl rfl ?_
                    refine ⟨rfl, ?_⟩
                    rw [show mGo (e + 2) wk (gaV n ch) = _ from mGo_v (D := e + 1 + 1) hgo (by omega) hW, List.set_comm _ _ (show (16 : Nat) ≠ 32 by decide), List.set_set]
                    exact mGat_v hl hA h16 (fun _ _ => rfl) hH0 h32 hres
                · refine me1 (pc' := 163) (L' := [(8, .ref qz), (7, ii 1), (0, .ref 16), (1, .ref p), (2, ii fr), (3, ii (n : Int)), (4, ii stp), (5, ii ((a : Nat) : Int)), (6, ii ((b : Nat) : Int))]) (S' := [.ref 16]) dm_X1_gather_162 rfl rfl rfl rfl ?_
                  refine me0 (pc' := 165) (S' := [ii 8, .ref 16]) dm_X1_gather_163 rfl rfl rfl rfl ?_
                  refine me1 (pc' := 166) (L' := [(8, .ref qz), (7, ii 1), (0, .ref 16), (1, .ref p), (2, ii fr), (3, ii (n : Int)), (4, ii stp), (5, ii ((a : Nat) : Int)), (6, ii ((b : Nat) : Int))]) (S' := [.ref p, ii 8, .ref 16]) dm_X1_gather_165 rfl rfl rfl rfl ?_
                  refine x_cn (pc' := 169) (rest := []) dm_X1_gather_166 rfl (g_inv (As := [ii 8, .ref p]) (S := []) g16 rfl rfl rfl (by decide)) rfl rfl rfl (m_fail (c := 8) (by omega) g16 gp hp2 hca rfl) ?_
                  rintro _ rfl
                  refine me2 (pc' := 203) (S' := []) dm_X1_gather_169 rfl rfl rfl ?_
                  refine y_ret (r := none) dm_X1_gather_203 rfl rfl rfl ?_
                  refine ⟨rfl, ?_⟩
                  rw [show mGo (e + 2) wk (gaV n ch) = _ from mGo_b (D := e + 1 + 1) hgo (by omega)]
                  exact mGat_e hl h16 (fun _ _ _ => rfl) hH0 h32 hres
            · refine me1 (pc' := 109) (L' := [(7, ii 1), (0, .ref 16), (1, .ref p), (2, ii fr), (3, ii (n : Int)), (4, ii stp), (5, ii ((a : Nat) : Int)), (6, ii ((b : Nat) : Int))]) (S' := [.ref 16]) dm_X1_gather_108 rfl rfl rfl rfl ?_
              refine me0 (pc' := 111) (S' := [ii 8, .ref 16]) dm_X1_gather_109 rfl rfl rfl rfl ?_
              refine me1 (pc' := 112) (L' := [(7, ii 1), (0, .ref 16), (1, .ref p), (2, ii fr), (3, ii (n : Int)), (4, ii stp), (5, ii ((a : Nat) : Int)), (6, ii ((b : Nat) : Int))]) (S' := [.ref p, ii 8, .ref 16]) dm_X1_gather_111 rfl rfl rfl rfl ?_
              refine x_cn (pc' := 115) (rest := []) dm_X1_gather_112 rfl (g_inv (As := [ii 8, .ref p]) (S := []) h16 rfl rfl rfl (by decide)) rfl rfl rfl (m_fail (c := 8) (by omega) h16 hp hp2 hca rfl) ?_
              rintro _ rfl
              refine y_ret (r := none) dm_X1_gather_115 rfl rfl rfl ?_
              refine ⟨rfl, ?_⟩
              rw [mGo_f (show gaV n ch = .inl 8 from (gaV_n8 (by omega) (by omega) (by omega)))]
              exact mGat_0 hl h16 (fun _ _ _ => rfl) hH0 h32
          · refine me1 (pc' := 81) (L' := [(0, .ref 16), (1, .ref p), (2, ii fr), (3, ii (n : Int)), (4, ii stp), (5, ii ((a : Nat) : Int)), (6, ii ((b : Nat) : Int)), (7, ii (k : Int))]) (S' := [ii ((b : Nat) : Int)]) dm_X1_gather_79 rfl rfl rfl rfl ?_
            refine me1 (pc' := 82) (L' := [(0, .ref 16), (1, .ref p), (2, ii fr), (3, ii (n : Int)), (4, ii stp), (5, ii ((a : Nat) : Int)), (6, ii ((b : Nat) : Int)), (7, ii (k : Int))]) (S' := [ii (n : Int), ii ((b : Nat) : Int)]) dm_X1_gather_81 rfl rfl rfl rfl ?_
            refine y_2ne (a := ((b : Nat) : Int)) (b := (n : Int)) (t := 89) (pc' := 85) dm_X1_gather_82 rfl rfl (by omega) (fun hb10 => ?_) (fun hb10 => ?_)
            · refine me0 (pc' := 90) (S' := [ii 0]) dm_X1_gather_89 rfl rfl rfl rfl ?_
              refine me1 (pc' := 92) (L' := [(7, ii 0), (0, .ref 16), (1, .ref p), (2, ii fr), (3, ii (n : Int)), (4, ii stp), (5, ii ((a : Nat) : Int)), (6, ii ((b : Nat) : Int))]) (S' := []) dm_X1_gather_90 rfl rfl rfl rfl ?_
              refine me1 (pc' := 93) (L' := [(7, ii 0), (0, .ref 16), (1, .ref p), (2, ii fr), (3, ii (n : Int)), (4, ii stp), (5, ii ((a : Nat) : Int)), (6, ii ((b : Nat) : Int))]) (S' := [ii (n : Int)]) dm_X1_gather_92 rfl rfl rfl rfl ?_
              refine me1 (pc' := 95) (L' := [(7, ii 0), (0, .ref 16), (1, .ref p), (2, ii fr), (3, ii (n : Int)), (4, ii stp), (5, ii ((a : Nat) : Int)), (6, ii ((b : Nat) : Int))]) (S' := [ii 0, ii (n : Int)]) dm_X1_gather_93 rfl rfl rfl rfl ?_
              refine me_1t (pc' := 103) dm_X1_gather_95 rfl (by decide) ?_
              refine me0 (pc' := 105) (S' := [ii 24, ii (n : Int)]) dm_X1_gather_103 rfl rfl rfl rfl ?_
              refine y_2le (a := (n : Int)) (b := 24) (t := 116) (pc' := 108) dm_X1_gather_105 rfl rfl (by omega) (fun hb11 => ?_) (fun hb11 => ?_)
              · refine me1 (pc' := 118) (L' := [(7, ii 0), (0, .ref 16), (1, .ref p), (2, ii fr), (3, ii (n : Int)), (4, ii stp), (5, ii ((a : Nat) : Int)), (6, ii ((b : Nat) : Int))]) (S' := [ii 0]) dm_X1_gather_116 rfl rfl rfl rfl ?_
                refine me_1t (pc' := 132) dm_X1_gather_118 rfl (by decide) ?_
                refine me1 (pc' := 133) (L' := [(7, ii 0), (0, .ref 16), (1, .ref p), (2, ii fr), (3, ii (n : Int)), (4, ii stp), (5, ii ((a : Nat) : Int)), (6, ii ((b : Nat) : Int))]) (S' := [.ref 16]) dm_X1_gather_132 rfl rfl rfl rfl ?_
                refine me1 (pc' := 134) (L' := [(7, ii 0), (0, .ref 16), (1, .ref p), (2, ii fr), (3, ii (n : Int)), (4, ii stp), (5, ii ((a : Nat) : Int)), (6, ii ((b : Nat) : Int))]) (S' := [ii fr, .ref 16]) dm_X1_gather_133 rfl rfl rfl rfl ?_
                refine me1 (pc' := 135) (L' := [(7, ii 0), (0, .ref 16), (1, .ref p), (2, ii fr), (3, ii (n : Int)), (4, ii stp), (5, ii ((a : Nat) : Int)), (6, ii ((b : Nat) : Int))]) (S' := [ii (n : Int), ii fr, .ref 16]) dm_X1_gather_134 rfl rfl rfl rfl ?_
                refine me1 (pc' := 137) (L' := [(7, ii 0), (0, .ref 16), (1, .ref p), (2, ii fr), (3, ii (n : Int)), (4, ii stp), (5, ii ((a : Nat) : Int)), (6, ii ((b : Nat) : Int))]) (S' := [ii stp, ii (n : Int), ii fr, .ref 16]) dm_X1_gather_135 rfl rfl rfl rfl ?_
                refine x_cv (pc' := 140) (rest := []) dm_X1_gather_137 rfl (g_inv (As := [ii fr, ii (n : Int), ii stp]) (S := []) h16 rfl rfl rfl (by decide)) rfl rfl rfl (m_gathV (e := e) (fr := fr) (stp := stp) (ix := ix) hx1 (by omega) hl hA h16 h32 hix hixb hqq (by omega) (by omega) hS1) ?_
                rintro x9 g hres
                have hgo : gaV n ch = .inr (vnest n ch) := (gaV_v (Or.inr (by omega)) (Or.inr (by omega)) (by omega))
                generalize (vnest n ch) = vz at hres hgo
                obtain ⟨qz, rfl⟩ := vres_ref hres
                obtain ⟨g16, g32, gp, gl1, gl2, gA, gv⟩ := vres_gt hres hl hA h16 h32 hp
                obtain ⟨hwz, ⟨hqz2, hqAz⟩, hszz, hlvz, rowz, frz, valsz, hpz, -, -, -, -⟩ := id gv
                have hqz127 := (gA qz hqAz).2
                refine me1 (pc' := 142) (L' := [(8, .ref qz), (7, ii 0), (0, .ref 16), (1, .ref p), (2, ii fr), (3, ii (n : Int)), (4, ii stp), (5, ii ((a : Nat) : Int)), (6, ii ((b : Nat) : Int))]) (S' := []) dm_X1_gather_140 rfl rfl rfl rfl ?_
                refine me1 (pc' := 144) (L' := [(8, .ref qz), (7, ii 0), (0, .ref 16), (1, .ref p), (2, ii fr), (3, ii (n : Int)), (4, ii stp), (5, ii ((a : Nat) : Int)), (6, ii ((b : Nat) : Int))]) (S' := [.ref qz]) dm_X1_gather_142 rfl rfl rfl rfl ?_
                refine me3 (pc' := 147) (S' := [ii (vsz (e + 1 + 1) vz : Int)]) dm_X1_gather_144 (g_get (v := ii (vsz (e + 1 + 1) vz : Int)) hpz rfl rfl (by omega)) rfl rfl rfl ?_
                refine me0 (pc' := 150) (S' := [ii 1000, ii (vsz (e + 1 + 1) vz : Int)]) dm_X1_gather_147 rfl rfl rfl rfl ?_
                refine y_2gt (a := (vsz (e + 1 + 1) vz : Int)) (b := 1000) (t := 162) (pc' := 153) dm_X1_gather_150 rfl rfl (by omega) (fun hb12 => ?_) (fun hb12 => ?_)
                · refine me1 (pc' := 163) (L' := [(8, .ref qz), (7, ii 0), (0, .ref 16), (1, .ref p), (2, ii fr), (3, ii (n : Int)), (4, ii stp), (5, ii ((a : Nat) : Int)), (6, ii ((b : Nat) : Int))]) (S' := [.ref 16]) dm_X1_gather_162 rfl rfl rfl rfl ?_
                  refine me0 (pc' := 165) (S' := [ii 8, .ref 16]) dm_X1_gather_163 rfl rfl rfl rfl ?_
                  refine me1 (pc' := 166) (L' := [(8, .ref qz), (7, ii 0), (0, .ref 16), (1, .ref p), (2, ii fr), (3, ii (n : Int)), (4, ii stp), (5, ii ((a : Nat) : Int)), (6, ii ((b : Nat) : Int))]) (S' := [.ref p, ii 8, .ref 16]) dm_X1_gather_165 rfl rfl rfl rfl ?_
                  refine x_cn (pc' := 169) (rest := []) dm_X1_gather_166 rfl (g_inv (As := [ii 8, .ref p]) (S := []) g16 rfl rfl rfl (by decide)) rfl rfl rfl (m_fail (c := 8) (by omega) g16 gp hp2 hca rfl) ?_
                  rintro _ rfl
                  refine me2 (pc' := 203) (S' := []) dm_X1_gather_169 rfl rfl rfl ?_
                  refine y_ret (r := none) dm_X1_gather_203 rfl rfl rfl ?_
                  refine ⟨rfl, ?_⟩
                  rw [show mGo (e + 2) wk (gaV n ch) = _ from mGo_b (D := e + 1 + 1) hgo (by omega)]
                  exact mGat_e hl h16 (fun _ _ _ => rfl) hH0 h32 hres
                · refine me1 (pc' := 155) (L' := [(8, .ref qz), (7, ii 0), (0, .ref 16), (1, .ref p), (2, ii fr), (3, ii (n : Int)), (4, ii stp), (5, ii ((a : Nat) : Int)), (6, ii ((b : Nat) : Int))]) (S' := [.ref qz]) dm_X1_gather_153 rfl rfl rfl rfl ?_
                  refine me3 (pc' := 158) (S' := [ii (vlv (e + 1 + 1) vz : Int)]) dm_X1_gather_155 (g_get (v := ii (vlv (e + 1 + 1) vz : Int)) hpz rfl rfl (by omega)) rfl rfl rfl ?_
                  refine me0 (pc' := 159) (S' := [ii 5, ii (vlv (e + 1 + 1) vz : Int)]) dm_X1_gather_158 rfl rfl rfl rfl ?_
                  refine y_2le (a := (vlv (e + 1 + 1) vz : Int)) (b := 5) (t := 172) (pc' := 162) dm_X1_gather_159 rfl rfl (by omega) (fun hb13 => ?_) (fun hb13 => ?_)
                  · refine me1 (pc' := 173) (L' := [(8, .ref qz), (7, ii 0), (0, .ref 16), (1, .ref p), (2, ii fr), (3, ii (n : Int)), (4, ii stp), (5, ii ((a : Nat) : Int)), (6, ii ((b : Nat) : Int))]) (S' := [.ref 16]) dm_X1_gather_172 rfl rfl rfl rfl ?_
                    refine me0 (pc' := 174) (S' := [ii 3, .ref 16]) dm_X1_gather_173 rfl rfl rfl rfl ?_
                    refine me1 (pc' := 176) (L' := [(8, .ref qz), (7, ii 0), (0, .ref 16), (1, .ref p), (2, ii fr), (3, ii (n : Int)), (4, ii stp), (5, ii ((a : Nat) : Int)), (6, ii ((b : Nat) : Int))]) (S' := [.ref qz, ii 3, .ref 16]) dm_X1_gather_174 rfl rfl rfl rfl ?_
                    refine me3 (pc' := 179) (S' := [ii (vsz (e + 1 + 1) vz : Int), ii 3, .ref 16]) dm_X1_gather_176 (g_get (v := ii (vsz (e + 1 + 1) vz : Int)) hpz rfl rfl (by omega)) rfl rfl rfl ?_
                    refine y_iadd (a := 3) (b := (vsz (e + 1 + 1) vz : Int)) dm_X1_gather_179 (pc' := 180) rfl ?_
                    refine me1 (pc' := 181) (L' := [(8, .ref qz), (7, ii 0), (0, .ref 16), (1, .ref p), (2, ii fr), (3, ii (n : Int)), (4, ii stp), (5, ii ((a : Nat) : Int)), (6, ii ((b : Nat) : Int))]) (S' := [.ref p, ii (3 + (vsz (e + 1 + 1) vz : Int)), .ref 16]) dm_X1_gather_180 rfl rfl rfl rfl ?_
                    by_cases hW : wk < 3 + (vsz (e + 1 + 1) vz : Int)
                    · refine x_cv (pc' := 184) (rest := []) dm_X1_gather_181 rfl (g_inv (As := [ii (3 + (vsz (e + 1 + 1) vz : Int)), .ref p]) (S := []) g16 rfl rfl rfl (by decide)) rfl rfl rfl (m_takeF (n := 3 + (vsz (e + 1 + 1) vz : Int)) (by omega) g16 gp hp2 hca (by omega) hwk hW rfl) ?_
                      rintro _ _ ⟨rfl, rfl⟩
                      refine me_1t (pc' := 203) dm_X1_gather_184 rfl (by decide) ?_
                      refine y_ret (r := none) dm_X1_gather_203 rfl rfl rfl ?_
                      refine ⟨rfl, ?_⟩
                      rw [show mGo (e + 2) wk (gaV n ch) = _ from mGo_w (D := e + 1 + 1) hgo (by omega) hW]
                      exact mGat_e hl h16 (fun _ _ _ => rfl) hH0 h32 hres
                    · refine x_cv (pc' := 184) (rest := []) dm_X1_gather_181 rfl (g_inv (As := [ii (3 + (vsz (e + 1 + 1) vz : Int)), .ref p]) (S := []) g16 rfl rfl rfl (by decide)) rfl rfl rfl (m_takeT (n := 3 + (vsz (e + 1 + 1) vz : Int)) (by omega) g16 gp hp2 hca (by omega) hwk (by omega) rfl) ?_
                      rintro _ _ ⟨rfl, rfl⟩
                      refine me_1f (pc' := 187) dm_X1_gather_184 rfl (by decide) rfl ?_
                      refine me1 (pc' := 188) (L' := [(8, .ref qz), (7, ii 0), (0, .ref 16), (1, .ref p), (2, ii fr), (3, ii (n : Int)), (4, ii stp), (5, ii ((a : Nat) : Int)), (6, ii ((b : Nat) : Int))]) (S' := [.ref 16]) dm_X1_gather_187 rfl rfl rfl rfl ?_
                      refine me0 (pc' := 189) (S' := [.ref 16, .ref 16]) dm_X1_gather_188 rfl rfl rfl rfl ?_
                      refine me3 (pc' := 192) (S' := [ii ((t + n : Nat) : Int), .ref 16]) dm_X1_gather_189 (g_get (v := ii ((t + n : Nat) : Int)) (hl_set (hl_lt g16)) rfl rfl (by decide)) rfl rfl rfl ?_
                      refine me1 (pc' := 193) (L' := [(8, .ref qz), (7, ii 0), (0, .ref 16), (1, .ref p), (2, ii fr), (3, ii (n : Int)), (4, ii stp), (5, ii ((a : Nat) : Int)), (6, ii ((b : Nat) : Int))]) (S' := [ii (n : Int), ii ((t + n : Nat) : Int), .ref 16]) dm_X1_gather_192 rfl rfl rfl rfl ?_
                      refine y_isub (a := ((t + n : Nat) : Int)) (b := (n : Int)) dm_X1_gather_193 (pc' := 194) rfl ?_
                      refine pg_st (S' := [ii ((t : Nat) : Int), .ref 16]) (congrArg (fun z => ii z :: [.ref 16]) (by omega)) ?_
                      refine me3 (pc' := 197) (S' := []) (h1 := (g).set 16 (cO 1 [.ref 4, .ref 17, .ref 26, .ref 32, ii ((t : Nat) : Int), .ref 33, ii dp, ii ca, ii ou, ii (wk - (3 + (vsz (e + 1 + 1) vz : Int))), ii 0, ii pl, nw, vx, vy, .null, ii lv, lf, rt])) dm_X1_gather_194 (g_put (fs' := [.ref 4, .ref 17, .ref 26, .ref 32, ii ((t : Nat) : Int), .ref 33, ii dp, ii ca, ii ou, ii (wk - (3 + (vsz (e + 1 + 1) vz : Int))), ii 0, ii pl, nw, vx, vy, .null, ii lv, lf, rt]) (hl_set (hl_lt g16)) rfl (by rw [List.set_set]) rfl (by simp) rfl (by decide) (fun z => by cases z) (by decide)) rfl rfl rfl ?_
                      refine me1 (pc' := 198) (L' := [(8, .ref qz), (7, ii 0), (0, .ref 16), (1, .ref p), (2, ii fr), (3, ii (n : Int)), (4, ii stp), (5, ii ((a : Nat) : Int)), (6, ii ((b : Nat) : Int))]) (S' := [.ref 16]) dm_X1_gather_197 rfl rfl rfl rfl ?_
                      refine me1 (pc' := 200) (L' := [(8, .ref qz), (7, ii 0), (0, .ref 16), (1, .ref p), (2, ii fr), (3, ii (n : Int)), (4, ii stp), (5, ii ((a : Nat) : Int)), (6, ii ((b : Nat) : Int))]) (S' := [.ref qz, .ref 16]) dm_X1_gather_198 rfl rfl rfl rfl ?_
                      refine x_cn (pc' := 203) (rest := []) dm_X1_gather_200 rfl (g_inv (As := [.ref qz]) (S := []) (hl_set (hl_lt g16)) rfl rfl rfl (by decide)) rfl rfl rfl (m_push (t := t) (by omega) (hl_ne (by omega) hpz) (by omega) (hl_set (hl_lt g16)) (hl_ne (by decide) g32) (by omega) rfl) ?_
                      rintro _ rfl
                      refine y_ret (r := none) dm_X1_gather_203 rfl rfl rfl ?_
                      refine ⟨rfl, ?_⟩
                      rw [show mGo (e + 2) wk (gaV n ch) = _ from mGo_v (D := e + 1 + 1) hgo (by omega) hW, List.set_comm _ _ (show (16 : Nat) ≠ 32 by decide), List.set_set]
                      exact mGat_v hl hA h16 (fun _ _ => rfl) hH0 h32 hres
                  · refine me1 (pc' := 163) (L' := [(8, .ref qz), (7, ii 0), (0, .ref 16), (1, .ref p), (2, ii fr), (3, ii (n : Int)), (4, ii stp), (5, ii ((a : Nat) : Int)), (6, ii ((b : Nat) : Int))]) (S' := [.ref 16]) dm_X1_gather_162 rfl rfl rfl rfl ?_
                    refine me0 (pc' := 165) (S' := [ii 8, .ref 16]) dm_X1_gather_163 rfl rfl rfl rfl ?_
                    refine me1 (pc' := 166) (L' := [(8, .ref qz), (7, ii 0), (0, .ref 16), (1, .ref p), (2, ii fr), (3, ii (n : Int)), (4, ii stp), (5, ii ((a : Nat) : Int)), (6, ii ((b : Nat) : Int))]) (S' := [.ref p, ii 8, .ref 16]) dm_X1_gather_165 rfl rfl rfl rfl ?_
                    refine x_cn (pc' := 169) (rest := []) dm_X1_gather_166 rfl (g_inv (As := [ii 8, .ref p]) (S := []) g16 rfl rfl rfl (by decide)) rfl rfl rfl (m_fail (c := 8) (by omega) g16 gp hp2 hca rfl) ?_
                    rintro _ rfl
                    refine me2 (pc' := 203) (S' := []) dm_X1_gather_169 rfl rfl rfl ?_
                    refine y_ret (r := none) dm_X1_gather_203 rfl rfl rfl ?_
                    refine ⟨rfl, ?_⟩
                    rw [show mGo (e + 2) wk (gaV n ch) = _ from mGo_b (D := e + 1 + 1) hgo (by omega)]
                    exact mGat_e hl h16 (fun _ _ _ => rfl) hH0 h32 hres
              · refine me1 (pc' := 109) (L' := [(7, ii 0), (0, .ref 16), (1, .ref p), (2, ii fr), (3, ii (n : Int)), (4, ii stp), (5, ii ((a : Nat) : Int)), (6, ii ((b : Nat) : Int))]) (S' := [.ref 16]) dm_X1_gather_108 rfl rfl rfl rfl ?_
                refine me0 (pc' := 111) (S' := [ii 8, .ref 16]) dm_X1_gather_109 rfl rfl rfl rfl ?_
                refine me1 (pc' := 112) (L' := [(7, ii 0), (0, .ref 16), (1, .ref p), (2, ii fr), (3, ii (n : Int)), (4, ii stp), (5, ii ((a : Nat) : Int)), (6, ii ((b : Nat) : Int))]) (S' := [.ref p, ii 8, .ref 16]) dm_X1_gather_111 rfl rfl rfl rfl ?_
                refine x_cn (pc' := 115) (rest := []) dm_X1_gather_112 rfl (g_inv (As := [ii 8, .ref p]) (S := []) h16 rfl rfl rfl (by decide)) rfl rfl rfl (m_fail (c := 8) (by omega) h16 hp hp2 hca rfl) ?_
                rintro _ rfl
                refine y_ret (r := none) dm_X1_gather_115 rfl rfl rfl ?_
                refine ⟨rfl, ?_⟩
                rw [mGo_f (show gaV n ch = .inl 8 from (gaV_v8 (by omega) (by omega) (by omega)))]
                exact mGat_0 hl h16 (fun _ _ _ => rfl) hH0 h32
            · refine me0 (pc' := 86) (S' := [ii 1]) dm_X1_gather_85 rfl rfl rfl rfl ?_
              refine me2 (pc' := 90) (S' := [ii 1]) dm_X1_gather_86 rfl rfl rfl ?_
              refine me1 (pc' := 92) (L' := [(7, ii 1), (0, .ref 16), (1, .ref p), (2, ii fr), (3, ii (n : Int)), (4, ii stp), (5, ii ((a : Nat) : Int)), (6, ii ((b : Nat) : Int))]) (S' := []) dm_X1_gather_90 rfl rfl rfl rfl ?_
              refine me1 (pc' := 93) (L' := [(7, ii 1), (0, .ref 16), (1, .ref p), (2, ii fr), (3, ii (n : Int)), (4, ii stp), (5, ii ((a : Nat) : Int)), (6, ii ((b : Nat) : Int))]) (S' := [ii (n : Int)]) dm_X1_gather_92 rfl rfl rfl rfl ?_
              refine me1 (pc' := 95) (L' := [(7, ii 1), (0, .ref 16), (1, .ref p), (2, ii fr), (3, ii (n : Int)), (4, ii stp), (5, ii ((a : Nat) : Int)), (6, ii ((b : Nat) : Int))]) (S' := [ii 1, ii (n : Int)]) dm_X1_gather_93 rfl rfl rfl rfl ?_
              refine me_1f (pc' := 98) dm_X1_gather_95 rfl (by decide) rfl ?_
              refine me0 (pc' := 100) (S' := [ii 120, ii (n : Int)]) dm_X1_gather_98 rfl rfl rfl rfl ?_
              refine me2 (pc' := 105) (S' := [ii 120, ii (n : Int)]) dm_X1_gather_100 rfl rfl rfl ?_
              refine y_2le (a := (n : Int)) (b := 120) (t := 116) (pc' := 108) dm_X1_gather_105 rfl rfl (by omega) (fun hb14 => ?_) (fun hb14 => ?_)
              · refine me1 (pc' := 118) (L' := [(7, ii 1), (0, .ref 16), (1, .ref p), (2, ii fr), (3, ii (n : Int)), (4, ii stp), (5, ii ((a : Nat) : Int)), (6, ii ((b : Nat) : Int))]) (S' := [ii 1]) dm_X1_gather_116 rfl rfl rfl rfl ?_
                refine me_1f (pc' := 121) dm_X1_gather_118 rfl (by decide) rfl ?_
                refine me1 (pc' := 122) (L' := [(7, ii 1), (0, .ref 16), (1, .ref p), (2, ii fr), (3, ii (n : Int)), (4, ii stp), (5, ii ((a : Nat) : Int)), (6, ii ((b : Nat) : Int))]) (S' := [.ref 16]) dm_X1_gather_121 rfl rfl rfl rfl ?_
                refine me1 (pc' := 123) (L' := [(7, ii 1), (0, .ref 16), (1, .ref p), (2, ii fr), (3, ii (n : Int)), (4, ii stp), (5, ii ((a : Nat) : Int)), (6, ii ((b : Nat) : Int))]) (S' := [ii fr, .ref 16]) dm_X1_gather_122 rfl rfl rfl rfl ?_
                refine me1 (pc' := 124) (L' := [(7, ii 1), (0, .ref 16), (1, .ref p), (2, ii fr), (3, ii (n : Int)), (4, ii stp), (5, ii ((a : Nat) : Int)), (6, ii ((b : Nat) : Int))]) (S' := [ii (n : Int), ii fr, .ref 16]) dm_X1_gather_123 rfl rfl rfl rfl ?_
                refine me1 (pc' := 126) (L' := [(7, ii 1), (0, .ref 16), (1, .ref p), (2, ii fr), (3, ii (n : Int)), (4, ii stp), (5, ii ((a : Nat) : Int)), (6, ii ((b : Nat) : Int))]) (S' := [ii stp, ii (n : Int), ii fr, .ref 16]) dm_X1_gather_124 rfl rfl rfl rfl ?_
                refine x_cv (pc' := 129) (rest := []) dm_X1_gather_126 rfl (g_inv (As := [ii fr, ii (n : Int), ii stp]) (S := []) h16 rfl rfl rfl (by decide)) rfl rfl rfl (m_gathS (e := e + 1) (fr := fr) (stp := stp) (ix := ix) hx1 (by omega) hl hA h16 h32 hix hixb (fun k hk => by obtain ⟨q, q1, q2⟩ := hqq k hk; exact ⟨q, q1, cv_up q2⟩) (by omega) (by omega) (hfr0 (by omega)) (isSg_all (by omega))) ?_
                rintro x9 g hres
                have hgo : gaV n ch = .inr (vrow 3 n (fun k => vn (ch k) 0)) := (gaV_s (by omega) (by omega) (by omega) (by omega))
                generalize (vrow 3 n (fun k => vn (ch k) 0)) = vz at hres hgo
                obtain ⟨qz, rfl⟩ := vres_ref hres
                obtain ⟨g16, g32, gp, gl1, gl2, gA, gv⟩ := vres_gt hres hl hA h16 h32 hp
                obtain ⟨hwz, ⟨hqz2, hqAz⟩, hszz, hlvz, rowz, frz, valsz, hpz, -, -, -, -⟩ := id gv
                have hqz127 := (gA qz hqAz).2
                refine me2 (pc' := 140) (S' := [.ref qz]) dm_X1_gather_129 rfl rfl rfl ?_
                refine me1 (pc' := 142) (L' := [(8, .ref qz), (7, ii 1), (0, .ref 16), (1, .ref p), (2, ii fr), (3, ii (n : Int)), (4, ii stp), (5, ii ((a : Nat) : Int)), (6, ii ((b : Nat) : Int))]) (S' := []) dm_X1_gather_140 rfl rfl rfl rfl ?_
                refine me1 (pc' := 144) (L' := [(8, .ref qz), (7, ii 1), (0, .ref 16), (1, .ref p), (2, ii fr), (3, ii (n : Int)), (4, ii stp), (5, ii ((a : Nat) : Int)), (6, ii ((b : Nat) : Int))]) (S' := [.ref qz]) dm_X1_gather_142 rfl rfl rfl rfl ?_
                refine me3 (pc' := 147) (S' := [ii (vsz (e + 1 + 1) vz : Int)]) dm_X1_gather_144 (g_get (v := ii (vsz (e + 1 + 1) vz : Int)) hpz rfl rfl (by omega)) rfl rfl rfl ?_
                refine me0 (pc' := 150) (S' := [ii 1000, ii (vsz (e + 1 + 1) vz : Int)]) dm_X1_gather_147 rfl rfl rfl rfl ?_
                refine y_2gt (a := (vsz (e + 1 + 1) vz : Int)) (b := 1000) (t := 162) (pc' := 153) dm_X1_gather_150 rfl rfl (by omega) (fun hb15 => ?_) (fun hb15 => ?_)
                · refine me1 (pc' := 163) (L' := [(8, .ref qz), (7, ii 1), (0, .ref 16), (1, .ref p), (2, ii fr), (3, ii (n : Int)), (4, ii stp), (5, ii ((a : Nat) : Int)), (6, ii ((b : Nat) : Int))]) (S' := [.ref 16]) dm_X1_gather_162 rfl rfl rfl rfl ?_
                  refine me0 (pc' := 165) (S' := [ii 8, .ref 16]) dm_X1_gather_163 rfl rfl rfl rfl ?_
                  refine me1 (pc' := 166) (L' := [(8, .ref qz), (7, ii 1), (0, .ref 16), (1, .ref p), (2, ii fr), (3, ii (n : Int)), (4, ii stp), (5, ii ((a : Nat) : Int)), (6, ii ((b : Nat) : Int))]) (S' := [.ref p, ii 8, .ref 16]) dm_X1_gather_165 rfl rfl rfl rfl ?_
                  refine x_cn (pc' := 169) (rest := []) dm_X1_gather_166 rfl (g_inv (As := [ii 8, .ref p]) (S := []) g16 rfl rfl rfl (by decide)) rfl rfl rfl (m_fail (c := 8) (by omega) g16 gp hp2 hca rfl) ?_
                  rintro _ rfl
                  refine me2 (pc' := 203) (S' := []) dm_X1_gather_169 rfl rfl rfl ?_
                  refine y_ret (r := none) dm_X1_gather_203 rfl rfl rfl ?_
                  refine ⟨rfl, ?_⟩
                  rw [show mGo (e + 2) wk (gaV n ch) = _ from mGo_b (D := e + 1 + 1) hgo (by omega)]
                  exact mGat_e hl h16 (fun _ _ _ => rfl) hH0 h32 hres
                · refine me1 (pc' := 155) (L' := [(8, .ref qz), (7, ii 1), (0, .ref 16), (1, .ref p), (2, ii fr), (3, ii (n : Int)), (4, ii stp), (5, ii ((a : Nat) : Int)), (6, ii ((b : Nat) : Int))]) (S' := [.ref qz]) dm_X1_gather_153 rfl rfl rfl rfl ?_
                  refine me3 (pc' := 158) (S' := [ii (vlv (e + 1 + 1) vz : Int)]) dm_X1_gather_155 (g_get (v := ii (vlv (e + 1 + 1) vz : Int)) hpz rfl rfl (by omega)) rfl rfl rfl ?_
                  refine me0 (pc' := 159) (S' := [ii 5, ii (vlv (e + 1 + 1) vz : Int)]) dm_X1_gather_158 rfl rfl rfl rfl ?_
                  refine y_2le (a := (vlv (e + 1 + 1) vz : Int)) (b := 5) (t := 172) (pc' := 162) dm_X1_gather_159 rfl rfl (by omega) (fun hb16 => ?_) (fun hb16 => ?_)
                  · refine me1 (pc' := 173) (L' := [(8, .ref qz), (7, ii 1), (0, .ref 16), (1, .ref p), (2, ii fr), (3, ii (n : Int)), (4, ii stp), (5, ii ((a : Nat) : Int)), (6, ii ((b : Nat) : Int))]) (S' := [.ref 16]) dm_X1_gather_172 rfl rfl rfl rfl ?_
                    refine me0 (pc' := 174) (S' := [ii 3, .ref 16]) dm_X1_gather_173 rfl rfl rfl rfl ?_
                    refine me1 (pc' := 176) (L' := [(8, .ref qz), (7, ii 1), (0, .ref 16), (1, .ref p), (2, ii fr), (3, ii (n : Int)), (4, ii stp), (5, ii ((a : Nat) : Int)), (6, ii ((b : Nat) : Int))]) (S' := [.ref qz, ii 3, .ref 16]) dm_X1_gather_174 rfl rfl rfl rfl ?_
                    refine me3 (pc' := 179) (S' := [ii (vsz (e + 1 + 1) vz : Int), ii 3, .ref 16]) dm_X1_gather_176 (g_get (v := ii (vsz (e + 1 + 1) vz : Int)) hpz rfl rfl (by omega)) rfl rfl rfl ?_
                    refine y_iadd (a := 3) (b := (vsz (e + 1 + 1) vz : Int)) dm_X1_gather_179 (pc' := 180) rfl ?_
                    refine me1 (pc' := 181) (L' := [(8, .ref qz), (7, ii 1), (0, .ref 16), (1, .ref p), (2, ii fr), (3, ii (n : Int)), (4, ii stp), (5, ii ((a : Nat) : Int)), (6, ii ((b : Nat) : Int))]) (S' := [.ref p, ii (3 + (vsz (e + 1 + 1) vz : Int)), .ref 16]) dm_X1_gather_180 rfl rfl rfl rfl ?_
                    by_cases hW : wk < 3 + (vsz (e + 1 + 1) vz : Int)
                    · refine x_cv (pc' := 184) (rest := []) dm_X1_gather_181 rfl (g_inv (As := [ii (3 + (vsz (e + 1 + 1) vz : Int)), .ref p]) (S := []) g16 rfl rfl rfl (by decide)) rfl rfl rfl (m_takeF (n := 3 + (vsz (e + 1 + 1) vz : Int)) (by omega) g16 gp hp2 hca (by omega) hwk hW rfl) ?_
                      rintro _ _ ⟨rfl, rfl⟩
                      refine me_1t (pc' := 203) dm_X1_gather_184 rfl (by decide) ?_
                      refine y_ret (r := none) dm_X1_gather_203 rfl rfl rfl ?_
                      refine ⟨rfl, ?_⟩
                      rw [show mGo (e + 2) wk (gaV n ch) = _ from mGo_w (D := e + 1 + 1) hgo (by omega) hW]
                      exact mGat_e hl h16 (fun _ _ _ => rfl) hH0 h32 hres
                    · refine x_cv (pc' := 184) (rest := []) dm_X1_gather_181 rfl (g_inv (As := [ii (3 + (vsz (e + 1 + 1) vz : Int)), .ref p]) (S := []) g16 rfl rfl rfl (by decide)) rfl rfl rfl (m_takeT (n := 3 + (vsz (e + 1 + 1) vz : Int)) (by omega) g16 gp hp2 hca (by omega) hwk (by omega) rfl) ?_
                      rintro _ _ ⟨rfl, rfl⟩
                      refine me_1f (pc' := 187) dm_X1_gather_184 rfl (by decide) rfl ?_
                      refine me1 (pc' := 188) (L' := [(8, .ref qz), (7, ii 1), (0, .ref 16), (1, .ref p), (2, ii fr), (3, ii (n : Int)), (4, ii stp), (5, ii ((a : Nat) : Int)), (6, ii ((b : Nat) : Int))]) (S' := [.ref 16]) dm_X1_gather_187 rfl rfl rfl rfl ?_
                      refine me0 (pc' := 189) (S' := [.ref 16, .ref 16]) dm_X1_gather_188 rfl rfl rfl rfl ?_
                      refine me3 (pc' := 192) (S' := [ii ((t + n : Nat) : Int), .ref 16]) dm_X1_gather_189 (g_get (v := ii ((t + n : Nat) : Int)) (hl_set (hl_lt g16)) rfl rfl (by decide)) rfl rfl rfl ?_
                      refine me1 (pc' := 193) (L' := [(8, .ref qz), (7, ii 1), (0, .ref 16), (1, .ref p), (2, ii fr), (3, ii (n : Int)), (4, ii stp), (5, ii ((a : Nat) : Int)), (6, ii ((b : Nat) : Int))]) (S' := [ii (n : Int), ii ((t + n : Nat) : Int), .ref 16]) dm_X1_gather_192 rfl rfl rfl rfl ?_
                      refine y_isub (a := ((t + n : Nat) : Int)) (b := (n : Int)) dm_X1_gather_193 (pc' := 194) rfl ?_
                      refine pg_st (S' := [ii ((t : Nat) : Int), .ref 16]) (congrArg (fun z => ii z :: [.ref 16]) (by omega)) ?_
                      refine me3 (pc' := 197) (S' := []) (h1 := (g).set 16 (cO 1 [.ref 4, .ref 17, .ref 26, .ref 32, ii ((t : Nat) : Int), .ref 33, ii dp, ii ca, ii ou, ii (wk - (3 + (vsz (e + 1 + 1) vz : Int))), ii 0, ii pl, nw, vx, vy, .null, ii lv, lf, rt])) dm_X1_gather_194 (g_put (fs' := [.ref 4, .ref 17, .ref 26, .ref 32, ii ((t : Nat) : Int), .ref 33, ii dp, ii ca, ii ou, ii (wk - (3 + (vsz (e + 1 + 1) vz : Int))), ii 0, ii pl, nw, vx, vy, .null, ii lv, lf, rt]) (hl_set (hl_lt g16)) rfl (by rw [List.set_set]) rfl (by simp) rfl (by decide) (fun z => by cases z) (by decide)) rfl rfl rfl ?_
                      refine me1 (pc' := 198) (L' := [(8, .ref qz), (7, ii 1), (0, .ref 16), (1, .ref p), (2, ii fr), (3, ii (n : Int)), (4, ii stp), (5, ii ((a : Nat) : Int)), (6, ii ((b : Nat) : Int))]) (S' := [.ref 16]) dm_X1_gather_197 rfl rfl rfl rfl ?_
                      refine me1 (pc' := 200) (L' := [(8, .ref qz), (7, ii 1), (0, .ref 16), (1, .ref p), (2, ii fr), (3, ii (n : Int)), (4, ii stp), (5, ii ((a : Nat) : Int)), (6, ii ((b : Nat) : Int))]) (S' := [.ref qz, .ref 16]) dm_X1_gather_198 rfl rfl rfl rfl ?_
                      refine x_cn (pc' := 203) (rest := []) dm_X1_gather_200 rfl (g_inv (As := [.ref qz]) (S := []) (hl_set (hl_lt g16)) rfl rfl rfl (by decide)) rfl rfl rfl (m_push (t := t) (by omega) (hl_ne (by omega) hpz) (by omega) (hl_set (hl_lt g16)) (hl_ne (by decide) g32) (by omega) rfl) ?_
                      rintro _ rfl
                      refine y_ret (r := none) dm_X1_gather_203 rfl rfl rfl ?_
                      refine ⟨rfl, ?_⟩
                      rw [show mGo (e + 2) wk (gaV n ch) = _ from mGo_v (D := e + 1 + 1) hgo (by omega) hW, List.set_comm _ _ (show (16 : Nat) ≠ 32 by decide), List.set_set]
                      exact mGat_v hl hA h16 (fun _ _ => rfl) hH0 h32 hres
                  · refine me1 (pc' := 163) (L' := [(8, .ref qz), (7, ii 1), (0, .ref 16), (1, .ref p), (2, ii fr), (3, ii (n : Int)), (4, ii stp), (5, ii ((a : Nat) : Int)), (6, ii ((b : Nat) : Int))]) (S' := [.ref 16]) dm_X1_gather_162 rfl rfl rfl rfl ?_
                    refine me0 (pc' := 165) (S' := [ii 8, .ref 16]) dm_X1_gather_163 rfl rfl rfl rfl ?_
                    refine me1 (pc' := 166) (L' := [(8, .ref qz), (7, ii 1), (0, .ref 16), (1, .ref p), (2, ii fr), (3, ii (n : Int)), (4, ii stp), (5, ii ((a : Nat) : Int)), (6, ii ((b : Nat) : Int))]) (S' := [.ref p, ii 8, .ref 16]) dm_X1_gather_165 rfl rfl rfl rfl ?_
                    refine x_cn (pc' := 169) (rest := []) dm_X1_gather_166 rfl (g_inv (As := [ii 8, .ref p]) (S := []) g16 rfl rfl rfl (by decide)) rfl rfl rfl (m_fail (c := 8) (by omega) g16 gp hp2 hca rfl) ?_
                    rintro _ rfl
                    refine me2 (pc' := 203) (S' := []) dm_X1_gather_169 rfl rfl rfl ?_
                    refine y_ret (r := none) dm_X1_gather_203 rfl rfl rfl ?_
                    refine ⟨rfl, ?_⟩
                    rw [show mGo (e + 2) wk (gaV n ch) = _ from mGo_b (D := e + 1 + 1) hgo (by omega)]
                    exact mGat_e hl h16 (fun _ _ _ => rfl) hH0 h32 hres
              · refine me1 (pc' := 109) (L' := [(7, ii 1), (0, .ref 16), (1, .ref p), (2, ii fr), (3, ii (n : Int)), (4, ii stp), (5, ii ((a : Nat) : Int)), (6, ii ((b : Nat) : Int))]) (S' := [.ref 16]) dm_X1_gather_108 rfl rfl rfl rfl ?_
                refine me0 (pc' := 111) (S' := [ii 8, .ref 16]) dm_X1_gather_109 rfl rfl rfl rfl ?_
                refine me1 (pc' := 112) (L' := [(7, ii 1), (0, .ref 16), (1, .ref p), (2, ii fr), (3, ii (n : Int)), (4, ii stp), (5, ii ((a : Nat) : Int)), (6, ii ((b : Nat) : Int))]) (S' := [.ref p, ii 8, .ref 16]) dm_X1_gather_111 rfl rfl rfl rfl ?_
                refine x_cn (pc' := 115) (rest := []) dm_X1_gather_112 rfl (g_inv (As := [ii 8, .ref p]) (S := []) h16 rfl rfl rfl (by decide)) rfl rfl rfl (m_fail (c := 8) (by omega) h16 hp hp2 hca rfl) ?_
                rintro _ rfl
                refine y_ret (r := none) dm_X1_gather_115 rfl rfl rfl ?_
                refine ⟨rfl, ?_⟩
                rw [mGo_f (show gaV n ch = .inl 8 from (gaV_s8 (by omega) (by omega) (by omega) (by omega)))]
                exact mGat_0 hl h16 (fun _ _ _ => rfl) hH0 h32
      · refine me1 (pc' := 16) (L' := [(0, .ref 16), (1, .ref p), (2, ii fr), (3, ii (n : Int)), (4, ii stp), (5, ii ((a : Nat) : Int)), (6, ii ((b : Nat) : Int)), (7, ii (k : Int))]) (S' := [.ref 16]) dm_X1_gather_15 rfl rfl rfl rfl ?_
        refine me3 (pc' := 19) (S' := [.ref 32]) dm_X1_gather_16 (g_get (v := .ref 32) h16 rfl rfl (by decide)) rfl rfl rfl ?_
        refine me1 (pc' := 20) (L' := [(0, .ref 16), (1, .ref p), (2, ii fr), (3, ii (n : Int)), (4, ii stp), (5, ii ((a : Nat) : Int)), (6, ii ((b : Nat) : Int)), (7, ii (k : Int))]) (S' := [ii fr, .ref 32]) dm_X1_gather_19 rfl rfl rfl rfl ?_
        refine me1 (pc' := 22) (L' := [(0, .ref 16), (1, .ref p), (2, ii fr), (3, ii (n : Int)), (4, ii stp), (5, ii ((a : Nat) : Int)), (6, ii ((b : Nat) : Int)), (7, ii (k : Int))]) (S' := [ii (k : Int), ii fr, .ref 32]) dm_X1_gather_20 rfl rfl rfl rfl ?_
        refine me1 (pc' := 24) (L' := [(0, .ref 16), (1, .ref p), (2, ii fr), (3, ii (n : Int)), (4, ii stp), (5, ii ((a : Nat) : Int)), (6, ii ((b : Nat) : Int)), (7, ii (k : Int))]) (S' := [ii stp, ii (k : Int), ii fr, .ref 32]) dm_X1_gather_22 rfl rfl rfl rfl ?_
        refine y_imul (a := (k : Int)) (b := stp) dm_X1_gather_24 (pc' := 25) rfl ?_
        refine y_iadd (a := fr) (b := (k : Int) * stp) dm_X1_gather_25 (pc' := 26) rfl ?_
        obtain ⟨qk, hqk, hvk⟩ := hqq k (by omega)
        obtain ⟨hwk, ⟨hp2k, hpAk⟩, hszk, hlvk, rowk, frk, valsk, hpk, -, -, -, -⟩ := id hvk
        have hixk := hix k (by omega)
        have hbk := hixb k (by omega)
        have hq127k := (hA qk hpAk).2
        have hk7k := hwk.1
        refine pg_st (S' := [ii ((ix k : Nat) : Int), .ref 32]) (congrArg (fun z => ii z :: [.ref 32]) hixk) ?_
        refine me3 (pc' := 27) (S' := [.ref qk]) dm_X1_gather_26 (yh_aald (w := some qk) rfl h32 (by omega) (by omega) (by omega) (by decide) hqk) rfl rfl rfl ?_
        refine me3 (pc' := 30) (S' := [ii (vk (ch k) : Int)]) dm_X1_gather_27 (g_get (v := ii (vk (ch k) : Int)) hpk rfl rfl (by omega)) rfl rfl rfl ?_
        refine me1 (pc' := 32) (L' := [(8, ii (vk (ch k) : Int)), (0, .ref 16), (1, .ref p), (2, ii fr), (3, ii (n : Int)), (4, ii stp), (5, ii ((a : Nat) : Int)), (6, ii ((b : Nat) : Int)), (7, ii (k : Int))]) (S' := []) dm_X1_gather_30 rfl rfl rfl rfl ?_
        refine me1 (pc' := 34) (L' := [(8, ii (vk (ch k) : Int)), (0, .ref 16), (1, .ref p), (2, ii fr), (3, ii (n : Int)), (4, ii stp), (5, ii ((a : Nat) : Int)), (6, ii ((b : Nat) : Int)), (7, ii (k : Int))]) (S' := [ii ((a : Nat) : Int)]) dm_X1_gather_32 rfl rfl rfl rfl ?_
        refine me1 (pc' := 36) (L' := [(8, ii (vk (ch k) : Int)), (0, .ref 16), (1, .ref p), (2, ii fr), (3, ii (n : Int)), (4, ii stp), (5, ii ((a : Nat) : Int)), (6, ii ((b : Nat) : Int)), (7, ii (k : Int))]) (S' := [ii (vk (ch k) : Int), ii ((a : Nat) : Int)]) dm_X1_gather_34 rfl rfl rfl rfl ?_
        refine y_1ne (a := (vk (ch k) : Int)) (t := 43) (pc' := 39) dm_X1_gather_36 rfl rfl (by omega) (fun hb17 => ?_) (fun hb17 => ?_)
        · refine me0 (pc' := 44) (S' := [ii 0, ii ((a : Nat) : Int)]) dm_X1_gather_43 rfl rfl rfl rfl ?_
          refine y_iadd (a := ((a : Nat) : Int)) (b := 0) dm_X1_gather_44 (pc' := 45) rfl ?_
          refine pg_st (S' := [ii ((a : Nat) : Int)]) (congrArg (fun z => ii z :: []) (show ((a : Nat) : Int) + 0 = ((a : Nat) : Int) by omega)) ?_
          refine me1 (pc' := 47) (L' := [(5, ii ((a : Nat) : Int)), (8, ii (vk (ch k) : Int)), (0, .ref 16), (1, .ref p), (2, ii fr), (3, ii (n : Int)), (4, ii stp), (6, ii ((b : Nat) : Int)), (7, ii (k : Int))]) (S' := []) dm_X1_gather_45 rfl rfl rfl rfl ?_
          refine me1 (pc' := 49) (L' := [(5, ii ((a : Nat) : Int)), (8, ii (vk (ch k) : Int)), (0, .ref 16), (1, .ref p), (2, ii fr), (3, ii (n : Int)), (4, ii stp), (6, ii ((b : Nat) : Int)), (7, ii (k : Int))]) (S' := [ii ((b : Nat) : Int)]) dm_X1_gather_47 rfl rfl rfl rfl ?_
          refine me1 (pc' := 51) (L' := [(5, ii ((a : Nat) : Int)), (8, ii (vk (ch k) : Int)), (0, .ref 16), (1, .ref p), (2, ii fr), (3, ii (n : Int)), (4, ii stp), (6, ii ((b : Nat) : Int)), (7, ii (k : Int))]) (S' := [ii (vk (ch k) : Int), ii ((b : Nat) : Int)]) dm_X1_gather_49 rfl rfl rfl rfl ?_
          refine me0 (pc' := 52) (S' := [ii 1, ii (vk (ch k) : Int), ii ((b : Nat) : Int)]) dm_X1_gather_51 rfl rfl rfl rfl ?_
          refine y_2ne (a := (vk (ch k) : Int)) (b := 1) (t := 59) (pc' := 55) dm_X1_gather_52 rfl rfl (by omega) (fun hb18 => ?_) (fun hb18 => ?_)
          · refine me0 (pc' := 60) (S' := [ii 0, ii ((b : Nat) : Int)]) dm_X1_gather_59 rfl rfl rfl rfl ?_
            refine y_iadd (a := ((b : Nat) : Int)) (b := 0) dm_X1_gather_60 (pc' := 61) rfl ?_
            refine pg_st (S' := [ii ((b : Nat) : Int)]) (congrArg (fun z => ii z :: []) (show ((b : Nat) : Int) + 0 = ((b : Nat) : Int) by omega)) ?_
            refine me1 (pc' := 63) (L' := [(6, ii ((b : Nat) : Int)), (5, ii ((a : Nat) : Int)), (8, ii (vk (ch k) : Int)), (0, .ref 16), (1, .ref p), (2, ii fr), (3, ii (n : Int)), (4, ii stp), (7, ii (k : Int))]) (S' := []) dm_X1_gather_61 rfl rfl rfl rfl ?_
            refine y_iinc (pc' := 66) (L' := [(7, ii ((k : Int) + 1)), (6, ii ((b : Nat) : Int)), (5, ii ((a : Nat) : Int)), (8, ii (vk (ch k) : Int)), (0, .ref 16), (1, .ref p), (2, ii fr), (3, ii (n : Int)), (4, ii stp)]) dm_X1_gather_63 (y_incp (a := (k : Int)) (c := 1) rfl rfl (by decide)) rfl ?_
            refine me2 (pc' := 9) (S' := []) dm_X1_gather_66 rfl rfl rfl ?_
            exact pg_sub (L := [(0, .ref 16), (1, .ref p), (2, ii fr), (3, ii (n : Int)), (4, ii stp), (5, ii ((a : Nat) : Int)), (6, ii ((b : Nat) : Int)), (7, ii ((k + 1) : Int))]) rfl rfl rfl (ih9 (n - (k + 1)) (by omega) (k + 1) a b rfl (by omega) (ha.trans (cnB_s0 (p := isNb ch) (fun z => by have := of_decide_eq_true z; omega)).symm) (hb.trans (cnB_s0 (p := isSg ch) (fun z => by have := of_decide_eq_true z; omega)).symm))
          · refine me0 (pc' := 56) (S' := [ii 1, ii ((b : Nat) : Int)]) dm_X1_gather_55 rfl rfl rfl rfl ?_
            refine me2 (pc' := 60) (S' := [ii 1, ii ((b : Nat) : Int)]) dm_X1_gather_56 rfl rfl rfl ?_
            refine y_iadd (a := ((b : Nat) : Int)) (b := 1) dm_X1_gather_60 (pc' := 61) rfl ?_
            refine pg_st (S' := [ii ((b + 1 : Nat) : Int)]) (congrArg (fun z => ii z :: []) (show ((b : Nat) : Int) + 1 = ((b + 1 : Nat) : Int) by omega)) ?_
            refine me1 (pc' := 63) (L' := [(6, ii ((b + 1 : Nat) : Int)), (5, ii ((a : Nat) : Int)), (8, ii (vk (ch k) : Int)), (0, .ref 16), (1, .ref p), (2, ii fr), (3, ii (n : Int)), (4, ii stp), (7, ii (k : Int))]) (S' := []) dm_X1_gather_61 rfl rfl rfl rfl ?_
            refine y_iinc (pc' := 66) (L' := [(7, ii ((k : Int) + 1)), (6, ii ((b + 1 : Nat) : Int)), (5, ii ((a : Nat) : Int)), (8, ii (vk (ch k) : Int)), (0, .ref 16), (1, .ref p), (2, ii fr), (3, ii (n : Int)), (4, ii stp)]) dm_X1_gather_63 (y_incp (a := (k : Int)) (c := 1) rfl rfl (by decide)) rfl ?_
            refine me2 (pc' := 9) (S' := []) dm_X1_gather_66 rfl rfl rfl ?_
            exact pg_sub (L := [(0, .ref 16), (1, .ref p), (2, ii fr), (3, ii (n : Int)), (4, ii stp), (5, ii ((a : Nat) : Int)), (6, ii (((b + 1) : Nat) : Int)), (7, ii ((k + 1) : Int))]) rfl rfl rfl (ih9 (n - (k + 1)) (by omega) (k + 1) a (b + 1) rfl (by omega) (ha.trans (cnB_s0 (p := isNb ch) (fun z => by have := of_decide_eq_true z; omega)).symm) ((congrArg (· + 1) hb).trans (cnB_s1 (p := isSg ch) (decide_eq_true (by omega))).symm))
        · refine me0 (pc' := 40) (S' := [ii 1, ii ((a : Nat) : Int)]) dm_X1_gather_39 rfl rfl rfl rfl ?_
          refine me2 (pc' := 44) (S' := [ii 1, ii ((a : Nat) : Int)]) dm_X1_gather_40 rfl rfl rfl ?_
          refine y_iadd (a := ((a : Nat) : Int)) (b := 1) dm_X1_gather_44 (pc' := 45) rfl ?_
          refine pg_st (S' := [ii ((a + 1 : Nat) : Int)]) (congrArg (fun z => ii z :: []) (show ((a : Nat) : Int) + 1 = ((a + 1 : Nat) : Int) by omega)) ?_
          refine me1 (pc' := 47) (L' := [(5, ii ((a + 1 : Nat) : Int)), (8, ii (vk (ch k) : Int)), (0, .ref 16), (1, .ref p), (2, ii fr), (3, ii (n : Int)), (4, ii stp), (6, ii ((b : Nat) : Int)), (7, ii (k : Int))]) (S' := []) dm_X1_gather_45 rfl rfl rfl rfl ?_
          refine me1 (pc' := 49) (L' := [(5, ii ((a + 1 : Nat) : Int)), (8, ii (vk (ch k) : Int)), (0, .ref 16), (1, .ref p), (2, ii fr), (3, ii (n : Int)), (4, ii stp), (6, ii ((b : Nat) : Int)), (7, ii (k : Int))]) (S' := [ii ((b : Nat) : Int)]) dm_X1_gather_47 rfl rfl rfl rfl ?_
          refine me1 (pc' := 51) (L' := [(5, ii ((a + 1 : Nat) : Int)), (8, ii (vk (ch k) : Int)), (0, .ref 16), (1, .ref p), (2, ii fr), (3, ii (n : Int)), (4, ii stp), (6, ii ((b : Nat) : Int)), (7, ii (k : Int))]) (S' := [ii (vk (ch k) : Int), ii ((b : Nat) : Int)]) dm_X1_gather_49 rfl rfl rfl rfl ?_
          refine me0 (pc' := 52) (S' := [ii 1, ii (vk (ch k) : Int), ii ((b : Nat) : Int)]) dm_X1_gather_51 rfl rfl rfl rfl ?_
          refine y_2ne (a := (vk (ch k) : Int)) (b := 1) (t := 59) (pc' := 55) dm_X1_gather_52 rfl rfl (by omega) (fun hb19 => ?_) (fun hb19 => ?_)
          · refine me0 (pc' := 60) (S' := [ii 0, ii ((b : Nat) : Int)]) dm_X1_gather_59 rfl rfl rfl rfl ?_
            refine y_iadd (a := ((b : Nat) : Int)) (b := 0) dm_X1_gather_60 (pc' := 61) rfl ?_
            refine pg_st (S' := [ii ((b : Nat) : Int)]) (congrArg (fun z => ii z :: []) (show ((b : Nat) : Int) + 0 = ((b : Nat) : Int) by omega)) ?_
            refine me1 (pc' := 63) (L' := [(6, ii ((b : Nat) : Int)), (5, ii ((a + 1 : Nat) : Int)), (8, ii (vk (ch k) : Int)), (0, .ref 16), (1, .ref p), (2, ii fr), (3, ii (n : Int)), (4, ii stp), (7, ii (k : Int))]) (S' := []) dm_X1_gather_61 rfl rfl rfl rfl ?_
            refine y_iinc (pc' := 66) (L' := [(7, ii ((k : Int) + 1)), (6, ii ((b : Nat) : Int)), (5, ii ((a + 1 : Nat) : Int)), (8, ii (vk (ch k) : Int)), (0, .ref 16), (1, .ref p), (2, ii fr), (3, ii (n : Int)), (4, ii stp)]) dm_X1_gather_63 (y_incp (a := (k : Int)) (c := 1) rfl rfl (by decide)) rfl ?_
            refine me2 (pc' := 9) (S' := []) dm_X1_gather_66 rfl rfl rfl ?_
            exact pg_sub (L := [(0, .ref 16), (1, .ref p), (2, ii fr), (3, ii (n : Int)), (4, ii stp), (5, ii (((a + 1) : Nat) : Int)), (6, ii ((b : Nat) : Int)), (7, ii ((k + 1) : Int))]) rfl rfl rfl (ih9 (n - (k + 1)) (by omega) (k + 1) (a + 1) b rfl (by omega) ((congrArg (· + 1) ha).trans (cnB_s1 (p := isNb ch) (decide_eq_true (by omega))).symm) (hb.trans (cnB_s0 (p := isSg ch) (fun z => by have := of_decide_eq_true z; omega)).symm))
          · refine me0 (pc' := 56) (S' := [ii 1, ii ((b : Nat) : Int)]) dm_X1_gather_55 rfl rfl rfl rfl ?_
            refine me2 (pc' := 60) (S' := [ii 1, ii ((b : Nat) : Int)]) dm_X1_gather_56 rfl rfl rfl ?_
            refine y_iadd (a := ((b : Nat) : Int)) (b := 1) dm_X1_gather_60 (pc' := 61) rfl ?_
            refine pg_st (S' := [ii ((b + 1 : Nat) : Int)]) (congrArg (fun z => ii z :: []) (show ((b : Nat) : Int) + 1 = ((b + 1 : Nat) : Int) by omega)) ?_
            refine me1 (pc' := 63) (L' := [(6, ii ((b + 1 : Nat) : Int)), (5, ii ((a + 1 : Nat) : Int)), (8, ii (vk (ch k) : Int)), (0, .ref 16), (1, .ref p), (2, ii fr), (3, ii (n : Int)), (4, ii stp), (7, ii (k : Int))]) (S' := []) dm_X1_gather_61 rfl rfl rfl rfl ?_
            refine y_iinc (pc' := 66) (L' := [(7, ii ((k : Int) + 1)), (6, ii ((b + 1 : Nat) : Int)), (5, ii ((a + 1 : Nat) : Int)), (8, ii (vk (ch k) : Int)), (0, .ref 16), (1, .ref p), (2, ii fr), (3, ii (n : Int)), (4, ii stp)]) dm_X1_gather_63 (y_incp (a := (k : Int)) (c := 1) rfl rfl (by decide)) rfl ?_
            refine me2 (pc' := 9) (S' := []) dm_X1_gather_66 rfl rfl rfl ?_
            exact pg_sub (L := [(0, .ref 16), (1, .ref p), (2, ii fr), (3, ii (n : Int)), (4, ii stp), (5, ii (((a + 1) : Nat) : Int)), (6, ii (((b + 1) : Nat) : Int)), (7, ii ((k + 1) : Int))]) rfl rfl rfl (ih9 (n - (k + 1)) (by omega) (k + 1) (a + 1) (b + 1) rfl (by omega) ((congrArg (· + 1) ha).trans (cnB_s1 (p := isNb ch) (decide_eq_true (by omega))).symm) ((congrArg (· + 1) hb).trans (cnB_s1 (p := isSg ch) (decide_eq_true (by omega))).symm))
  exact pg_sub (L := [(0, .ref 16), (1, .ref p), (2, ii fr), (3, ii (n : Int)), (4, ii stp), (5, ii ((0 : Nat) : Int)), (6, ii ((0 : Nat) : Int)), (7, ii (0 : Int))]) rfl rfl rfl (lp9 _ 0 0 0 rfl (Nat.zero_le _) rfl rfl)
