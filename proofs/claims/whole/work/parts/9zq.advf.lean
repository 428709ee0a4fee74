theorem dm_X1_startAdverb_230 : mj_dec prog_3_method_20_code 230 = some (.iconst 1, 1) := by decide +kernel
theorem dm_X1_startAdverb_231 : mj_dec prog_3_method_20_code 231 = some (.goto 4, 3) := by decide +kernel
theorem dm_X1_startAdverb_243 : mj_dec prog_3_method_20_code 243 = some (.aload_n 3, 1) := by decide +kernel
theorem dm_X1_startAdverb_244 : mj_dec prog_3_method_20_code 244 = some (.iconst 0, 1) := by decide +kernel
theorem dm_X1_startAdverb_245 : mj_dec prog_3_method_20_code 245 = some (.invokevirtual 243, 3) := by decide +kernel
theorem dm_X1_startAdverb_248 : mj_dec prog_3_method_20_code 248 = some (.goto 4, 3) := by decide +kernel
theorem m_advFO {xt : mj_X} {f1 : Nat → Value} {d t e dq qw fr p i k mk ln : Nat} {T : Nat → Tok} {A : Nat → Prop} {h : mj_H} {w : VV} {sf ff : Nat → Option Nat} {dd ca ou wk pl fl fn fm fb : Int} {nx nw vx vy dg lf rt fo fx fy : Value} (hx1 : xt 1 = some (.long, 0, f1)) (hd : 6 ≤ d) (hl : 127 ≤ h.length) (hA : okA A h) (hK : TOKS T mk ln) (h16 : h[16]? = some (mcC (t : Int) (dq : Int) ca ou wk 0 pl nw vx vy dg ((k + 1 : Nat) : Int) lf rt)) (h32 : h[32]? = some (cA 4 8192 sf)) (ht : t < 8192) (h33 : h[33]? = some (cA 7 64 ff)) (hdq : dq < 64) (hff : ff dq = some fr) (hfr2 : 34 ≤ fr ∧ fr ≤ 97) (hfr : h[fr]? = some (cO 0 [ii fl, fo, fx, fy, ii fn, ii fm, ii fb])) (hp : h[p]? = some (doC T i dd nx)) (hp2 : 127 ≤ p) (hkA : k < avM T i) (hca : -2147483648 ≤ ca ∧ ca ≤ 2147483647) (hwk : 0 ≤ wk ∧ wk ≤ 1000000) (hw : cv A h (e + 1) qw w) (hle : 3 ≤ wk) (h39 : tqD (T (i + 1 + k)) ≠ 39) (hz0 : vm w ≠ 0) (had : -2147483648 ≤ tqD (T (i + 1 + k)) ∧ tqD (T (i + 1 + k)) ≤ 2147483647) : pgN xt d 71 [.ref 16, .ref p, .null, .ref qw] h (fun h' => ∃ q2 : Nat, FX (fun y => y = 16 ∨ y = 32 ∨ y = fr) 1 9 h h' ∧ h'[16]? = some (mcC ((t + 1 : Nat) : Int) ((dq : Int) + 1) ca ou (wk - 3) 0 pl nw vx vy .null ((k + 1 : Nat) : Int) lf rt) ∧ h'[32]? = some (cA 4 8192 (va_up sf t (some q2))) ∧ h'[fr]? = some (cO 0 [ii ((k + 1 : Nat) : Int), .ref p, .null, .ref qw, ii 1, ii (vm w : Int), ii (t : Int)]) ∧ cv (newA A h h') h' (e + 1) q2 (vit w 0)) := by
  have hz8 := hw
  obtain ⟨hw2, ⟨hq2, hqA2⟩, hsz2, hlv2, row2, fr2, vals2, hwq, -, -, -, -⟩ := id hw
  have hqw : qw = 25 ∨ qw = 101 ∨ 127 ≤ qw := (hA qw hqA2).2
  have hwm := vw1_m hw2
  refine x_enter pm_X1_startAdverb (L0 := [(0, .ref 16), (1, .ref p), (2, .null), (3, .ref qw)]) rfl (Nat.le_of_ble_eq_true rfl) (by omega) ?_
  refine me1 (pc' := 1) (L' := [(0, .ref 16), (1, .ref p), (2, .null), (3, .ref qw)]) (S' := [.ref 16]) dm_X1_startAdverb_0 rfl rfl rfl rfl ?_
  refine me0 (pc' := 2) (S' := [.null, .ref 16]) dm_X1_startAdverb_1 rfl rfl rfl rfl ?_
  refine me3 (pc' := 5) (S' := []) (h1 := (h).set 16 (cO 1 [.ref 4, .ref 17, .ref 26, .ref 32, ii (t : Int), .ref 33, ii (dq : Int), ii ca, ii ou, ii wk, ii 0, ii pl, nw, vx, vy, .null, ii ((k + 1 : Nat) : Int), lf, rt])) dm_X1_startAdverb_2 (g_put (fs' := [.ref 4, .ref 17, .ref 26, .ref 32, ii (t : Int), .ref 33, ii (dq : Int), ii ca, ii ou, ii wk, ii 0, ii pl, nw, vx, vy, .null, ii ((k + 1 : Nat) : Int), lf, rt]) h16 rfl rfl rfl (by simp) rfl (by decide) (fun z => by cases z) (by decide)) rfl rfl rfl ?_
  refine me1 (pc' := 6) (L' := [(0, .ref 16), (1, .ref p), (2, .null), (3, .ref qw)]) (S' := [.ref 16]) dm_X1_startAdverb_5 rfl rfl rfl rfl ?_
  refine me0 (pc' := 7) (S' := [ii 3, .ref 16]) dm_X1_startAdverb_6 rfl rfl rfl rfl ?_
  refine me1 (pc' := 8) (L' := [(0, .ref 16), (1, .ref p), (2, .null), (3, .ref qw)]) (S' := [.ref p, ii 3, .ref 16]) dm_X1_startAdverb_7 rfl rfl rfl rfl ?_
  refine x_cv (pc' := 11) (rest := []) dm_X1_startAdverb_8 rfl (g_inv (As := [ii 3, .ref p]) (S := []) (hl_set (hl_lt h16)) rfl rfl rfl (by decide)) rfl rfl rfl (m_takeT (n := 3) (by omega) (hl_set (hl_lt h16)) (hl_ne (by omega) hp) hp2 hca (by decide) hwk hle (by rw [List.set_set])) ?_
  rintro _ _ ⟨rfl, rfl⟩
  refine me_1t (pc' := 15) dm_X1_startAdverb_11 rfl (by decide) ?_
  refine me1 (pc' := 16) (L' := [(0, .ref 16), (1, .ref p), (2, .null), (3, .ref qw)]) (S' := [.ref p]) dm_X1_startAdverb_15 rfl rfl rfl rfl ?_
  refine me1 (pc' := 17) (L' := [(0, .ref 16), (1, .ref p), (2, .null), (3, .ref qw)]) (S' := [.ref 16, .ref p]) dm_X1_startAdverb_16 rfl rfl rfl rfl ?_
  refine me3 (pc' := 20) (S' := [ii ((k + 1 : Nat) : Int), .ref p]) dm_X1_startAdverb_17 (g_get (v := ii ((k + 1 : Nat) : Int)) (hl_set (hl_lt h16)) rfl rfl (by decide)) rfl rfl rfl ?_
  refine x_cp (pc' := 23) (v := ii (tqD (T (i + 1 + k)))) (rest := []) dm_X1_startAdverb_20 rfl (g_inv (As := [ii ((k + 1 : Nat) : Int)]) (S := []) (hl_ne (by omega) hp) rfl rfl rfl (by omega)) rfl rfl rfl (m_adverbAt (by omega) hK (hl_ne (by omega) hp) (by omega) hkA) ?_
  refine me0 (pc' := 25) (S' := [ii 39, ii (tqD (T (i + 1 + k)))]) dm_X1_startAdverb_23 rfl rfl rfl rfl ?_
  refine y_2ne (a := tqD (T (i + 1 + k))) (b := 39) (t := 32) (pc' := 28) dm_X1_startAdverb_25 rfl rfl (by omega) (fun hb1 => ?_) (fun hb1 => ?_)
  · refine me0 (pc' := 33) (S' := [ii 0]) dm_X1_startAdverb_32 rfl rfl rfl rfl ?_
    refine me1 (pc' := 35) (L' := [(4, ii 0), (0, .ref 16), (1, .ref p), (2, .null), (3, .ref qw)]) (S' := []) dm_X1_startAdverb_33 rfl rfl rfl rfl ?_
    refine me1 (pc' := 37) (L' := [(4, ii 0), (0, .ref 16), (1, .ref p), (2, .null), (3, .ref qw)]) (S' := [ii 0]) dm_X1_startAdverb_35 rfl rfl rfl rfl ?_
    refine me_1t (pc' := 73) dm_X1_startAdverb_37 rfl (by decide) ?_
    refine me0 (pc' := 74) (S' := [ii 0]) dm_X1_startAdverb_73 rfl rfl rfl rfl ?_
    refine me1 (pc' := 76) (L' := [(5, ii 0), (4, ii 0), (0, .ref 16), (1, .ref p), (2, .null), (3, .ref qw)]) (S' := []) dm_X1_startAdverb_74 rfl rfl rfl rfl ?_
    refine me1 (pc' := 78) (L' := [(5, ii 0), (4, ii 0), (0, .ref 16), (1, .ref p), (2, .null), (3, .ref qw)]) (S' := [ii 0]) dm_X1_startAdverb_76 rfl rfl rfl rfl ?_
    refine me_1f (pc' := 81) dm_X1_startAdverb_78 rfl (by decide) rfl ?_
    refine me1 (pc' := 83) (L' := [(5, ii 0), (4, ii 0), (0, .ref 16), (1, .ref p), (2, .null), (3, .ref qw)]) (S' := [ii 0]) dm_X1_startAdverb_81 rfl rfl rfl rfl ?_
    refine me_1f (pc' := 86) dm_X1_startAdverb_83 rfl (by decide) rfl ?_
    refine me1 (pc' := 87) (L' := [(5, ii 0), (4, ii 0), (0, .ref 16), (1, .ref p), (2, .null), (3, .ref qw)]) (S' := [.null]) dm_X1_startAdverb_86 rfl rfl rfl rfl ?_
    refine me2 (pc' := 90) (S' := []) dm_X1_startAdverb_87 rfl rfl rfl ?_
    refine me1 (pc' := 91) (L' := [(5, ii 0), (4, ii 0), (0, .ref 16), (1, .ref p), (2, .null), (3, .ref qw)]) (S' := [.ref qw]) dm_X1_startAdverb_90 rfl rfl rfl rfl ?_
    refine me3 (pc' := 94) (S' := [ii (vm w : Int)]) dm_X1_startAdverb_91 (g_get (v := ii (vm w : Int)) (hl_ne (by omega) hwq) rfl rfl (by omega)) rfl rfl rfl ?_
    refine y_1ne (a := (vm w : Int)) (t := 104) (pc' := 97) dm_X1_startAdverb_94 rfl rfl (by omega) (fun hb2 => ?_) (fun hb2 => ?_)
    · refine me1 (pc' := 105) (L' := [(5, ii 0), (4, ii 0), (0, .ref 16), (1, .ref p), (2, .null), (3, .ref qw)]) (S' := [.ref 16]) dm_X1_startAdverb_104 rfl rfl rfl rfl ?_
      refine me3 (pc' := 108) (S' := [ii (dq : Int)]) dm_X1_startAdverb_105 (g_get (v := ii (dq : Int)) (hl_set (hl_lt h16)) rfl rfl (by decide)) rfl rfl rfl ?_
      refine me1 (pc' := 109) (L' := [(5, ii 0), (4, ii 0), (0, .ref 16), (1, .ref p), (2, .null), (3, .ref qw)]) (S' := [.ref 16, ii (dq : Int)]) dm_X1_startAdverb_108 rfl rfl rfl rfl ?_
      refine me3 (pc' := 112) (S' := [.ref 33, ii (dq : Int)]) dm_X1_startAdverb_109 (g_get (v := .ref 33) (hl_set (hl_lt h16)) rfl rfl (by decide)) rfl rfl rfl ?_
      refine me3 (pc' := 113) (S' := [ii 64, ii (dq : Int)]) dm_X1_startAdverb_112 (yh_len (n := 64) rfl (hl_ne (by decide) h33) (by decide)) rfl rfl rfl ?_
      refine y_2lt (a := (dq : Int)) (b := 64) (t := 124) (pc' := 116) dm_X1_startAdverb_113 rfl rfl (by omega) (fun hb3 => ?_) (fun hb3 => ?_)
      · refine me1 (pc' := 125) (L' := [(5, ii 0), (4, ii 0), (0, .ref 16), (1, .ref p), (2, .null), (3, .ref qw)]) (S' := [.ref 16]) dm_X1_startAdverb_124 rfl rfl rfl rfl ?_
        refine me3 (pc' := 128) (S' := [.ref 33]) dm_X1_startAdverb_125 (g_get (v := .ref 33) (hl_set (hl_lt h16)) rfl rfl (by decide)) rfl rfl rfl ?_
        refine me1 (pc' := 129) (L' := [(5, ii 0), (4, ii 0), (0, .ref 16), (1, .ref p), (2, .null), (3, .ref qw)]) (S' := [.ref 16, .ref 33]) dm_X1_startAdverb_128 rfl rfl rfl rfl ?_
        refine me3 (pc' := 132) (S' := [ii (dq : Int), .ref 33]) dm_X1_startAdverb_129 (g_get (v := ii (dq : Int)) (hl_set (hl_lt h16)) rfl rfl (by decide)) rfl rfl rfl ?_
        refine me3 (pc' := 133) (S' := [.ref fr]) dm_X1_startAdverb_132 (yh_aald (w := some fr) rfl (hl_ne (by decide) h33) (by omega) (by omega) (by omega) (by decide) hff) rfl rfl rfl ?_
        refine me1 (pc' := 135) (L' := [(6, .ref fr), (5, ii 0), (4, ii 0), (0, .ref 16), (1, .ref p), (2, .null), (3, .ref qw)]) (S' := []) dm_X1_startAdverb_133 rfl rfl rfl rfl ?_
        refine me1 (pc' := 136) (L' := [(6, .ref fr), (5, ii 0), (4, ii 0), (0, .ref 16), (1, .ref p), (2, .null), (3, .ref qw)]) (S' := [.ref 16]) dm_X1_startAdverb_135 rfl rfl rfl rfl ?_
        refine me0 (pc' := 137) (S' := [.ref 16, .ref 16]) dm_X1_startAdverb_136 rfl rfl rfl rfl ?_
        refine me3 (pc' := 140) (S' := [ii (dq : Int), .ref 16]) dm_X1_startAdverb_137 (g_get (v := ii (dq : Int)) (hl_set (hl_lt h16)) rfl rfl (by decide)) rfl rfl rfl ?_
        refine me0 (pc' := 141) (S' := [ii 1, ii (dq : Int), .ref 16]) dm_X1_startAdverb_140 rfl rfl rfl rfl ?_
        refine y_iadd (a := (dq : Int)) (b := 1) dm_X1_startAdverb_141 (pc' := 142) rfl ?_
        refine me3 (pc' := 145) (S' := []) (h1 := (h).set 16 (cO 1 [.ref 4, .ref 17, .ref 26, .ref 32, ii (t : Int), .ref 33, ii ((dq : Int) + 1), ii ca, ii ou, ii (wk - 3), ii 0, ii pl, nw, vx, vy, .null, ii ((k + 1 : Nat) : Int), lf, rt])) dm_X1_startAdverb_142 (g_put (fs' := [.ref 4, .ref 17, .ref 26, .ref 32, ii (t : Int), .ref 33, ii ((dq : Int) + 1), ii ca, ii ou, ii (wk - 3), ii 0, ii pl, nw, vx, vy, .null, ii ((k + 1 : Nat) : Int), lf, rt]) (hl_set (hl_lt h16)) rfl (by rw [List.set_set]) rfl (by simp) rfl (by decide) (fun z => by cases z) (by decide)) rfl rfl rfl ?_
        refine me1 (pc' := 147) (L' := [(6, .ref fr), (5, ii 0), (4, ii 0), (0, .ref 16), (1, .ref p), (2, .null), (3, .ref qw)]) (S' := [.ref fr]) dm_X1_startAdverb_145 rfl rfl rfl rfl ?_
        refine me1 (pc' := 148) (L' := [(6, .ref fr), (5, ii 0), (4, ii 0), (0, .ref 16), (1, .ref p), (2, .null), (3, .ref qw)]) (S' := [.ref 16, .ref fr]) dm_X1_startAdverb_147 rfl rfl rfl rfl ?_
        refine me3 (pc' := 151) (S' := [ii ((k + 1 : Nat) : Int), .ref fr]) dm_X1_startAdverb_148 (g_get (v := ii ((k + 1 : Nat) : Int)) (hl_set (hl_lt h16)) rfl rfl (by decide)) rfl rfl rfl ?_
        refine me3 (pc' := 154) (S' := []) (h1 := ((h).set 16 (cO 1 [.ref 4, .ref 17, .ref 26, .ref 32, ii (t : Int), .ref 33, ii ((dq : Int) + 1), ii ca, ii ou, ii (wk - 3), ii 0, ii pl, nw, vx, vy, .null, ii ((k + 1 : Nat) : Int), lf, rt])).set fr (cO 0 [ii ((k + 1 : Nat) : Int), fo, fx, fy, ii fn, ii fm, ii fb])) dm_X1_startAdverb_151 (g_put (fs' := [ii ((k + 1 : Nat) : Int), fo, fx, fy, ii fn, ii fm, ii fb]) (hl_ne (by omega) hfr) rfl rfl rfl (by simp) rfl (by decide) (fun z => by cases z) (by omega)) rfl rfl rfl ?_
        refine me1 (pc' := 156) (L' := [(6, .ref fr), (5, ii 0), (4, ii 0), (0, .ref 16), (1, .ref p), (2, .null), (3, .ref qw)]) (S' := [.ref fr]) dm_X1_startAdverb_154 rfl rfl rfl rfl ?_
        refine me1 (pc' := 157) (L' := [(6, .ref fr), (5, ii 0), (4, ii 0), (0, .ref 16), (1, .ref p), (2, .null), (3, .ref qw)]) (S' := [.ref p, .ref fr]) dm_X1_startAdverb_156 rfl rfl rfl rfl ?_
        refine me3 (pc' := 160) (S' := []) (h1 := ((h).set 16 (cO 1 [.ref 4, .ref 17, .ref 26, .ref 32, ii (t : Int), .ref 33, ii ((dq : Int) + 1), ii ca, ii ou, ii (wk - 3), ii 0, ii pl, nw, vx, vy, .null, ii ((k + 1 : Nat) : Int), lf, rt])).set fr (cO 0 [ii ((k + 1 : Nat) : Int), .ref p, fx, fy, ii fn, ii fm, ii fb])) dm_X1_startAdverb_157 (g_put (fs' := [ii ((k + 1 : Nat) : Int), .ref p, fx, fy, ii fn, ii fm, ii fb]) (hl_set (hl_lt (hl_ne (by omega) hfr))) rfl (by rw [List.set_set]) rfl (by simp) rfl (by decide) (fun z => by cases z) (by omega)) rfl rfl rfl ?_
        refine me1 (pc' := 162) (L' := [(6, .ref fr), (5, ii 0), (4, ii 0), (0, .ref 16), (1, .ref p), (2, .null), (3, .ref qw)]) (S' := [.ref fr]) dm_X1_startAdverb_160 rfl rfl rfl rfl ?_
        refine me1 (pc' := 163) (L' := [(6, .ref fr), (5, ii 0), (4, ii 0), (0, .ref 16), (1, .ref p), (2, .null), (3, .ref qw)]) (S' := [.null, .ref fr]) dm_X1_startAdverb_162 rfl rfl rfl rfl ?_
        refine me3 (pc' := 166) (S' := []) (h1 := ((h).set 16 (cO 1 [.ref 4, .ref 17, .ref 26, .ref 32, ii (t : Int), .ref 33, ii ((dq : Int) + 1), ii ca, ii ou, ii (wk - 3), ii 0, ii pl, nw, vx, vy, .null, ii ((k + 1 : Nat) : Int), lf, rt])).set fr (cO 0 [ii ((k + 1 : Nat) : Int), .ref p, .null, fy, ii fn, ii fm, ii fb])) dm_X1_startAdverb_163 (g_put (fs' := [ii ((k + 1 : Nat) : Int), .ref p, .null, fy, ii fn, ii fm, ii fb]) (hl_set (hl_lt (hl_ne (by omega) hfr))) rfl (by rw [List.set_set]) rfl (by simp) rfl (by decide) (fun z => by cases z) (by omega)) rfl rfl rfl ?_
        refine me1 (pc' := 168) (L' := [(6, .ref fr), (5, ii 0), (4, ii 0), (0, .ref 16), (1, .ref p), (2, .null), (3, .ref qw)]) (S' := [.ref fr]) dm_X1_startAdverb_166 rfl rfl rfl rfl ?_
        refine me1 (pc' := 169) (L' := [(6, .ref fr), (5, ii 0), (4, ii 0), (0, .ref 16), (1, .ref p), (2, .null), (3, .ref qw)]) (S' := [.ref qw, .ref fr]) dm_X1_startAdverb_168 rfl rfl rfl rfl ?_
        refine me3 (pc' := 172) (S' := []) (h1 := ((h).set 16 (cO 1 [.ref 4, .ref 17, .ref 26, .ref 32, ii (t : Int), .ref 33, ii ((dq : Int) + 1), ii ca, ii ou, ii (wk - 3), ii 0, ii pl, nw, vx, vy, .null, ii ((k + 1 : Nat) : Int), lf, rt])).set fr (cO 0 [ii ((k + 1 : Nat) : Int), .ref p, .null, .ref qw, ii fn, ii fm, ii fb])) dm_X1_startAdverb_169 (g_put (fs' := [ii ((k + 1 : Nat) : Int), .ref p, .null, .ref qw, ii fn, ii fm, ii fb]) (hl_set (hl_lt (hl_ne (by omega) hfr))) rfl (by rw [List.set_set]) rfl (by simp) rfl (by decide) (fun z => by cases z) (by omega)) rfl rfl rfl ?_
        refine me1 (pc' := 174) (L' := [(6, .ref fr), (5, ii 0), (4, ii 0), (0, .ref 16), (1, .ref p), (2, .null), (3, .ref qw)]) (S' := [.ref fr]) dm_X1_startAdverb_172 rfl rfl rfl rfl ?_
        refine me1 (pc' := 175) (L' := [(6, .ref fr), (5, ii 0), (4, ii 0), (0, .ref 16), (1, .ref p), (2, .null), (3, .ref qw)]) (S' := [.ref 16, .ref fr]) dm_X1_startAdverb_174 rfl rfl rfl rfl ?_
        refine me3 (pc' := 178) (S' := [ii (t : Int), .ref fr]) dm_X1_startAdverb_175 (g_get (v := ii (t : Int)) (hl_ne (by omega) (hl_set (hl_lt h16))) rfl rfl (by decide)) rfl rfl rfl ?_
        refine me3 (pc' := 181) (S' := []) (h1 := ((h).set 16 (cO 1 [.ref 4, .ref 17, .ref 26, .ref 32, ii (t : Int), .ref 33, ii ((dq : Int) + 1), ii ca, ii ou, ii (wk - 3), ii 0, ii pl, nw, vx, vy, .null, ii ((k + 1 : Nat) : Int), lf, rt])).set fr (cO 0 [ii ((k + 1 : Nat) : Int), .ref p, .null, .ref qw, ii fn, ii fm, ii (t : Int)])) dm_X1_startAdverb_178 (g_put (fs' := [ii ((k + 1 : Nat) : Int), .ref p, .null, .ref qw, ii fn, ii fm, ii (t : Int)]) (hl_set (hl_lt (hl_ne (by omega) hfr))) rfl (by rw [List.set_set]) rfl (by simp) rfl (by decide) (fun z => by cases z) (by omega)) rfl rfl rfl ?_
        refine me1 (pc' := 183) (L' := [(6, .ref fr), (5, ii 0), (4, ii 0), (0, .ref 16), (1, .ref p), (2, .null), (3, .ref qw)]) (S' := [.ref fr]) dm_X1_startAdverb_181 rfl rfl rfl rfl ?_
        refine me0 (pc' := 184) (S' := [ii 0, .ref fr]) dm_X1_startAdverb_183 rfl rfl rfl rfl ?_
        refine me3 (pc' := 187) (S' := []) (h1 := ((h).set 16 (cO 1 [.ref 4, .ref 17, .ref 26, .ref 32, ii (t : Int), .ref 33, ii ((dq : Int) + 1), ii ca, ii ou, ii (wk - 3), ii 0, ii pl, nw, vx, vy, .null, ii ((k + 1 : Nat) : Int), lf, rt])).set fr (cO 0 [ii ((k + 1 : Nat) : Int), .ref p, .null, .ref qw, ii 0, ii fm, ii (t : Int)])) dm_X1_startAdverb_184 (g_put (fs' := [ii ((k + 1 : Nat) : Int), .ref p, .null, .ref qw, ii 0, ii fm, ii (t : Int)]) (hl_set (hl_lt (hl_ne (by omega) hfr))) rfl (by rw [List.set_set]) rfl (by simp) rfl (by decide) (fun z => by cases z) (by omega)) rfl rfl rfl ?_
        refine me1 (pc' := 189) (L' := [(6, .ref fr), (5, ii 0), (4, ii 0), (0, .ref 16), (1, .ref p), (2, .null), (3, .ref qw)]) (S' := [.ref fr]) dm_X1_startAdverb_187 rfl rfl rfl rfl ?_
        refine me1 (pc' := 191) (L' := [(6, .ref fr), (5, ii 0), (4, ii 0), (0, .ref 16), (1, .ref p), (2, .null), (3, .ref qw)]) (S' := [ii 0, .ref fr]) dm_X1_startAdverb_189 rfl rfl rfl rfl ?_
        refine me_1t (pc' := 212) dm_X1_startAdverb_191 rfl (by decide) ?_
        refine me1 (pc' := 213) (L' := [(6, .ref fr), (5, ii 0), (4, ii 0), (0, .ref 16), (1, .ref p), (2, .null), (3, .ref qw)]) (S' := [.ref qw, .ref fr]) dm_X1_startAdverb_212 rfl rfl rfl rfl ?_
        refine me3 (pc' := 216) (S' := [ii (vm w : Int), .ref fr]) dm_X1_startAdverb_213 (g_get (v := ii (vm w : Int)) (hl_ne (by omega) (hl_ne (by omega) hwq)) rfl rfl (by omega)) rfl rfl rfl ?_
        refine me3 (pc' := 219) (S' := []) (h1 := ((h).set 16 (cO 1 [.ref 4, .ref 17, .ref 26, .ref 32, ii (t : Int), .ref 33, ii ((dq : Int) + 1), ii ca, ii ou, ii (wk - 3), ii 0, ii pl, nw, vx, vy, .null, ii ((k + 1 : Nat) : Int), lf, rt])).set fr (cO 0 [ii ((k + 1 : Nat) : Int), .ref p, .null, .ref qw, ii 0, ii (vm w : Int), ii (t : Int)])) dm_X1_startAdverb_216 (g_put (fs' := [ii ((k + 1 : Nat) : Int), .ref p, .null, .ref qw, ii 0, ii (vm w : Int), ii (t : Int)]) (hl_set (hl_lt (hl_ne (by omega) hfr))) rfl (by rw [List.set_set]) rfl (by simp) rfl (by decide) (fun z => by cases z) (by omega)) rfl rfl rfl ?_
        refine me1 (pc' := 221) (L' := [(6, .ref fr), (5, ii 0), (4, ii 0), (0, .ref 16), (1, .ref p), (2, .null), (3, .ref qw)]) (S' := [ii 0]) dm_X1_startAdverb_219 rfl rfl rfl rfl ?_
        refine me_1f (pc' := 224) dm_X1_startAdverb_221 rfl (by decide) rfl ?_
        refine me1 (pc' := 226) (L' := [(6, .ref fr), (5, ii 0), (4, ii 0), (0, .ref 16), (1, .ref p), (2, .null), (3, .ref qw)]) (S' := [.ref fr]) dm_X1_startAdverb_224 rfl rfl rfl rfl ?_
        refine me1 (pc' := 227) (L' := [(6, .ref fr), (5, ii 0), (4, ii 0), (0, .ref 16), (1, .ref p), (2, .null), (3, .ref qw)]) (S' := [.null, .ref fr]) dm_X1_startAdverb_226 rfl rfl rfl rfl ?_
        refine me2 (pc' := 230) (S' := [.ref fr]) dm_X1_startAdverb_227 rfl rfl rfl ?_
        refine me0 (pc' := 231) (S' := [ii 1, .ref fr]) dm_X1_startAdverb_230 rfl rfl rfl rfl ?_
        refine me2 (pc' := 235) (S' := [ii 1, .ref fr]) dm_X1_startAdverb_231 rfl rfl rfl ?_
        refine me3 (pc' := 238) (S' := []) (h1 := ((h).set 16 (cO 1 [.ref 4, .ref 17, .ref 26, .ref 32, ii (t : Int), .ref 33, ii ((dq : Int) + 1), ii ca, ii ou, ii (wk - 3), ii 0, ii pl, nw, vx, vy, .null, ii ((k + 1 : Nat) : Int), lf, rt])).set fr (cO 0 [ii ((k + 1 : Nat) : Int), .ref p, .null, .ref qw, ii 1, ii (vm w : Int), ii (t : Int)])) dm_X1_startAdverb_235 (g_put (fs' := [ii ((k + 1 : Nat) : Int), .ref p, .null, .ref qw, ii 1, ii (vm w : Int), ii (t : Int)]) (hl_set (hl_lt (hl_ne (by omega) hfr))) rfl (by rw [List.set_set]) rfl (by simp) rfl (by decide) (fun z => by cases z) (by omega)) rfl rfl rfl ?_
        refine me1 (pc' := 239) (L' := [(6, .ref fr), (5, ii 0), (4, ii 0), (0, .ref 16), (1, .ref p), (2, .null), (3, .ref qw)]) (S' := [.ref 16]) dm_X1_startAdverb_238 rfl rfl rfl rfl ?_
        refine me1 (pc' := 240) (L' := [(6, .ref fr), (5, ii 0), (4, ii 0), (0, .ref 16), (1, .ref p), (2, .null), (3, .ref qw)]) (S' := [.null, .ref 16]) dm_X1_startAdverb_239 rfl rfl rfl rfl ?_
        refine me2 (pc' := 243) (S' := [.ref 16]) dm_X1_startAdverb_240 rfl rfl rfl ?_
        refine me1 (pc' := 244) (L' := [(6, .ref fr), (5, ii 0), (4, ii 0), (0, .ref 16), (1, .ref p), (2, .null), (3, .ref qw)]) (S' := [.ref qw, .ref 16]) dm_X1_startAdverb_243 rfl rfl rfl rfl ?_
        refine me0 (pc' := 245) (S' := [ii 0, .ref qw, .ref 16]) dm_X1_startAdverb_244 rfl rfl rfl rfl ?_
        refine x_cv (pc' := 248) (rest := [.ref 16]) dm_X1_startAdverb_245 rfl (g_inv (As := [ii 0]) (S := [.ref 16]) (hl_ne (by omega) (hl_ne (by omega) hwq)) rfl rfl rfl (by omega)) rfl rfl rfl (c_itemAt (A := A) (e := e) (i := 0) hx1 (by omega) (by simp only [List.length_set]; omega) (cv_set (fun z => by have := hA _ z; omega) (cv_set (fun z => by have := hA _ z; omega) hz8)) (Or.inr (by omega)) (by omega)) ?_
        rintro x2 g2 hres2
        obtain ⟨q2, rfl⟩ := vres_ref hres2
        have fx2 := FX_vres (FX_set (c := cO 0 [ii fl, fo, fx, fy, ii fn, ii fm, ii fb]) (c' := cO 0 [ii ((k + 1 : Nat) : Int), .ref p, .null, .ref qw, ii 1, ii (vm w : Int), ii (t : Int)]) (Or.inr (Or.inr rfl)) (hl_ne (by omega) hfr) rfl (FX_set (c := cO 1 [.ref 4, .ref 17, .ref 26, .ref 32, ii (t : Int), .ref 33, ii (dq : Int), ii ca, ii ou, ii wk, ii 0, ii pl, nw, vx, vy, dg, ii ((k + 1 : Nat) : Int), lf, rt]) (c' := cO 1 [.ref 4, .ref 17, .ref 26, .ref 32, ii (t : Int), .ref 33, ii ((dq : Int) + 1), ii ca, ii ou, ii (wk - 3), ii 0, ii pl, nw, vx, vy, .null, ii ((k + 1 : Nat) : Int), lf, rt]) (Or.inl rfl) h16 rfl (FX_rf (fun y => y = 16 ∨ y = 32 ∨ y = fr) h))) hres2
        have bq := vres_B hres2 (h0 := h) (A0 := A) (fun x hx => Or.inl hx) (by simp only [List.length_set]; omega)
        obtain ⟨hwz, ⟨hqz, hqAz⟩, hszz, hlvz, rowz, frz, valsz, hpz, -, -, -, -⟩ := id bq.2.1
        have k216 := vres_get hres2 (hl_ne (by omega) (hl_set (hl_lt h16)))
        have k232 := vres_get hres2 (hl_ne (by omega) (hl_ne (by decide) h32))
        have k2fr := vres_get hres2 (hl_set (hl_lt (hl_ne (by omega) hfr)))
        have k2p := vres_get hres2 (hl_ne (by omega) (hl_ne (by omega) hp))
        refine me2 (pc' := 252) (S' := [.ref q2, .ref 16]) dm_X1_startAdverb_248 rfl rfl rfl ?_
        refine x_cn (pc' := 255) (rest := []) dm_X1_startAdverb_252 rfl (g_inv (As := [.ref q2]) (S := []) k216 rfl rfl rfl (by decide)) rfl rfl rfl (m_push (t := t) (by omega) hpz (by omega) k216 k232 ht rfl) ?_
        rintro _ rfl
        refine y_ret (r := none) dm_X1_startAdverb_255 rfl rfl rfl ?_
        refine ⟨rfl, q2, FX_up (FX_set (c := cO 1 [.ref 4, .ref 17, .ref 26, .ref 32, ii (t : Int), .ref 33, ii ((dq : Int) + 1), ii ca, ii ou, ii (wk - 3), ii 0, ii pl, nw, vx, vy, .null, ii ((k + 1 : Nat) : Int), lf, rt]) (c' := cO 1 [.ref 4, .ref 17, .ref 26, .ref 32, ii ((t + 1 : Nat) : Int), .ref 33, ii ((dq : Int) + 1), ii ca, ii ou, ii (wk - 3), ii 0, ii pl, nw, vx, vy, .null, ii ((k + 1 : Nat) : Int), lf, rt]) (Or.inl rfl) (hl_ne (by decide) k216) rfl (FX_set (c := cA 4 8192 sf) (c' := cA 4 8192 (va_up sf t (some q2))) (Or.inr (Or.inl rfl)) k232 rfl fx2)) (by omega) (by omega), (hl_set (hl_lt (hl_ne (by decide) k216))), (hl_ne (by decide) (hl_set (hl_lt k232))), (hl_ne (by omega) (hl_ne (by omega) k2fr)), cv_to hA hl (fun a ha => by rw [List.length_set]; exact bq.2.2 a ha) (cv_set (fun z => by rcases bq.2.2 _ z with y | y; (have := hA _ y; omega); omega) bq.2.1)⟩
      · exfalso; omega
    · exfalso; omega
  · exfalso; omega
