set_option maxRecDepth 20000 in
theorem pm_X1_startAdverb : mj_mmof pg_ms 71 = some ((⟨"ArrayCalculator$Machine", "startAdverb", "(LArrayCalculator$Op;LArrayCalculator$Value;LArrayCalculator$Value;)V"⟩, prog_3_method_20_code, 7, (Option.none : Option Jvm.ClassFile.FieldType)), 1, false, mj_dec prog_3_method_20_code) := rfl
theorem dm_X1_startAdverb_0 : mj_dec prog_3_method_20_code 0 = some (.aload_n 0, 1) := by decide +kernel
theorem dm_X1_startAdverb_1 : mj_dec prog_3_method_20_code 1 = some (.aconst_null, 1) := by decide +kernel
theorem dm_X1_startAdverb_2 : mj_dec prog_3_method_20_code 2 = some (.putfield 69, 3) := by decide +kernel
theorem dm_X1_startAdverb_5 : mj_dec prog_3_method_20_code 5 = some (.aload_n 0, 1) := by decide +kernel
theorem dm_X1_startAdverb_6 : mj_dec prog_3_method_20_code 6 = some (.iconst 3, 1) := by decide +kernel
theorem dm_X1_startAdverb_7 : mj_dec prog_3_method_20_code 7 = some (.aload_n 1, 1) := by decide +kernel
theorem dm_X1_startAdverb_8 : mj_dec prog_3_method_20_code 8 = some (.invokevirtual 192, 3) := by decide +kernel
theorem dm_X1_startAdverb_11 : mj_dec prog_3_method_20_code 11 = some (.ifCond .ne 4, 3) := by decide +kernel
theorem dm_X1_startAdverb_14 : mj_dec prog_3_method_20_code 14 = some (.return_, 1) := by decide +kernel
theorem m_advWT {xt : mj_X} {d t e dq qw fr ql p i k mk ln : Nat} {T : Nat → Tok} {A : Nat → Prop} {h H : mj_H} {v w : VV} {sf ff : Nat → Option Nat} {dd ca ou wk pl fl fn fm fb : Int} {nx nw vx vy dg lf rt fo fx fy : Value} (hd : 3 ≤ d) (hA : okA A h) (hK : TOKS T mk ln) (h16 : h[16]? = some (mcC (t : Int) (dq : Int) ca ou wk 0 pl nw vx vy dg ((k + 1 : Nat) : Int) lf rt)) (h32 : h[32]? = some (cA 4 8192 sf)) (ht : t < 8192) (h33 : h[33]? = some (cA 7 64 ff)) (hdq : dq < 64) (hff : ff dq = some fr) (hfr2 : 34 ≤ fr ∧ fr ≤ 97) (hfr : h[fr]? = some (cO 0 [ii fl, fo, fx, fy, ii fn, ii fm, ii fb])) (hp : h[p]? = some (doC T i dd nx)) (hp2 : 127 ≤ p) (hkA : k < avM T i) (hca : -2147483648 ≤ ca ∧ ca ≤ 2147483647) (hwk : 0 ≤ wk ∧ wk ≤ 1000000) (hw : cv A h (e + 1) qw w) (hv : cv A h (e + 1) ql v) (hle : wk < 3) (hH : h.set 16 (mcC (t : Int) (dq : Int) ca ou wk 10 (if 0 < ca then ou else (tqP (T i) : Int)) nw vx vy .null ((k + 1 : Nat) : Int) lf rt) = H) : pgN xt d 71 [.ref 16, .ref p, .ref ql, .ref qw] h (fun h' => h' = H) := by
  have hz8 := hw
  obtain ⟨hw2, ⟨hq2, hqA2⟩, hsz2, hlv2, row2, fr2, vals2, hwq, -, -, -, -⟩ := id hw
  have hqw : qw = 25 ∨ qw = 101 ∨ 127 ≤ qw := (hA qw hqA2).2
  have hwm := vw1_m hw2
  have hz7 := hv
  obtain ⟨hw1, ⟨hq1, hqA1⟩, hsz1, hlv1, row1, fr1, vals1, hvq, -, -, -, -⟩ := id hv
  have hql : ql = 25 ∨ ql = 101 ∨ 127 ≤ ql := (hA ql hqA1).2
  have hvm9 := vw1_m hw1
  refine x_enter pm_X1_startAdverb (L0 := [(0, .ref 16), (1, .ref p), (2, .ref ql), (3, .ref qw)]) rfl (Nat.le_of_ble_eq_true rfl) (by omega) ?_
  refine me1 (pc' := 1) (L' := [(0, .ref 16), (1, .ref p), (2, .ref ql), (3, .ref qw)]) (S' := [.ref 16]) dm_X1_startAdverb_0 rfl rfl rfl rfl ?_
  refine me0 (pc' := 2) (S' := [.null, .ref 16]) dm_X1_startAdverb_1 rfl rfl rfl rfl ?_
  refine me3 (pc' := 5) (S' := []) (h1 := (h).set 16 (cO 1 [.ref 4, .ref 17, .ref 26, .ref 32, ii (t : Int), .ref 33, ii (dq : Int), ii ca, ii ou, ii wk, ii 0, ii pl, nw, vx, vy, .null, ii ((k + 1 : Nat) : Int), lf, rt])) dm_X1_startAdverb_2 (g_put (fs' := [.ref 4, .ref 17, .ref 26, .ref 32, ii (t : Int), .ref 33, ii (dq : Int), ii ca, ii ou, ii wk, ii 0, ii pl, nw, vx, vy, .null, ii ((k + 1 : Nat) : Int), lf, rt]) h16 rfl rfl rfl (by simp) rfl (by decide) (fun z => by cases z) (by decide)) rfl rfl rfl ?_
  refine me1 (pc' := 6) (L' := [(0, .ref 16), (1, .ref p), (2, .ref ql), (3, .ref qw)]) (S' := [.ref 16]) dm_X1_startAdverb_5 rfl rfl rfl rfl ?_
  refine me0 (pc' := 7) (S' := [ii 3, .ref 16]) dm_X1_startAdverb_6 rfl rfl rfl rfl ?_
  refine me1 (pc' := 8) (L' := [(0, .ref 16), (1, .ref p), (2, .ref ql), (3, .ref qw)]) (S' := [.ref p, ii 3, .ref 16]) dm_X1_startAdverb_7 rfl rfl rfl rfl ?_
  refine x_cv (pc' := 11) (rest := []) dm_X1_startAdverb_8 rfl (g_inv (As := [ii 3, .ref p]) (S := []) (hl_set (hl_lt h16)) rfl rfl rfl (by decide)) rfl rfl rfl (m_takeF (n := 3) (by omega) (hl_set (hl_lt h16)) (hl_ne (by omega) hp) hp2 hca (by decide) hwk hle (by rw [List.set_set])) ?_
  rintro _ _ ⟨rfl, rfl⟩
  refine me_1f (pc' := 14) dm_X1_startAdverb_11 rfl (by decide) rfl ?_
  refine y_ret (r := none) dm_X1_startAdverb_14 rfl rfl rfl ?_
  exact ⟨rfl, hH⟩
theorem m_advWO {xt : mj_X} {d t e dq qw fr p i k mk ln : Nat} {T : Nat → Tok} {A : Nat → Prop} {h H : mj_H} {w : VV} {sf ff : Nat → Option Nat} {dd ca ou wk pl fl fn fm fb : Int} {nx nw vx vy dg lf rt fo fx fy : Value} (hd : 3 ≤ d) (hA : okA A h) (hK : TOKS T mk ln) (h16 : h[16]? = some (mcC (t : Int) (dq : Int) ca ou wk 0 pl nw vx vy dg ((k + 1 : Nat) : Int) lf rt)) (h32 : h[32]? = some (cA 4 8192 sf)) (ht : t < 8192) (h33 : h[33]? = some (cA 7 64 ff)) (hdq : dq < 64) (hff : ff dq = some fr) (hfr2 : 34 ≤ fr ∧ fr ≤ 97) (hfr : h[fr]? = some (cO 0 [ii fl, fo, fx, fy, ii fn, ii fm, ii fb])) (hp : h[p]? = some (doC T i dd nx)) (hp2 : 127 ≤ p) (hkA : k < avM T i) (hca : -2147483648 ≤ ca ∧ ca ≤ 2147483647) (hwk : 0 ≤ wk ∧ wk ≤ 1000000) (hw : cv A h (e + 1) qw w) (hle : wk < 3) (hH : h.set 16 (mcC (t : Int) (dq : Int) ca ou wk 10 (if 0 < ca then ou else (tqP (T i) : Int)) nw vx vy .null ((k + 1 : Nat) : Int) lf rt) = H) : pgN xt d 71 [.ref 16, .ref p, .null, .ref qw] h (fun h' => h' = H) := by
  have hz8 := hw
  obtain ⟨hw2, ⟨hq2, hqA2⟩, hsz2, hlv2, row2, fr2, vals2, hwq, -, -, -, -⟩ := id hw
  have hqw : qw = 25 ∨ qw = 101 ∨ 127 ≤ qw := (hA qw hqA2).2
  have hwm := vw1_m hw2
  refine x_enter pm_X1_startAdverb (L0 := [(0, .ref 16), (1, .ref p), (2, .null), (3, .ref qw)]) rfl (Nat.le_of_ble_eq_true rfl) (by omega) ?_
  refine me1 (pc' := 1) (L' := [(0, .ref 16), (1, .ref p), (2, .null), (3, .ref qw)]) (S' := [.ref 16]) dm_X1_startAdverb_0 rfl rfl rfl rfl ?_
  refine me0 (pc' := 2) (S' := [.null, .ref 16]) dm_X1_startAdverb_1 rfl rfl rfl rfl ?_
  refine me3 (pc' := 5) (S' := []) (h1 := (h).set 16 (cO 1 [.ref 4, .ref 17, .ref 26, .ref 32, ii (t : Int), .ref 33, ii (dq : Int), ii ca, ii ou, ii wk, ii 0, ii pl, nw, vx, vy, .null, ii ((k + 1 : Nat) : Int), lf, rt])) dm_X1_startAdverb_2 (g_put (fs' := [.ref 4, .ref 17, .ref 26, .ref 32, ii (t : Int), .ref 33, ii (dq : Int), ii ca, ii ou, ii wk, ii 0, ii pl, nw, vx, vy, .null, ii ((k + 1 : Nat) : Int), lf, rt]) h16 rfl rfl rfl (by simp) rfl (by decide) (fun z => by cases z) (by decide)) rfl rfl rfl ?_
  refine me1 (pc' := 6) (L' := [(0, .ref 16), (1, .ref p), (2, .null), (3, .ref qw)]) (S' := [.ref 16]) dm_X1_startAdverb_5 rfl rfl rfl rfl ?_
  refine me0 (pc' := 7) (S' := [ii 3, .ref 16]) dm_X1_startAdverb_6 rfl rfl rfl rfl ?_
  refine me1 (pc' := 8) (L' := [(0, .ref 16), (1, .ref p), (2, .null), (3, .ref qw)]) (S' := [.ref p, ii 3, .ref 16]) dm_X1_startAdverb_7 rfl rfl rfl rfl ?_
  refine x_cv (pc' := 11) (rest := []) dm_X1_startAdverb_8 rfl (g_inv (As := [ii 3, .ref p]) (S := []) (hl_set (hl_lt h16)) rfl rfl rfl (by decide)) rfl rfl rfl (m_takeF (n := 3) (by omega) (hl_set (hl_lt h16)) (hl_ne (by omega) hp) hp2 hca (by decide) hwk hle (by rw [List.set_set])) ?_
  rintro _ _ ⟨rfl, rfl⟩
  refine me_1f (pc' := 14) dm_X1_startAdverb_11 rfl (by decide) rfl ?_
  refine y_ret (r := none) dm_X1_startAdverb_14 rfl rfl rfl ?_
  exact ⟨rfl, hH⟩
theorem dm_X1_startAdverb_15 : mj_dec prog_3_method_20_code 15 = some (.aload_n 1, 1) := by decide +kernel
theorem dm_X1_startAdverb_16 : mj_dec prog_3_method_20_code 16 = some (.aload_n 0, 1) := by decide +kernel
theorem dm_X1_startAdverb_17 : mj_dec prog_3_method_20_code 17 = some (.getfield 77, 3) := by decide +kernel
theorem dm_X1_startAdverb_20 : mj_dec prog_3_method_20_code 20 = some (.invokevirtual 227, 3) := by decide +kernel
theorem dm_X1_startAdverb_23 : mj_dec prog_3_method_20_code 23 = some (.bipush 39, 2) := by decide +kernel
theorem dm_X1_startAdverb_25 : mj_dec prog_3_method_20_code 25 = some (.if_icmp .ne 7, 3) := by decide +kernel
theorem dm_X1_startAdverb_28 : mj_dec prog_3_method_20_code 28 = some (.iconst 1, 1) := by decide +kernel
theorem dm_X1_startAdverb_29 : mj_dec prog_3_method_20_code 29 = some (.goto 4, 3) := by decide +kernel
theorem dm_X1_startAdverb_33 : mj_dec prog_3_method_20_code 33 = some (.istore 4, 2) := by decide +kernel
theorem dm_X1_startAdverb_35 : mj_dec prog_3_method_20_code 35 = some (.iload 4, 2) := by decide +kernel
theorem dm_X1_startAdverb_37 : mj_dec prog_3_method_20_code 37 = some (.ifCond .eq 36, 3) := by decide +kernel
theorem dm_X1_startAdverb_40 : mj_dec prog_3_method_20_code 40 = some (.aload_n 2, 1) := by decide +kernel
theorem dm_X1_startAdverb_41 : mj_dec prog_3_method_20_code 41 = some (.ifnull 32, 3) := by decide +kernel
theorem dm_X1_startAdverb_44 : mj_dec prog_3_method_20_code 44 = some (.aload_n 2, 1) := by decide +kernel
theorem dm_X1_startAdverb_45 : mj_dec prog_3_method_20_code 45 = some (.invokevirtual 231, 3) := by decide +kernel
theorem dm_X1_startAdverb_48 : mj_dec prog_3_method_20_code 48 = some (.ifCond .ne 25, 3) := by decide +kernel
theorem dm_X1_startAdverb_51 : mj_dec prog_3_method_20_code 51 = some (.aload_n 3, 1) := by decide +kernel
theorem dm_X1_startAdverb_52 : mj_dec prog_3_method_20_code 52 = some (.invokevirtual 231, 3) := by decide +kernel
theorem dm_X1_startAdverb_55 : mj_dec prog_3_method_20_code 55 = some (.ifCond .ne 18, 3) := by decide +kernel
theorem dm_X1_startAdverb_58 : mj_dec prog_3_method_20_code 58 = some (.aload_n 2, 1) := by decide +kernel
theorem dm_X1_startAdverb_59 : mj_dec prog_3_method_20_code 59 = some (.getfield 234, 3) := by decide +kernel
theorem dm_X1_startAdverb_62 : mj_dec prog_3_method_20_code 62 = some (.aload_n 3, 1) := by decide +kernel
theorem dm_X1_startAdverb_63 : mj_dec prog_3_method_20_code 63 = some (.getfield 234, 3) := by decide +kernel
theorem dm_X1_startAdverb_66 : mj_dec prog_3_method_20_code 66 = some (.if_icmp .eq 7, 3) := by decide +kernel
theorem dm_X1_startAdverb_69 : mj_dec prog_3_method_20_code 69 = some (.iconst 1, 1) := by decide +kernel
theorem dm_X1_startAdverb_70 : mj_dec prog_3_method_20_code 70 = some (.goto 4, 3) := by decide +kernel
theorem dm_X1_startAdverb_74 : mj_dec prog_3_method_20_code 74 = some (.istore 5, 2) := by decide +kernel
theorem dm_X1_startAdverb_76 : mj_dec prog_3_method_20_code 76 = some (.iload 5, 2) := by decide +kernel
theorem dm_X1_startAdverb_78 : mj_dec prog_3_method_20_code 78 = some (.ifCond .ne 19, 3) := by decide +kernel
theorem dm_X1_startAdverb_97 : mj_dec prog_3_method_20_code 97 = some (.aload_n 0, 1) := by decide +kernel
theorem dm_X1_startAdverb_98 : mj_dec prog_3_method_20_code 98 = some (.iconst 4, 1) := by decide +kernel
theorem dm_X1_startAdverb_99 : mj_dec prog_3_method_20_code 99 = some (.aload_n 1, 1) := by decide +kernel
theorem dm_X1_startAdverb_100 : mj_dec prog_3_method_20_code 100 = some (.invokevirtual 125, 3) := by decide +kernel
theorem dm_X1_startAdverb_103 : mj_dec prog_3_method_20_code 103 = some (.return_, 1) := by decide +kernel
theorem m_advUT {xt : mj_X} {d t e dq qw fr ql p i k mk ln : Nat} {T : Nat → Tok} {A : Nat → Prop} {h H : mj_H} {v w : VV} {sf ff : Nat → Option Nat} {dd ca ou wk pl fl fn fm fb : Int} {nx nw vx vy dg lf rt fo fx fy : Value} (hd : 3 ≤ d) (hA : okA A h) (hK : TOKS T mk ln) (h16 : h[16]? = some (mcC (t : Int) (dq : Int) ca ou wk 0 pl nw vx vy dg ((k + 1 : Nat) : Int) lf rt)) (h32 : h[32]? = some (cA 4 8192 sf)) (ht : t < 8192) (h33 : h[33]? = some (cA 7 64 ff)) (hdq : dq < 64) (hff : ff dq = some fr) (hfr2 : 34 ≤ fr ∧ fr ≤ 97) (hfr : h[fr]? = some (cO 0 [ii fl, fo, fx, fy, ii fn, ii fm, ii fb])) (hp : h[p]? = some (doC T i dd nx)) (hp2 : 127 ≤ p) (hkA : k < avM T i) (hca : -2147483648 ≤ ca ∧ ca ≤ 2147483647) (hwk : 0 ≤ wk ∧ wk ≤ 1000000) (hw : cv A h (e + 1) qw w) (hv : cv A h (e + 1) ql v) (hle : 3 ≤ wk) (h39 : tqD (T (i + 1 + k)) = 39) (hun : ¬ vk v ≤ 1 ∧ ¬ vk w ≤ 1 ∧ vm v ≠ vm w) (had : -2147483648 ≤ tqD (T (i + 1 + k)) ∧ tqD (T (i + 1 + k)) ≤ 2147483647) (hH : h.set 16 (mcC (t : Int) (dq : Int) ca ou (wk - 3) 4 (if 0 < ca then ou else (tqP (T i) : Int)) nw vx vy .null ((k + 1 : Nat) : Int) lf rt) = H) : pgN xt d 71 [.ref 16, .ref p, .ref ql, .ref qw] h (fun h' => h' = H) := by
  have hz8 := hw
  obtain ⟨hw2, ⟨hq2, hqA2⟩, hsz2, hlv2, row2, fr2, vals2, hwq, -, -, -, -⟩ := id hw
  have hqw : qw = 25 ∨ qw = 101 ∨ 127 ≤ qw := (hA qw hqA2).2
  have hwm := vw1_m hw2
  have hz7 := hv
  obtain ⟨hw1, ⟨hq1, hqA1⟩, hsz1, hlv1, row1, fr1, vals1, hvq, -, -, -, -⟩ := id hv
  have hql : ql = 25 ∨ ql = 101 ∨ 127 ≤ ql := (hA ql hqA1).2
  have hvm9 := vw1_m hw1
  refine x_enter pm_X1_startAdverb (L0 := [(0, .ref 16), (1, .ref p), (2, .ref ql), (3, .ref qw)]) rfl (Nat.le_of_ble_eq_true rfl) (by omega) ?_
  refine me1 (pc' := 1) (L' := [(0, .ref 16), (1, .ref p), (2, .ref ql), (3, .ref qw)]) (S' := [.ref 16]) dm_X1_startAdverb_0 rfl rfl rfl rfl ?_
  refine me0 (pc' := 2) (S' := [.null, .ref 16]) dm_X1_startAdverb_1 rfl rfl rfl rfl ?_
  refine me3 (pc' := 5) (S' := []) (h1 := (h).set 16 (cO 1 [.ref 4, .ref 17, .ref 26, .ref 32, ii (t : Int), .ref 33, ii (dq : Int), ii ca, ii ou, ii wk, ii 0, ii pl, nw, vx, vy, .null, ii ((k + 1 : Nat) : Int), lf, rt])) dm_X1_startAdverb_2 (g_put (fs' := [.ref 4, .ref 17, .ref 26, .ref 32, ii (t : Int), .ref 33, ii (dq : Int), ii ca, ii ou, ii wk, ii 0, ii pl, nw, vx, vy, .null, ii ((k + 1 : Nat) : Int), lf, rt]) h16 rfl rfl rfl (by simp) rfl (by decide) (fun z => by cases z) (by decide)) rfl rfl rfl ?_
  refine me1 (pc' := 6) (L' := [(0, .ref 16), (1, .ref p), (2, .ref ql), (3, .ref qw)]) (S' := [.ref 16]) dm_X1_startAdverb_5 rfl rfl rfl rfl ?_
  refine me0 (pc' := 7) (S' := [ii 3, .ref 16]) dm_X1_startAdverb_6 rfl rfl rfl rfl ?_
  refine me1 (pc' := 8) (L' := [(0, .ref 16), (1, .ref p), (2, .ref ql), (3, .ref qw)]) (S' := [.ref p, ii 3, .ref 16]) dm_X1_startAdverb_7 rfl rfl rfl rfl ?_
  refine x_cv (pc' := 11) (rest := []) dm_X1_startAdverb_8 rfl (g_inv (As := [ii 3, .ref p]) (S := []) (hl_set (hl_lt h16)) rfl rfl rfl (by decide)) rfl rfl rfl (m_takeT (n := 3) (by omega) (hl_set (hl_lt h16)) (hl_ne (by omega) hp) hp2 hca (by decide) hwk hle (by rw [List.set_set])) ?_
  rintro _ _ ⟨rfl, rfl⟩
  refine me_1t (pc' := 15) dm_X1_startAdverb_11 rfl (by decide) ?_
  refine me1 (pc' := 16) (L' := [(0, .ref 16), (1, .ref p), (2, .ref ql), (3, .ref qw)]) (S' := [.ref p]) dm_X1_startAdverb_15 rfl rfl rfl rfl ?_
  refine me1 (pc' := 17) (L' := [(0, .ref 16), (1, .ref p), (2, .ref ql), (3, .ref qw)]) (S' := [.ref 16, .ref p]) dm_X1_startAdverb_16 rfl rfl rfl rfl ?_
  refine me3 (pc' := 20) (S' := [ii ((k + 1 : Nat) : Int), .ref p]) dm_X1_startAdverb_17 (g_get (v := ii ((k + 1 : Nat) : Int)) (hl_set (hl_lt h16)) rfl rfl (by decide)) rfl rfl rfl ?_
  refine x_cp (pc' := 23) (v := ii (tqD (T (i + 1 + k)))) (rest := []) dm_X1_startAdverb_20 rfl (g_inv (As := [ii ((k + 1 : Nat) : Int)]) (S := []) (hl_ne (by omega) hp) rfl rfl rfl (by omega)) rfl rfl rfl (m_adverbAt (by omega) hK (hl_ne (by omega) hp) (by omega) hkA) ?_
  refine me0 (pc' := 25) (S' := [ii 39, ii (tqD (T (i + 1 + k)))]) dm_X1_startAdverb_23 rfl rfl rfl rfl ?_
  refine y_2ne (a := tqD (T (i + 1 + k))) (b := 39) (t := 32) (pc' := 28) dm_X1_startAdverb_25 rfl rfl (by omega) (fun hb1 => ?_) (fun hb1 => ?_)
  · exfalso; omega
  · refine me0 (pc' := 29) (S' := [ii 1]) dm_X1_startAdverb_28 rfl rfl rfl rfl ?_
    refine me2 (pc' := 33) (S' := [ii 1]) dm_X1_startAdverb_29 rfl rfl rfl ?_
    refine me1 (pc' := 35) (L' := [(4, ii 1), (0, .ref 16), (1, .ref p), (2, .ref ql), (3, .ref qw)]) (S' := []) dm_X1_startAdverb_33 rfl rfl rfl rfl ?_
    refine me1 (pc' := 37) (L' := [(4, ii 1), (0, .ref 16), (1, .ref p), (2, .ref ql), (3, .ref qw)]) (S' := [ii 1]) dm_X1_startAdverb_35 rfl rfl rfl rfl ?_
    refine me_1f (pc' := 40) dm_X1_startAdverb_37 rfl (by decide) rfl ?_
    refine me1 (pc' := 41) (L' := [(4, ii 1), (0, .ref 16), (1, .ref p), (2, .ref ql), (3, .ref qw)]) (S' := [.ref ql]) dm_X1_startAdverb_40 rfl rfl rfl rfl ?_
    refine me2 (pc' := 44) (S' := []) dm_X1_startAdverb_41 rfl rfl rfl ?_
    refine me1 (pc' := 45) (L' := [(4, ii 1), (0, .ref 16), (1, .ref p), (2, .ref ql), (3, .ref qw)]) (S' := [.ref ql]) dm_X1_startAdverb_44 rfl rfl rfl rfl ?_
    refine x_cp (pc' := 48) (v := zz (decide (vk v ≤ 1))) (rest := []) dm_X1_startAdverb_45 rfl (g_inv (As := []) (S := []) (hl_ne (by omega) hvq) rfl rfl rfl (by omega)) rfl rfl rfl (c_isOne (by omega) (cv_set (fun z => by have := hA _ z; omega) hz7)) ?_
    refine y_zne (c := decide (vk v ≤ 1)) (t := 73) (pc' := 51) dm_X1_startAdverb_48 rfl rfl (fun hb2 => ?_) (fun hb2 => ?_)
    · replace hb2 := dT hb2; exfalso; omega
    · replace hb2 := dF hb2
      refine me1 (pc' := 52) (L' := [(4, ii 1), (0, .ref 16), (1, .ref p), (2, .ref ql), (3, .ref qw)]) (S' := [.ref qw]) dm_X1_startAdverb_51 rfl rfl rfl rfl ?_
      refine x_cp (pc' := 55) (v := zz (decide (vk w ≤ 1))) (rest := []) dm_X1_startAdverb_52 rfl (g_inv (As := []) (S := []) (hl_ne (by omega) hwq) rfl rfl rfl (by omega)) rfl rfl rfl (c_isOne (by omega) (cv_set (fun z => by have := hA _ z; omega) hz8)) ?_
      refine y_zne (c := decide (vk w ≤ 1)) (t := 73) (pc' := 58) dm_X1_startAdverb_55 rfl rfl (fun hb3 => ?_) (fun hb3 => ?_)
      · replace hb3 := dT hb3; exfalso; omega
      · replace hb3 := dF hb3
        refine me1 (pc' := 59) (L' := [(4, ii 1), (0, .ref 16), (1, .ref p), (2, .ref ql), (3, .ref qw)]) (S' := [.ref ql]) dm_X1_startAdverb_58 rfl rfl rfl rfl ?_
        refine me3 (pc' := 62) (S' := [ii (vm v : Int)]) dm_X1_startAdverb_59 (g_get (v := ii (vm v : Int)) (hl_ne (by omega) hvq) rfl rfl (by omega)) rfl rfl rfl ?_
        refine me1 (pc' := 63) (L' := [(4, ii 1), (0, .ref 16), (1, .ref p), (2, .ref ql), (3, .ref qw)]) (S' := [.ref qw, ii (vm v : Int)]) dm_X1_startAdverb_62 rfl rfl rfl rfl ?_
        refine me3 (pc' := 66) (S' := [ii (vm w : Int), ii (vm v : Int)]) dm_X1_startAdverb_63 (g_get (v := ii (vm w : Int)) (hl_ne (by omega) hwq) rfl rfl (by omega)) rfl rfl rfl ?_
        refine y_2eq (a := (vm v : Int)) (b := (vm w : Int)) (t := 73) (pc' := 69) dm_X1_startAdverb_66 rfl rfl (by omega) (fun hb4 => ?_) (fun hb4 => ?_)
        · exfalso; omega
        · refine me0 (pc' := 70) (S' := [ii 1]) dm_X1_startAdverb_69 rfl rfl rfl rfl ?_
          refine me2 (pc' := 74) (S' := [ii 1]) dm_X1_startAdverb_70 rfl rfl rfl ?_
          refine me1 (pc' := 76) (L' := [(5, ii 1), (4, ii 1), (0, .ref 16), (1, .ref p), (2, .ref ql), (3, .ref qw)]) (S' := []) dm_X1_startAdverb_74 rfl rfl rfl rfl ?_
          refine me1 (pc' := 78) (L' := [(5, ii 1), (4, ii 1), (0, .ref 16), (1, .ref p), (2, .ref ql), (3, .ref qw)]) (S' := [ii 1]) dm_X1_startAdverb_76 rfl rfl rfl rfl ?_
          refine me_1t (pc' := 97) dm_X1_startAdverb_78 rfl (by decide) ?_
          refine me1 (pc' := 98) (L' := [(5, ii 1), (4, ii 1), (0, .ref 16), (1, .ref p), (2, .ref ql), (3, .ref qw)]) (S' := [.ref 16]) dm_X1_startAdverb_97 rfl rfl rfl rfl ?_
          refine me0 (pc' := 99) (S' := [ii 4, .ref 16]) dm_X1_startAdverb_98 rfl rfl rfl rfl ?_
          refine me1 (pc' := 100) (L' := [(5, ii 1), (4, ii 1), (0, .ref 16), (1, .ref p), (2, .ref ql), (3, .ref qw)]) (S' := [.ref p, ii 4, .ref 16]) dm_X1_startAdverb_99 rfl rfl rfl rfl ?_
          refine x_cn (pc' := 103) (rest := []) dm_X1_startAdverb_100 rfl (g_inv (As := [ii 4, .ref p]) (S := []) (hl_set (hl_lt h16)) rfl rfl rfl (by decide)) rfl rfl rfl (m_fail (c := 4) (by omega) (hl_set (hl_lt h16)) (hl_ne (by omega) hp) hp2 hca (by rw [List.set_set])) ?_
          rintro _ rfl
          refine y_ret (r := none) dm_X1_startAdverb_103 rfl rfl rfl ?_
          exact ⟨rfl, hH⟩
theorem dm_X1_startAdverb_32 : mj_dec prog_3_method_20_code 32 = some (.iconst 0, 1) := by decide +kernel
theorem dm_X1_startAdverb_73 : mj_dec prog_3_method_20_code 73 = some (.iconst 0, 1) := by decide +kernel
theorem dm_X1_startAdverb_81 : mj_dec prog_3_method_20_code 81 = some (.iload 4, 2) := by decide +kernel
theorem dm_X1_startAdverb_83 : mj_dec prog_3_method_20_code 83 = some (.ifCond .ne 21, 3) := by decide +kernel
theorem dm_X1_startAdverb_86 : mj_dec prog_3_method_20_code 86 = some (.aload_n 2, 1) := by decide +kernel
theorem dm_X1_startAdverb_87 : mj_dec prog_3_method_20_code 87 = some (.ifnonnull 17, 3) := by decide +kernel
theorem dm_X1_startAdverb_90 : mj_dec prog_3_method_20_code 90 = some (.aload_n 3, 1) := by decide +kernel
theorem dm_X1_startAdverb_91 : mj_dec prog_3_method_20_code 91 = some (.getfield 234, 3) := by decide +kernel
theorem dm_X1_startAdverb_94 : mj_dec prog_3_method_20_code 94 = some (.ifCond .ne 10, 3) := by decide +kernel
theorem m_advZO {xt : mj_X} {d t e dq qw fr p i k mk ln : Nat} {T : Nat → Tok} {A : Nat → Prop} {h H : mj_H} {w : VV} {sf ff : Nat → Option Nat} {dd ca ou wk pl fl fn fm fb : Int} {nx nw vx vy dg lf rt fo fx fy : Value} (hd : 3 ≤ d) (hA : okA A h) (hK : TOKS T mk ln) (h16 : h[16]? = some (mcC (t : Int) (dq : Int) ca ou wk 0 pl nw vx vy dg ((k + 1 : Nat) : Int) lf rt)) (h32 : h[32]? = some (cA 4 8192 sf)) (ht : t < 8192) (h33 : h[33]? = some (cA 7 64 ff)) (hdq : dq < 64) (hff : ff dq = some fr) (hfr2 : 34 ≤ fr ∧ fr ≤ 97) (hfr : h[fr]? = some (cO 0 [ii fl, fo, fx, fy, ii fn, ii fm, ii fb])) (hp : h[p]? = some (doC T i dd nx)) (hp2 : 127 ≤ p) (hkA : k < avM T i) (hca : -2147483648 ≤ ca ∧ ca ≤ 2147483647) (hwk : 0 ≤ wk ∧ wk ≤ 1000000) (hw : cv A h (e + 1) qw w) (hle : 3 ≤ wk) (h39 : tqD (T (i + 1 + k)) ≠ 39) (hz0 : vm w = 0) (had : -2147483648 ≤ tqD (T (i + 1 + k)) ∧ tqD (T (i + 1 + k)) ≤ 2147483647) (hH : h.set 16 (mcC (t : Int) (dq : Int) ca ou (wk - 3) 4 (if 0 < ca then ou else (tqP (T i) : Int)) nw vx vy .null ((k + 1 : Nat) : Int) lf rt) = H) : pgN xt d 71 [.ref 16, .ref p, .null, .ref qw] h (fun h' => h' = H) := by
  have hz8 := hw
  obtain ⟨hw2, ⟨hq2, hqA2⟩, hsz2, hlv2, row2, fr2, vals2, hwq, -, -, -, -⟩ := id hw
  have hqw : qw = 25 ∨ qw = 101 ∨ 127 ≤ qw := (hA qw hqA2).2
  have hwm := vw1_m hw2
  refine x_enter pm_X1_startAdverb (L0 := [(0, .ref 16), (1, .ref p), (2, .null), (3, .ref qw)]) rfl (Nat.le_of_ble_eq_true rfl) (by omega) ?_
  refine me1 (pc' := 1) (L' := [(0, .ref 16), (1, .ref p), (2, .null), (3, .ref qw)]) (S' := [.ref 16]) dm_X1_startAdverb_0 rfl rfl rfl rfl ?_
  refine me0 (pc' := 2) (S' := [.null, .ref 16]) dm_X1_startAdverb_1 rfl rfl rfl rfl ?_
  refine me3 (pc' := 5) (S' := []) (h1 := (h).set 16 (cO 1 [.ref 4, .ref 17, .ref 26, .ref 32, ii (t : Int), .ref 33, ii (dq : Int), ii ca, ii ou, ii wk, ii 0, ii pl, nw, vx, vy, .null, ii ((k + 1 : Nat) : Int), lf, rt])) dm_X1_startAdverb_2 (g_put (fs' := [.ref 4, .ref 17, .ref 26, .ref 32, ii (t : Int), .ref 33, ii (dq : Int), ii ca, ii ou, ii wk, ii 0, ii pl, nw, vx, vy, .null, ii ((k + 1 : Nat) : Int), lf, rt]) h16 rfl rfl rfl (by simp) rfl (by decide) (fun z => by cases z) (by decide)) rfl rfl rfl ?_
  refine me1 (pc' := 6) (L' := [(0, .ref 16), (1, .ref p), (2, .null), (3, .ref qw)]) (S' := [.ref 16]) dm_X1_startAdverb_5 rfl rfl rfl rfl ?_
  refine me0 (pc' := 7) (S' := [ii 3, .ref 16]) dm_X1_startAdverb_6 rfl rfl rfl rfl ?_
  refine me1 (pc' := 8) (L' := [(0, .ref 16), (1, .ref p), (2, .null), (3, .ref qw)]) (S' := [.ref p, ii 3, .ref 16]) dm_X1_startAdverb_7 rfl rfl rfl rfl ?_
  refine x_cv (pc' := 11) (rest := []) dm_X1_startAdverb_8 rfl (g_inv (As := [ii 3, .ref p]) (S := []) (hl_set (hl_lt h16)) rfl rfl rfl (by decide)) rfl rfl rfl (m_takeT (n := 3) (by omega) (hl_set (hl_lt h16)) (hl_ne (by omega) hp) hp2 hca (by decide) hwk hle (by rw [List.set_set])) ?_
  rintro _ _ ⟨rfl, rfl⟩
  refine me_1t (pc' := 15) dm_X1_startAdverb_11 rfl (by decide) ?_
  refine me1 (pc' := 16) (L' := [(0, .ref 16), (1, .ref p), (2, .null), (3, .ref qw)]) (S' := [.ref p]) dm_X1_startAdverb_15 rfl rfl rfl rfl ?_
  refine me1 (pc' := 17) (L' := [(0, .ref 16), (1, .ref p), (2, .null), (3, .ref qw)]) (S' := [.ref 16, .ref p]) dm_X1_startAdverb_16 rfl rfl rfl rfl ?_
  refine me3 (pc' := 20) (S' := [ii ((k + 1 : Nat) : Int), .ref p]) dm_X1_startAdverb_17 (g_get (v := ii ((k + 1 : Nat) : Int)) (hl_set (hl_lt h16)) rfl rfl (by decide)) rfl rfl rfl ?_
  refine x_cp (pc' := 23) (v := ii (tqD (T (i + 1 + k)))) (rest := []) dm_X1_startAdverb_20 rfl (g_inv (As := [ii ((k + 1 : Nat) : Int)]) (S := []) (hl_ne (by omega) hp) rfl rfl rfl (by omega)) rfl rfl rfl (m_adverbAt (by omega) hK (hl_ne (by omega) hp) (by omega) hkA) ?_
  refine me0 (pc' := 25) (S' := [ii 39, ii (tqD (T (i + 1 + k)))]) dm_X1_startAdverb_23 rfl rfl rfl rfl ?_
  refine y_2ne (a := tqD (T (i + 1 + k))) (b := 39) (t := 32) (pc' := 28) dm_X1_startAdverb_25 rfl rfl (by omega) (fun hb1 => ?_) (fun hb1 => ?_)
  · refine me0 (pc' := 33) (S' := [ii 0]) dm_X1_startAdverb_32 rfl rfl rfl rfl ?_
    refine me1 (pc' := 35) (L' := [(4, ii 0), (0, .ref 16), (1, .ref p), (2, .null), (3, .ref qw)]) (S' := []) dm_X1_startAdverb_33 rfl rfl rfl rfl ?_
    refine me1 (pc' := 37) (L' := [(4, ii 0), (0, .ref 16), (1, .ref p), (2, .null), (3, .ref qw)]) (S' := [ii 0]) dm_X1_startAdverb_35 rfl rfl rfl rfl ?_
    refine me_1t (pc' := 73) dm_X1_startAdverb_37 rfl (by decide) ?_
    refine me0 (pc' := 74) (S' := [ii 0]) dm_X1_startAdverb_73 rfl rfl rfl rfl ?_
    refine me1 (pc' := 76) (L' := [(5, ii 0), (4, ii 0), (0, .ref 16), (1, .ref p), (2, .null), (3, .ref qw)]) (S' := []) dm_X1_startAdverb_74 rfl rfl rfl rfl ?_
    refine me1 (pc' := 78) (L' := [(5, ii 0), (4, ii 0), (0, .ref 16), (1, .ref p), (2, .null), (3, .ref qw)]) (S' := [ii 0]) dm_X1_startAdverb_76 rfl rfl rfl rfl ?_
    refine me_1f (pc' := 81) dm_X1_startAdverb_78 rfl (by decide) rfl ?_
    refine me1 (pc' := 83) (L' := [(5, ii 0), (4, ii 0), (0, .ref 16), (1, .ref p), (2, .null), (3, .ref qw)]) (S' := [ii 0]) dm_X1_startAdverb_81 rfl rfl rfl rfl ?_
    refine me_1f (pc' := 86) dm_X1_startAdverb_83 rfl (by decide) rfl ?_
    refine me1 (pc' := 87) (L' := [(5, ii 0), (4, ii 0), (0, .ref 16), (1, .ref p), (2, .null), (3, .ref qw)]) (S' := [.null]) dm_X1_startAdverb_86 rfl rfl rfl rfl ?_
    refine me2 (pc' := 90) (S' := []) dm_X1_startAdverb_87 rfl rfl rfl ?_
    refine me1 (pc' := 91) (L' := [(5, ii 0), (4, ii 0), (0, .ref 16), (1, .ref p), (2, .null), (3, .ref qw)]) (S' := [.ref qw]) dm_X1_startAdverb_90 rfl rfl rfl rfl ?_
    refine me3 (pc' := 94) (S' := [ii (vm w : Int)]) dm_X1_startAdverb_91 (g_get (v := ii (vm w : Int)) (hl_ne (by omega) hwq) rfl rfl (by omega)) rfl rfl rfl ?_
    refine y_1ne (a := (vm w : Int)) (t := 104) (pc' := 97) dm_X1_startAdverb_94 rfl rfl (by omega) (fun hb2 => ?_) (fun hb2 => ?_)
    · exfalso; omega
    · refine me1 (pc' := 98) (L' := [(5, ii 0), (4, ii 0), (0, .ref 16), (1, .ref p), (2, .null), (3, .ref qw)]) (S' := [.ref 16]) dm_X1_startAdverb_97 rfl rfl rfl rfl ?_
      refine me0 (pc' := 99) (S' := [ii 4, .ref 16]) dm_X1_startAdverb_98 rfl rfl rfl rfl ?_
      refine me1 (pc' := 100) (L' := [(5, ii 0), (4, ii 0), (0, .ref 16), (1, .ref p), (2, .null), (3, .ref qw)]) (S' := [.ref p, ii 4, .ref 16]) dm_X1_startAdverb_99 rfl rfl rfl rfl ?_
      refine x_cn (pc' := 103) (rest := []) dm_X1_startAdverb_100 rfl (g_inv (As := [ii 4, .ref p]) (S := []) (hl_set (hl_lt h16)) rfl rfl rfl (by decide)) rfl rfl rfl (m_fail (c := 4) (by omega) (hl_set (hl_lt h16)) (hl_ne (by omega) hp) hp2 hca (by rw [List.set_set])) ?_
      rintro _ rfl
      refine y_ret (r := none) dm_X1_startAdverb_103 rfl rfl rfl ?_
      exact ⟨rfl, hH⟩
  · exfalso; omega
theorem dm_X1_startAdverb_104 : mj_dec prog_3_method_20_code 104 = some (.aload_n 0, 1) := by decide +kernel
theorem dm_X1_startAdverb_105 : mj_dec prog_3_method_20_code 105 = some (.getfield 56, 3) := by decide +kernel
theorem dm_X1_startAdverb_108 : mj_dec prog_3_method_20_code 108 = some (.aload_n 0, 1) := by decide +kernel
theorem dm_X1_startAdverb_109 : mj_dec prog_3_method_20_code 109 = some (.getfield 33, 3) := by decide +kernel
theorem dm_X1_startAdverb_112 : mj_dec prog_3_method_20_code 112 = some (.arraylength, 1) := by decide +kernel
theorem dm_X1_startAdverb_113 : mj_dec prog_3_method_20_code 113 = some (.if_icmp .lt 11, 3) := by decide +kernel
theorem dm_X1_startAdverb_124 : mj_dec prog_3_method_20_code 124 = some (.aload_n 0, 1) := by decide +kernel
theorem dm_X1_startAdverb_125 : mj_dec prog_3_method_20_code 125 = some (.getfield 33, 3) := by decide +kernel
theorem dm_X1_startAdverb_128 : mj_dec prog_3_method_20_code 128 = some (.aload_n 0, 1) := by decide +kernel
theorem dm_X1_startAdverb_129 : mj_dec prog_3_method_20_code 129 = some (.getfield 56, 3) := by decide +kernel
theorem dm_X1_startAdverb_132 : mj_dec prog_3_method_20_code 132 = some (.aaload, 1) := by decide +kernel
theorem dm_X1_startAdverb_133 : mj_dec prog_3_method_20_code 133 = some (.astore 6, 2) := by decide +kernel
theorem dm_X1_startAdverb_135 : mj_dec prog_3_method_20_code 135 = some (.aload_n 0, 1) := by decide +kernel
theorem dm_X1_startAdverb_136 : mj_dec prog_3_method_20_code 136 = some (.dup, 1) := by decide +kernel
theorem dm_X1_startAdverb_137 : mj_dec prog_3_method_20_code 137 = some (.getfield 56, 3) := by decide +kernel
theorem dm_X1_startAdverb_140 : mj_dec prog_3_method_20_code 140 = some (.iconst 1, 1) := by decide +kernel
theorem dm_X1_startAdverb_141 : mj_dec prog_3_method_20_code 141 = some (.iadd, 1) := by decide +kernel
theorem dm_X1_startAdverb_142 : mj_dec prog_3_method_20_code 142 = some (.putfield 56, 3) := by decide +kernel
theorem dm_X1_startAdverb_145 : mj_dec prog_3_method_20_code 145 = some (.aload 6, 2) := by decide +kernel
theorem dm_X1_startAdverb_147 : mj_dec prog_3_method_20_code 147 = some (.aload_n 0, 1) := by decide +kernel
theorem dm_X1_startAdverb_148 : mj_dec prog_3_method_20_code 148 = some (.getfield 77, 3) := by decide +kernel
theorem dm_X1_startAdverb_151 : mj_dec prog_3_method_20_code 151 = some (.putfield 102, 3) := by decide +kernel
theorem dm_X1_startAdverb_154 : mj_dec prog_3_method_20_code 154 = some (.aload 6, 2) := by decide +kernel
theorem dm_X1_startAdverb_156 : mj_dec prog_3_method_20_code 156 = some (.aload_n 1, 1) := by decide +kernel
theorem dm_X1_startAdverb_157 : mj_dec prog_3_method_20_code 157 = some (.putfield 222, 3) := by decide +kernel
theorem dm_X1_startAdverb_160 : mj_dec prog_3_method_20_code 160 = some (.aload 6, 2) := by decide +kernel
theorem dm_X1_startAdverb_162 : mj_dec prog_3_method_20_code 162 = some (.aload_n 2, 1) := by decide +kernel
theorem dm_X1_startAdverb_163 : mj_dec prog_3_method_20_code 163 = some (.putfield 225, 3) := by decide +kernel
theorem dm_X1_startAdverb_166 : mj_dec prog_3_method_20_code 166 = some (.aload 6, 2) := by decide +kernel
theorem dm_X1_startAdverb_168 : mj_dec prog_3_method_20_code 168 = some (.aload_n 3, 1) := by decide +kernel
theorem dm_X1_startAdverb_169 : mj_dec prog_3_method_20_code 169 = some (.putfield 226, 3) := by decide +kernel
theorem dm_X1_startAdverb_172 : mj_dec prog_3_method_20_code 172 = some (.aload 6, 2) := by decide +kernel
theorem dm_X1_startAdverb_174 : mj_dec prog_3_method_20_code 174 = some (.aload_n 0, 1) := by decide +kernel
theorem dm_X1_startAdverb_175 : mj_dec prog_3_method_20_code 175 = some (.getfield 53, 3) := by decide +kernel
theorem dm_X1_startAdverb_178 : mj_dec prog_3_method_20_code 178 = some (.putfield 237, 3) := by decide +kernel
theorem dm_X1_startAdverb_181 : mj_dec prog_3_method_20_code 181 = some (.aload 6, 2) := by decide +kernel
theorem dm_X1_startAdverb_183 : mj_dec prog_3_method_20_code 183 = some (.iconst 0, 1) := by decide +kernel
theorem dm_X1_startAdverb_184 : mj_dec prog_3_method_20_code 184 = some (.putfield 240, 3) := by decide +kernel
theorem dm_X1_startAdverb_187 : mj_dec prog_3_method_20_code 187 = some (.aload 6, 2) := by decide +kernel
theorem dm_X1_startAdverb_189 : mj_dec prog_3_method_20_code 189 = some (.iload 4, 2) := by decide +kernel
theorem dm_X1_startAdverb_191 : mj_dec prog_3_method_20_code 191 = some (.ifCond .eq 21, 3) := by decide +kernel
theorem dm_X1_startAdverb_194 : mj_dec prog_3_method_20_code 194 = some (.aload_n 2, 1) := by decide +kernel
theorem dm_X1_startAdverb_195 : mj_dec prog_3_method_20_code 195 = some (.ifnull 17, 3) := by decide +kernel
theorem dm_X1_startAdverb_198 : mj_dec prog_3_method_20_code 198 = some (.aload_n 2, 1) := by decide +kernel
theorem dm_X1_startAdverb_199 : mj_dec prog_3_method_20_code 199 = some (.invokevirtual 231, 3) := by decide +kernel
theorem dm_X1_startAdverb_202 : mj_dec prog_3_method_20_code 202 = some (.ifCond .ne 10, 3) := by decide +kernel
theorem dm_X1_startAdverb_205 : mj_dec prog_3_method_20_code 205 = some (.aload_n 2, 1) := by decide +kernel
theorem dm_X1_startAdverb_206 : mj_dec prog_3_method_20_code 206 = some (.getfield 234, 3) := by decide +kernel
theorem dm_X1_startAdverb_209 : mj_dec prog_3_method_20_code 209 = some (.goto 7, 3) := by decide +kernel
theorem dm_X1_startAdverb_212 : mj_dec prog_3_method_20_code 212 = some (.aload_n 3, 1) := by decide +kernel
theorem dm_X1_startAdverb_213 : mj_dec prog_3_method_20_code 213 = some (.getfield 234, 3) := by decide +kernel
theorem dm_X1_startAdverb_216 : mj_dec prog_3_method_20_code 216 = some (.putfield 242, 3) := by decide +kernel
theorem dm_X1_startAdverb_219 : mj_dec prog_3_method_20_code 219 = some (.iload 4, 2) := by decide +kernel
theorem dm_X1_startAdverb_221 : mj_dec prog_3_method_20_code 221 = some (.ifCond .ne 34, 3) := by decide +kernel
theorem dm_X1_startAdverb_255 : mj_dec prog_3_method_20_code 255 = some (.return_, 1) := by decide +kernel
theorem m_advET {xt : mj_X} {d t e dq qw fr ql p i k mk ln : Nat} {T : Nat → Tok} {A : Nat → Prop} {h H : mj_H} {v w : VV} {sf ff : Nat → Option Nat} {dd ca ou wk pl fl fn fm fb : Int} {nx nw vx vy dg lf rt fo fx fy : Value} (hd : 3 ≤ d) (hA : okA A h) (hK : TOKS T mk ln) (h16 : h[16]? = some (mcC (t : Int) (dq : Int) ca ou wk 0 pl nw vx vy dg ((k + 1 : Nat) : Int) lf rt)) (h32 : h[32]? = some (cA 4 8192 sf)) (ht : t < 8192) (h33 : h[33]? = some (cA 7 64 ff)) (hdq : dq < 64) (hff : ff dq = some fr) (hfr2 : 34 ≤ fr ∧ fr ≤ 97) (hfr : h[fr]? = some (cO 0 [ii fl, fo, fx, fy, ii fn, ii fm, ii fb])) (hp : h[p]? = some (doC T i dd nx)) (hp2 : 127 ≤ p) (hkA : k < avM T i) (hca : -2147483648 ≤ ca ∧ ca ≤ 2147483647) (hwk : 0 ≤ wk ∧ wk ≤ 1000000) (hw : cv A h (e + 1) qw w) (hv : cv A h (e + 1) ql v) (hle : 3 ≤ wk) (h39 : tqD (T (i + 1 + k)) = 39) (hun : ¬ (¬ vk v ≤ 1 ∧ ¬ vk w ≤ 1 ∧ vm v ≠ vm w)) (had : -2147483648 ≤ tqD (T (i + 1 + k)) ∧ tqD (T (i + 1 + k)) ≤ 2147483647) (hH : (h.set 16 (mcC (t : Int) ((dq : Int) + 1) ca ou (wk - 3) 0 pl nw vx vy .null ((k + 1 : Nat) : Int) lf rt)).set fr (cO 0 [ii ((k + 1 : Nat) : Int), .ref p, .ref ql, .ref qw, ii 0, ii (if vk v ≤ 1 then (vm w : Int) else (vm v : Int)), ii (t : Int)]) = H) : pgN xt d 71 [.ref 16, .ref p, .ref ql, .ref qw] h (fun h' => h' = H) := by
  have hz8 := hw
  obtain ⟨hw2, ⟨hq2, hqA2⟩, hsz2, hlv2, row2, fr2, vals2, hwq, -, -, -, -⟩ := id hw
  have hqw : qw = 25 ∨ qw = 101 ∨ 127 ≤ qw := (hA qw hqA2).2
  have hwm := vw1_m hw2
  have hz7 := hv
  obtain ⟨hw1, ⟨hq1, hqA1⟩, hsz1, hlv1, row1, fr1, vals1, hvq, -, -, -, -⟩ := id hv
  have hql : ql = 25 ∨ ql = 101 ∨ 127 ≤ ql := (hA ql hqA1).2
  have hvm9 := vw1_m hw1
  refine x_enter pm_X1_startAdverb (L0 := [(0, .ref 16), (1, .ref p), (2, .ref ql), (3, .ref qw)]) rfl (Nat.le_of_ble_eq_true rfl) (by omega) ?_
  refine me1 (pc' := 1) (L' := [(0, .ref 16), (1, .ref p), (2, .ref ql), (3, .ref qw)]) (S' := [.ref 16]) dm_X1_startAdverb_0 rfl rfl rfl rfl ?_
  refine me0 (pc' := 2) (S' := [.null, .ref 16]) dm_X1_startAdverb_1 rfl rfl rfl rfl ?_
  refine me3 (pc' := 5) (S' := []) (h1 := (h).set 16 (cO 1 [.ref 4, .ref 17, .ref 26, .ref 32, ii (t : Int), .ref 33, ii (dq : Int), ii ca, ii ou, ii wk, ii 0, ii pl, nw, vx, vy, .null, ii ((k + 1 : Nat) : Int), lf, rt])) dm_X1_startAdverb_2 (g_put (fs' := [.ref 4, .ref 17, .ref 26, .ref 32, ii (t : Int), .ref 33, ii (dq : Int), ii ca, ii ou, ii wk, ii 0, ii pl, nw, vx, vy, .null, ii ((k + 1 : Nat) : Int), lf, rt]) h16 rfl rfl rfl (by simp) rfl (by decide) (fun z => by cases z) (by decide)) rfl rfl rfl ?_
  refine me1 (pc' := 6) (L' := [(0, .ref 16), (1, .ref p), (2, .ref ql), (3, .ref qw)]) (S' := [.ref 16]) dm_X1_startAdverb_5 rfl rfl rfl rfl ?_
  refine me0 (pc' := 7) (S' := [ii 3, .ref 16]) dm_X1_startAdverb_6 rfl rfl rfl rfl ?_
  refine me1 (pc' := 8) (L' := [(0, .ref 16), (1, .ref p), (2, .ref ql), (3, .ref qw)]) (S' := [.ref p, ii 3, .ref 16]) dm_X1_startAdverb_7 rfl rfl rfl rfl ?_
  refine x_cv (pc' := 11) (rest := []) dm_X1_startAdverb_8 rfl (g_inv (As := [ii 3, .ref p]) (S := []) (hl_set (hl_lt h16)) rfl rfl rfl (by decide)) rfl rfl rfl (m_takeT (n := 3) (by omega) (hl_set (hl_lt h16)) (hl_ne (by omega) hp) hp2 hca (by decide) hwk hle (by rw [List.set_set])) ?_
  rintro _ _ ⟨rfl, rfl⟩
  refine me_1t (pc' := 15) dm_X1_startAdverb_11 rfl (by decide) ?_
  refine me1 (pc' := 16) (L' := [(0, .ref 16), (1, .ref p), (2, .ref ql), (3, .ref qw)]) (S' := [.ref p]) dm_X1_startAdverb_15 rfl rfl rfl rfl ?_
  refine me1 (pc' := 17) (L' := [(0, .ref 16), (1, .ref p), (2, .ref ql), (3, .ref qw)]) (S' := [.ref 16, .ref p]) dm_X1_startAdverb_16 rfl rfl rfl rfl ?_
  refine me3 (pc' := 20) (S' := [ii ((k + 1 : Nat) : Int), .ref p]) dm_X1_startAdverb_17 (g_get (v := ii ((k + 1 : Nat) : Int)) (hl_set (hl_lt h16)) rfl rfl (by decide)) rfl rfl rfl ?_
  refine x_cp (pc' := 23) (v := ii (tqD (T (i + 1 + k)))) (rest := []) dm_X1_startAdverb_20 rfl (g_inv (As := [ii ((k + 1 : Nat) : Int)]) (S := []) (hl_ne (by omega) hp) rfl rfl rfl (by omega)) rfl rfl rfl (m_adverbAt (by omega) hK (hl_ne (by omega) hp) (by omega) hkA) ?_
  refine me0 (pc' := 25) (S' := [ii 39, ii (tqD (T (i + 1 + k)))]) dm_X1_startAdverb_23 rfl rfl rfl rfl ?_
  refine y_2ne (a := tqD (T (i + 1 + k))) (b := 39) (t := 32) (pc' := 28) dm_X1_startAdverb_25 rfl rfl (by omega) (fun hb1 => ?_) (fun hb1 => ?_)
  · exfalso; omega
  · refine me0 (pc' := 29) (S' := [ii 1]) dm_X1_startAdverb_28 rfl rfl rfl rfl ?_
    refine me2 (pc' := 33) (S' := [ii 1]) dm_X1_startAdverb_29 rfl rfl rfl ?_
    refine me1 (pc' := 35) (L' := [(4, ii 1), (0, .ref 16), (1, .ref p), (2, .ref ql), (3, .ref qw)]) (S' := []) dm_X1_startAdverb_33 rfl rfl rfl rfl ?_
    refine me1 (pc' := 37) (L' := [(4, ii 1), (0, .ref 16), (1, .ref p), (2, .ref ql), (3, .ref qw)]) (S' := [ii 1]) dm_X1_startAdverb_35 rfl rfl rfl rfl ?_
    refine me_1f (pc' := 40) dm_X1_startAdverb_37 rfl (by decide) rfl ?_
    refine me1 (pc' := 41) (L' := [(4, ii 1), (0, .ref 16), (1, .ref p), (2, .ref ql), (3, .ref qw)]) (S' := [.ref ql]) dm_X1_startAdverb_40 rfl rfl rfl rfl ?_
    refine me2 (pc' := 44) (S' := []) dm_X1_startAdverb_41 rfl rfl rfl ?_
    refine me1 (pc' := 45) (L' := [(4, ii 1), (0, .ref 16), (1, .ref p), (2, .ref ql), (3, .ref qw)]) (S' := [.ref ql]) dm_X1_startAdverb_44 rfl rfl rfl rfl ?_
    refine x_cp (pc' := 48) (v := zz (decide (vk v ≤ 1))) (rest := []) dm_X1_startAdverb_45 rfl (g_inv (As := []) (S := []) (hl_ne (by omega) hvq) rfl rfl rfl (by omega)) rfl rfl rfl (c_isOne (by omega) (cv_set (fun z => by have := hA _ z; omega) hz7)) ?_
    refine y_zne (c := decide (vk v ≤ 1)) (t := 73) (pc' := 51) dm_X1_startAdverb_48 rfl rfl (fun hb2 => ?_) (fun hb2 => ?_)
    · replace hb2 := dT hb2
      refine me0 (pc' := 74) (S' := [ii 0]) dm_X1_startAdverb_73 rfl rfl rfl rfl ?_
      refine me1 (pc' := 76) (L' := [(5, ii 0), (4, ii 1), (0, .ref 16), (1, .ref p), (2, .ref ql), (3, .ref qw)]) (S' := []) dm_X1_startAdverb_74 rfl rfl rfl rfl ?_
      refine me1 (pc' := 78) (L' := [(5, ii 0), (4, ii 1), (0, .ref 16), (1, .ref p), (2, .ref ql), (3, .ref qw)]) (S' := [ii 0]) dm_X1_startAdverb_76 rfl rfl rfl rfl ?_
      refine me_1f (pc' := 81) dm_X1_startAdverb_78 rfl (by decide) rfl ?_
      refine me1 (pc' := 83) (L' := [(5, ii 0), (4, ii 1), (0, .ref 16), (1, .ref p), (2, .ref ql), (3, .ref qw)]) (S' := [ii 1]) dm_X1_startAdverb_81 rfl rfl rfl rfl ?_
      refine me_1t (pc' := 104) dm_X1_startAdverb_83 rfl (by decide) ?_
      refine me1 (pc' := 105) (L' := [(5, ii 0), (4, ii 1), (0, .ref 16), (1, .ref p), (2, .ref ql), (3, .ref qw)]) (S' := [.ref 16]) dm_X1_startAdverb_104 rfl rfl rfl rfl ?_
      refine me3 (pc' := 108) (S' := [ii (dq : Int)]) dm_X1_startAdverb_105 (g_get (v := ii (dq : Int)) (hl_set (hl_lt h16)) rfl rfl (by decide)) rfl rfl rfl ?_
      refine me1 (pc' := 109) (L' := [(5, ii 0), (4, ii 1), (0, .ref 16), (1, .ref p), (2, .ref ql), (3, .ref qw)]) (S' := [.ref 16, ii (dq : Int)]) dm_X1_startAdverb_108 rfl rfl rfl rfl ?_
      refine me3 (pc' := 112) (S' := [.ref 33, ii (dq : Int)]) dm_X1_startAdverb_109 (g_get (v := .ref 33) (hl_set (hl_lt h16)) rfl rfl (by decide)) rfl rfl rfl ?_
      refine me3 (pc' := 113) (S' := [ii 64, ii (dq : Int)]) dm_X1_startAdverb_112 (yh_len (n := 64) rfl (hl_ne (by decide) h33) (by decide)) rfl rfl rfl ?_
      refine y_2lt (a := (dq : Int)) (b := 64) (t := 124) (pc' := 116) dm_X1_startAdverb_113 rfl rfl (by omega) (fun hb3 => ?_) (fun hb3 => ?_)
      · refine me1 (pc' := 125) (L' := [(5, ii 0), (4, ii 1), (0, .ref 16), (1, .ref p), (2, .ref ql), (3, .ref qw)]) (S' := [.ref 16]) dm_X1_startAdverb_124 rfl rfl rfl rfl ?_
        refine me3 (pc' := 128) (S' := [.ref 33]) dm_X1_startAdverb_125 (g_get (v := .ref 33) (hl_set (hl_lt h16)) rfl rfl (by decide)) rfl rfl rfl ?_
        refine me1 (pc' := 129) (L' := [(5, ii 0), (4, ii 1), (0, .ref 16), (1, .ref p), (2, .ref ql), (3, .ref qw)]) (S' := [.ref 16, .ref 33]) dm_X1_startAdverb_128 rfl rfl rfl rfl ?_
        refine me3 (pc' := 132) (S' := [ii (dq : Int), .ref 33]) dm_X1_startAdverb_129 (g_get (v := ii (dq : Int)) (hl_set (hl_lt h16)) rfl rfl (by decide)) rfl rfl rfl ?_
        refine me3 (pc' := 133) (S' := [.ref fr]) dm_X1_startAdverb_132 (yh_aald (w := some fr) rfl (hl_ne (by decide) h33) (by omega) (by omega) (by omega) (by decide) hff) rfl rfl rfl ?_
        refine me1 (pc' := 135) (L' := [(6, .ref fr), (5, ii 0), (4, ii 1), (0, .ref 16), (1, .ref p), (2, .ref ql), (3, .ref qw)]) (S' := []) dm_X1_startAdverb_133 rfl rfl rfl rfl ?_
        refine me1 (pc' := 136) (L' := [(6, .ref fr), (5, ii 0), (4, ii 1), (0, .ref 16), (1, .ref p), (2, .ref ql), (3, .ref qw)]) (S' := [.ref 16]) dm_X1_startAdverb_135 rfl rfl rfl rfl ?_
        refine me0 (pc' := 137) (S' := [.ref 16, .ref 16]) dm_X1_startAdverb_136 rfl rfl rfl rfl ?_
        refine me3 (pc' := 140) (S' := [ii (dq : Int), .ref 16]) dm_X1_startAdverb_137 (g_get (v := ii (dq : Int)) (hl_set (hl_lt h16)) rfl rfl (by decide)) rfl rfl rfl ?_
        refine me0 (pc' := 141) (S' := [ii 1, ii (dq : Int), .ref 16]) dm_X1_startAdverb_140 rfl rfl rfl rfl ?_
        refine y_iadd (a := (dq : Int)) (b := 1) dm_X1_startAdverb_141 (pc' := 142) rfl ?_
        refine me3 (pc' := 145) (S' := []) (h1 := (h).set 16 (cO 1 [.ref 4, .ref 17, .ref 26, .ref 32, ii (t : Int), .ref 33, ii ((dq : Int) + 1), ii ca, ii ou, ii (wk - 3), ii 0, ii pl, nw, vx, vy, .null, ii ((k + 1 : Nat) : Int), lf, rt])) dm_X1_startAdverb_142 (g_put (fs' := [.ref 4, .ref 17, .ref 26, .ref 32, ii (t : Int), .ref 33, ii ((dq : Int) + 1), ii ca, ii ou, ii (wk - 3), ii 0, ii pl, nw, vx, vy, .null, ii ((k + 1 : Nat) : Int), lf, rt]) (hl_set (hl_lt h16)) rfl (by rw [List.set_set]) rfl (by simp) rfl (by decide) (fun z => by cases z) (by decide)) rfl rfl rfl ?_
        refine me1 (pc' := 147) (L' := [(6, .ref fr), (5, ii 0), (4, ii 1), (0, .ref 16), (1, .ref p), (2, .ref ql), (3, .ref qw)]) (S' := [.ref fr]) dm_X1_startAdverb_145 rfl rfl rfl rfl ?_
        refine me1 (pc' := 148) (L' := [(6, .ref fr), (5, ii 0), (4, ii 1), (0, .ref 16), (1, .ref p), (2, .ref ql), (3, .ref qw)]) (S' := [.ref 16, .ref fr]) dm_X1_startAdverb_147 rfl rfl rfl rfl ?_
        refine me3 (pc' := 151) (S' := [ii ((k + 1 : Nat) : Int), .ref fr]) dm_X1_startAdverb_148 (g_get (v := ii ((k + 1 : Nat) : Int)) (hl_set (hl_lt h16)) rfl rfl (by decide)) rfl rfl rfl ?_
        refine me3 (pc' := 154) (S' := []) (h1 := ((h).set 16 (cO 1 [.ref 4, .ref 17, .ref 26, .ref 32, ii (t : Int), .ref 33, ii ((dq : Int) + 1), ii ca, ii ou, ii (wk - 3), ii 0, ii pl, nw, vx, vy, .null, ii ((k + 1 : Nat) : Int), lf, rt])).set fr (cO 0 [ii ((k + 1 : Nat) : Int), fo, fx, fy, ii fn, ii fm, ii fb])) dm_X1_startAdverb_151 (g_put (fs' := [ii ((k + 1 : Nat) : Int), fo, fx, fy, ii fn, ii fm, ii fb]) (hl_ne (by omega) hfr) rfl rfl rfl (by simp) rfl (by decide) (fun z => by cases z) (by omega)) rfl rfl rfl ?_
        refine me1 (pc' := 156) (L' := [(6, .ref fr), (5, ii 0), (4, ii 1), (0, .ref 16), (1, .ref p), (2, .ref ql), (3, .ref qw)]) (S' := [.ref fr]) dm_X1_startAdverb_154 rfl rfl rfl rfl ?_
        refine me1 (pc' := 157) (L' := [(6, .ref fr), (5, ii 0), (4, ii 1), (0, .ref 16), (1, .ref p), (2, .ref ql), (3, .ref qw)]) (S' := [.ref p, .ref fr]) dm_X1_startAdverb_156 rfl rfl rfl rfl ?_
        refine me3 (pc' := 160) (S' := []) (h1 := ((h).set 16 (cO 1 [.ref 4, .ref 17, .ref 26, .ref 32, ii (t : Int), .ref 33, ii ((dq : Int) + 1), ii ca, ii ou, ii (wk - 3), ii 0, ii pl, nw, vx, vy, .null, ii ((k + 1 : Nat) : Int), lf, rt])).set fr (cO 0 [ii ((k + 1 : Nat) : Int), .ref p, fx, fy, ii fn, ii fm, ii fb])) dm_X1_startAdverb_157 (g_put (fs' := [ii ((k + 1 : Nat) : Int), .ref p, fx, fy, ii fn, ii fm, ii fb]) (hl_set (hl_lt (hl_ne (by omega) hfr))) rfl (by rw [List.set_set]) rfl (by simp) rfl (by decide) (fun z => by cases z) (by omega)) rfl rfl rfl ?_
        refine me1 (pc' := 162) (L' := [(6, .ref fr), (5, ii 0), (4, ii 1), (0, .ref 16), (1, .ref p), (2, .ref ql), (3, .ref qw)]) (S' := [.ref fr]) dm_X1_startAdverb_160 rfl rfl rfl rfl ?_
        refine me1 (pc' := 163) (L' := [(6, .ref fr), (5, ii 0), (4, ii 1), (0, .ref 16), (1, .ref p), (2, .ref ql), (3, .ref qw)]) (S' := [.ref ql, .ref fr]) dm_X1_startAdverb_162 rfl rfl rfl rfl ?_
        refine me3 (pc' := 166) (S' := []) (h1 := ((h).set 16 (cO 1 [.ref 4, .ref 17, .ref 26, .ref 32, ii (t : Int), .ref 33, ii ((dq : Int) + 1), ii ca, ii ou, ii (wk - 3), ii 0, ii pl, nw, vx, vy, .null, ii ((k + 1 : Nat) : Int), lf, rt])).set fr (cO 0 [ii ((k + 1 : Nat) : Int), .ref p, .ref ql, fy, ii fn, ii fm, ii fb])) dm_X1_startAdverb_163 (g_put (fs' := [ii ((k + 1 : Nat) : Int), .ref p, .ref ql, fy, ii fn, ii fm, ii fb]) (hl_set (hl_lt (hl_ne (by omega) hfr))) rfl (by rw [List.set_set]) rfl (by simp) rfl (by decide) (fun z => by cases z) (by omega)) rfl rfl rfl ?_
        refine me1 (pc' := 168) (L' := [(6, .ref fr), (5, ii 0), (4, ii 1), (0, .ref 16), (1, .ref p), (2, .ref ql), (3, .ref qw)]) (S' := [.ref fr]) dm_X1_startAdverb_166 rfl rfl rfl rfl ?_
        refine me1 (pc' := 169) (L' := [(6, .ref fr), (5, ii 0), (4, ii 1), (0, .ref 16), (1, .ref p), (2, .ref ql), (3, .ref qw)]) (S' := [.ref qw, .ref fr]) dm_X1_startAdverb_168 rfl rfl rfl rfl ?_
        refine me3 (pc' := 172) (S' := []) (h1 := ((h).set 16 (cO 1 [.ref 4, .ref 17, .ref 26, .ref 32, ii (t : Int), .ref 33, ii ((dq : Int) + 1), ii ca, ii ou, ii (wk - 3), ii 0, ii pl, nw, vx, vy, .null, ii ((k + 1 : Nat) : Int), lf, rt])).set fr (cO 0 [ii ((k + 1 : Nat) : Int), .ref p, .ref ql, .ref qw, ii fn, ii fm, ii fb])) dm_X1_startAdverb_169 (g_put (fs' := [ii ((k + 1 : Nat) : Int), .ref p, .ref ql, .ref qw, ii fn, ii fm, ii fb]) (hl_set (hl_lt (hl_ne (by omega) hfr))) rfl (by rw [List.set_set]) rfl (by simp) rfl (by decide) (fun z => by cases z) (by omega)) rfl rfl rfl ?_
        refine me1 (pc' := 174) (L' := [(6, .ref fr), (5, ii 0), (4, ii 1), (0, .ref 16), (1, .ref p), (2, .ref ql), (3, .ref qw)]) (S' := [.ref fr]) dm_X1_startAdverb_172 rfl rfl rfl rfl ?_
        refine me1 (pc' := 175) (L' := [(6, .ref fr), (5, ii 0), (4, ii 1), (0, .ref 16), (1, .ref p), (2, .ref ql), (3, .ref qw)]) (S' := [.ref 16, .ref fr]) dm_X1_startAdverb_174 rfl rfl rfl rfl ?_
        refine me3 (pc' := 178) (S' := [ii (t : Int), .ref fr]) dm_X1_startAdverb_175 (g_get (v := ii (t : Int)) (hl_ne (by omega) (hl_set (hl_lt h16))) rfl rfl (by decide)) rfl rfl rfl ?_
        refine me3 (pc' := 181) (S' := []) (h1 := ((h).set 16 (cO 1 [.ref 4, .ref 17, .ref 26, .ref 32, ii (t : Int), .ref 33, ii ((dq : Int) + 1), ii ca, ii ou, ii (wk - 3), ii 0, ii pl, nw, vx, vy, .null, ii ((k + 1 : Nat) : Int), lf, rt])).set fr (cO 0 [ii ((k + 1 : Nat) : Int), .ref p, .ref ql, .ref qw, ii fn, ii fm, ii (t : Int)])) dm_X1_startAdverb_178 (g_put (fs' := [ii ((k + 1 : Nat) : Int), .ref p, .ref ql, .ref qw, ii fn, ii fm, ii (t : Int)]) (hl_set (hl_lt (hl_ne (by omega) hfr))) rfl (by rw [List.set_set]) rfl (by simp) rfl (by decide) (fun z => by cases z) (by omega)) rfl rfl rfl ?_
        refine me1 (pc' := 183) (L' := [(6, .ref fr), (5, ii 0), (4, ii 1), (0, .ref 16), (1, .ref p), (2, .ref ql), (3, .ref qw)]) (S' := [.ref fr]) dm_X1_startAdverb_181 rfl rfl rfl rfl ?_
        refine me0 (pc' := 184) (S' := [ii 0, .ref fr]) dm_X1_startAdverb_183 rfl rfl rfl rfl ?_
        refine me3 (pc' := 187) (S' := []) (h1 := ((h).set 16 (cO 1 [.ref 4, .ref 17, .ref 26, .ref 32, ii (t : Int), .ref 33, ii ((dq : Int) + 1), ii ca, ii ou, ii (wk - 3), ii 0, ii pl, nw, vx, vy, .null, ii ((k + 1 : Nat) : Int), lf, rt])).set fr (cO 0 [ii ((k + 1 : Nat) : Int), .ref p, .ref ql, .ref qw, ii 0, ii fm, ii (t : Int)])) dm_X1_startAdverb_184 (g_put (fs' := [ii ((k + 1 : Nat) : Int), .ref p, .ref ql, .ref qw, ii 0, ii fm, ii (t : Int)]) (hl_set (hl_lt (hl_ne (by omega) hfr))) rfl (by rw [List.set_set]) rfl (by simp) rfl (by decide) (fun z => by cases z) (by omega)) rfl rfl rfl ?_
        refine me1 (pc' := 189) (L' := [(6, .ref fr), (5, ii 0), (4, ii 1), (0, .ref 16), (1, .ref p), (2, .ref ql), (3, .ref qw)]) (S' := [.ref fr]) dm_X1_startAdverb_187 rfl rfl rfl rfl ?_
        refine me1 (pc' := 191) (L' := [(6, .ref fr), (5, ii 0), (4, ii 1), (0, .ref 16), (1, .ref p), (2, .ref ql), (3, .ref qw)]) (S' := [ii 1, .ref fr]) dm_X1_startAdverb_189 rfl rfl rfl rfl ?_
        refine me_1f (pc' := 194) dm_X1_startAdverb_191 rfl (by decide) rfl ?_
        refine me1 (pc' := 195) (L' := [(6, .ref fr), (5, ii 0), (4, ii 1), (0, .ref 16), (1, .ref p), (2, .ref ql), (3, .ref qw)]) (S' := [.ref ql, .ref fr]) dm_X1_startAdverb_194 rfl rfl rfl rfl ?_
        refine me2 (pc' := 198) (S' := [.ref fr]) dm_X1_startAdverb_195 rfl rfl rfl ?_
        refine me1 (pc' := 199) (L' := [(6, .ref fr), (5, ii 0), (4, ii 1), (0, .ref 16), (1, .ref p), (2, .ref ql), (3, .ref qw)]) (S' := [.ref ql, .ref fr]) dm_X1_startAdverb_198 rfl rfl rfl rfl ?_
        refine x_cp (pc' := 202) (v := zz (decide (vk v ≤ 1))) (rest := [.ref fr]) dm_X1_startAdverb_199 rfl (g_inv (As := []) (S := [.ref fr]) (hl_ne (by omega) (hl_ne (by omega) hvq)) rfl rfl rfl (by omega)) rfl rfl rfl (c_isOne (by omega) (cv_set (fun z => by have := hA _ z; omega) (cv_set (fun z => by have := hA _ z; omega) hz7))) ?_
        refine y_zne (c := decide (vk v ≤ 1)) (t := 212) (pc' := 205) dm_X1_startAdverb_202 rfl rfl (fun hb4 => ?_) (fun hb4 => ?_)
        · replace hb4 := dT hb4
          refine me1 (pc' := 213) (L' := [(6, .ref fr), (5, ii 0), (4, ii 1), (0, .ref 16), (1, .ref p), (2, .ref ql), (3, .ref qw)]) (S' := [.ref qw, .ref fr]) dm_X1_startAdverb_212 rfl rfl rfl rfl ?_
          refine me3 (pc' := 216) (S' := [ii (vm w : Int), .ref fr]) dm_X1_startAdverb_213 (g_get (v := ii (vm w : Int)) (hl_ne (by omega) (hl_ne (by omega) hwq)) rfl rfl (by omega)) rfl rfl rfl ?_
          refine me3 (pc' := 219) (S' := []) (h1 := ((h).set 16 (cO 1 [.ref 4, .ref 17, .ref 26, .ref 32, ii (t : Int), .ref 33, ii ((dq : Int) + 1), ii ca, ii ou, ii (wk - 3), ii 0, ii pl, nw, vx, vy, .null, ii ((k + 1 : Nat) : Int), lf, rt])).set fr (cO 0 [ii ((k + 1 : Nat) : Int), .ref p, .ref ql, .ref qw, ii 0, ii (vm w : Int), ii (t : Int)])) dm_X1_startAdverb_216 (g_put (fs' := [ii ((k + 1 : Nat) : Int), .ref p, .ref ql, .ref qw, ii 0, ii (vm w : Int), ii (t : Int)]) (hl_set (hl_lt (hl_ne (by omega) hfr))) rfl (by rw [List.set_set]) rfl (by simp) rfl (by decide) (fun z => by cases z) (by omega)) rfl rfl rfl ?_
          refine me1 (pc' := 221) (L' := [(6, .ref fr), (5, ii 0), (4, ii 1), (0, .ref 16), (1, .ref p), (2, .ref ql), (3, .ref qw)]) (S' := [ii 1]) dm_X1_startAdverb_219 rfl rfl rfl rfl ?_
          refine me_1t (pc' := 255) dm_X1_startAdverb_221 rfl (by decide) ?_
          refine y_ret (r := none) dm_X1_startAdverb_255 rfl rfl rfl ?_
          first | (exfalso; omega) | (refine ⟨rfl, ?_⟩; rw [← hH]; first | rw [if_pos (by omega)] | rw [if_neg (by omega)])
        · replace hb4 := dF hb4
          refine me1 (pc' := 206) (L' := [(6, .ref fr), (5, ii 0), (4, ii 1), (0, .ref 16), (1, .ref p), (2, .ref ql), (3, .ref qw)]) (S' := [.ref ql, .ref fr]) dm_X1_startAdverb_205 rfl rfl rfl rfl ?_
          refine me3 (pc' := 209) (S' := [ii (vm v : Int), .ref fr]) dm_X1_startAdverb_206 (g_get (v := ii (vm v : Int)) (hl_ne (by omega) (hl_ne (by omega) hvq)) rfl rfl (by omega)) rfl rfl rfl ?_
          refine me2 (pc' := 216) (S' := [ii (vm v : Int), .ref fr]) dm_X1_startAdverb_209 rfl rfl rfl ?_
          refine me3 (pc' := 219) (S' := []) (h1 := ((h).set 16 (cO 1 [.ref 4, .ref 17, .ref 26, .ref 32, ii (t : Int), .ref 33, ii ((dq : Int) + 1), ii ca, ii ou, ii (wk - 3), ii 0, ii pl, nw, vx, vy, .null, ii ((k + 1 : Nat) : Int), lf, rt])).set fr (cO 0 [ii ((k + 1 : Nat) : Int), .ref p, .ref ql, .ref qw, ii 0, ii (vm v : Int), ii (t : Int)])) dm_X1_startAdverb_216 (g_put (fs' := [ii ((k + 1 : Nat) : Int), .ref p, .ref ql, .ref qw, ii 0, ii (vm v : Int), ii (t : Int)]) (hl_set (hl_lt (hl_ne (by omega) hfr))) rfl (by rw [List.set_set]) rfl (by simp) rfl (by decide) (fun z => by cases z) (by omega)) rfl rfl rfl ?_
          refine me1 (pc' := 221) (L' := [(6, .ref fr), (5, ii 0), (4, ii 1), (0, .ref 16), (1, .ref p), (2, .ref ql), (3, .ref qw)]) (S' := [ii 1]) dm_X1_startAdverb_219 rfl rfl rfl rfl ?_
          refine me_1t (pc' := 255) dm_X1_startAdverb_221 rfl (by decide) ?_
          refine y_ret (r := none) dm_X1_startAdverb_255 rfl rfl rfl ?_
          first | (exfalso; omega) | (refine ⟨rfl, ?_⟩; rw [← hH]; first | rw [if_pos (by omega)] | rw [if_neg (by omega)])
      · exfalso; omega
    · replace hb2 := dF hb2
      refine me1 (pc' := 52) (L' := [(4, ii 1), (0, .ref 16), (1, .ref p), (2, .ref ql), (3, .ref qw)]) (S' := [.ref qw]) dm_X1_startAdverb_51 rfl rfl rfl rfl ?_
      refine x_cp (pc' := 55) (v := zz (decide (vk w ≤ 1))) (rest := []) dm_X1_startAdverb_52 rfl (g_inv (As := []) (S := []) (hl_ne (by omega) hwq) rfl rfl rfl (by omega)) rfl rfl rfl (c_isOne (by omega) (cv_set (fun z => by have := hA _ z; omega) hz8)) ?_
      refine y_zne (c := decide (vk w ≤ 1)) (t := 73) (pc' := 58) dm_X1_startAdverb_55 rfl rfl (fun hb5 => ?_) (fun hb5 => ?_)
      · replace hb5 := dT hb5
        refine me0 (pc' := 74) (S' := [ii 0]) dm_X1_startAdverb_73 rfl rfl rfl rfl ?_
        refine me1 (pc' := 76) (L' := [(5, ii 0), (4, ii 1), (0, .ref 16), (1, .ref p), (2, .ref ql), (3, .ref qw)]) (S' := []) dm_X1_startAdverb_74 rfl rfl rfl rfl ?_
        refine me1 (pc' := 78) (L' := [(5, ii 0), (4, ii 1), (0, .ref 16), (1, .ref p), (2, .ref ql), (3, .ref qw)]) (S' := [ii 0]) dm_X1_startAdverb_76 rfl rfl rfl rfl ?_
        refine me_1f (pc' := 81) dm_X1_startAdverb_78 rfl (by decide) rfl ?_
        refine me1 (pc' := 83) (L' := [(5, ii 0), (4, ii 1), (0, .ref 16), (1, .ref p), (2, .ref ql), (3, .ref qw)]) (S' := [ii 1]) dm_X1_startAdverb_81 rfl rfl rfl rfl ?_
        refine me_1t (pc' := 104) dm_X1_startAdverb_83 rfl (by decide) ?_
        refine me1 (pc' := 105) (L' := [(5, ii 0), (4, ii 1), (0, .ref 16), (1, .ref p), (2, .ref ql), (3, .ref qw)]) (S' := [.ref 16]) dm_X1_startAdverb_104 rfl rfl rfl rfl ?_
        refine me3 (pc' := 108) (S' := [ii (dq : Int)]) dm_X1_startAdverb_105 (g_get (v := ii (dq : Int)) (hl_set (hl_lt h16)) rfl rfl (by decide)) rfl rfl rfl ?_
        refine me1 (pc' := 109) (L' := [(5, ii 0), (4, ii 1), (0, .ref 16), (1, .ref p), (2, .ref ql), (3, .ref qw)]) (S' := [.ref 16, ii (dq : Int)]) dm_X1_startAdverb_108 rfl rfl rfl rfl ?_
        refine me3 (pc' := 112) (S' := [.ref 33, ii (dq : Int)]) dm_X1_startAdverb_109 (g_get (v := .ref 33) (hl_set (hl_lt h16)) rfl rfl (by decide)) rfl rfl rfl ?_
        refine me3 (pc' := 113) (S' := [ii 64, ii (dq : Int)]) dm_X1_startAdverb_112 (yh_len (n := 64) rfl (hl_ne (by decide) h33) (by decide)) rfl rfl rfl ?_
        refine y_2lt (a := (dq : Int)) (b := 64) (t := 124) (pc' := 116) dm_X1_startAdverb_113 rfl rfl (by omega) (fun hb6 => ?_) (fun hb6 => ?_)
        · refine me1 (pc' := 125) (L' := [(5, ii 0), (4, ii 1), (0, .ref 16), (1, .ref p), (2, .ref ql), (3, .ref qw)]) (S' := [.ref 16]) dm_X1_startAdverb_124 rfl rfl rfl rfl ?_
          refine me3 (pc' := 128) (S' := [.ref 33]) dm_X1_startAdverb_125 (g_get (v := .ref 33) (hl_set (hl_lt h16)) rfl rfl (by decide)) rfl rfl rfl ?_
          refine me1 (pc' := 129) (L' := [(5, ii 0), (4, ii 1), (0, .ref 16), (1, .ref p), (2, .ref ql), (3, .ref qw)]) (S' := [.ref 16, .ref 33]) dm_X1_startAdverb_128 rfl rfl rfl rfl ?_
          refine me3 (pc' := 132) (S' := [ii (dq : Int), .ref 33]) dm_X1_startAdverb_129 (g_get (v := ii (dq : Int)) (hl_set (hl_lt h16)) rfl rfl (by decide)) rfl rfl rfl ?_
          refine me3 (pc' := 133) (S' := [.ref fr]) dm_X1_startAdverb_132 (yh_aald (w := some fr) rfl (hl_ne (by decide) h33) (by omega) (by omega) (by omega) (by decide) hff) rfl rfl rfl ?_
          refine me1 (pc' := 135) (L' := [(6, .ref fr), (5, ii 0), (4, ii 1), (0, .ref 16), (1, .ref p), (2, .ref ql), (3, .ref qw)]) (S' := []) dm_X1_startAdverb_133 rfl rfl rfl rfl ?_
          refine me1 (pc' := 136) (L' := [(6, .ref fr), (5, ii 0), (4, ii 1), (0, .ref 16), (1, .ref p), (2, .ref ql), (3, .ref qw)]) (S' := [.ref 16]) dm_X1_startAdverb_135 rfl rfl rfl rfl ?_
          refine me0 (pc' := 137) (S' := [.ref 16, .ref 16]) dm_X1_startAdverb_136 rfl rfl rfl rfl ?_
          refine me3 (pc' := 140) (S' := [ii (dq : Int), .ref 16]) dm_X1_startAdverb_137 (g_get (v := ii (dq : Int)) (hl_set (hl_lt h16)) rfl rfl (by decide)) rfl rfl rfl ?_
          refine me0 (pc' := 141) (S' := [ii 1, ii (dq : Int), .ref 16]) dm_X1_startAdverb_140 rfl rfl rfl rfl ?_
          refine y_iadd (a := (dq : Int)) (b := 1) dm_X1_startAdverb_141 (pc' := 142) rfl ?_
          refine me3 (pc' := 145) (S' := []) (h1 := (h).set 16 (cO 1 [.ref 4, .ref 17, .ref 26, .ref 32, ii (t : Int), .ref 33, ii ((dq : Int) + 1), ii ca, ii ou, ii (wk - 3), ii 0, ii pl, nw, vx, vy, .null, ii ((k + 1 : Nat) : Int), lf, rt])) dm_X1_startAdverb_142 (g_put (fs' := [.ref 4, .ref 17, .ref 26, .ref 32, ii (t : Int), .ref 33, ii ((dq : Int) + 1), ii ca, ii ou, ii (wk - 3), ii 0, ii pl, nw, vx, vy, .null, ii ((k + 1 : Nat) : Int), lf, rt]) (hl_set (hl_lt h16)) rfl (by rw [List.set_set]) rfl (by simp) rfl (by decide) (fun z => by cases z) (by decide)) rfl rfl rfl ?_
          refine me1 (pc' := 147) (L' := [(6, .ref fr), (5, ii 0), (4, ii 1), (0, .ref 16), (1, .ref p), (2, .ref ql), (3, .ref qw)]) (S' := [.ref fr]) dm_X1_startAdverb_145 rfl rfl rfl rfl ?_
          refine me1 (pc' := 148) (L' := [(6, .ref fr), (5, ii 0), (4, ii 1), (0, .ref 16), (1, .ref p), (2, .ref ql), (3, .ref qw)]) (S' := [.ref 16, .ref fr]) dm_X1_startAdverb_147 rfl rfl rfl rfl ?_
          refine me3 (pc' := 151) (S' := [ii ((k + 1 : Nat) : Int), .ref fr]) dm_X1_startAdverb_148 (g_get (v := ii ((k + 1 : Nat) : Int)) (hl_set (hl_lt h16)) rfl rfl (by decide)) rfl rfl rfl ?_
          refine me3 (pc' := 154) (S' := []) (h1 := ((h).set 16 (cO 1 [.ref 4, .ref 17, .ref 26, .ref 32, ii (t : Int), .ref 33, ii ((dq : Int) + 1), ii ca, ii ou, ii (wk - 3), ii 0, ii pl, nw, vx, vy, .null, ii ((k + 1 : Nat) : Int), lf, rt])).set fr (cO 0 [ii ((k + 1 : Nat) : Int), fo, fx, fy, ii fn, ii fm, ii fb])) dm_X1_startAdverb_151 (g_put (fs' := [ii ((k + 1 : Nat) : Int), fo, fx, fy, ii fn, ii fm, ii fb]) (hl_ne (by omega) hfr) rfl rfl rfl (by simp) rfl (by decide) (fun z => by cases z) (by omega)) rfl rfl rfl ?_
          refine me1 (pc' := 156) (L' := [(6, .ref fr), (5, ii 0), (4, ii 1), (0, .ref 16), (1, .ref p), (2, .ref ql), (3, .ref qw)]) (S' := [.ref fr]) dm_X1_startAdverb_154 rfl rfl rfl rfl ?_
          refine me1 (pc' := 157) (L' := [(6, .ref fr), (5, ii 0), (4, ii 1), (0, .ref 16), (1, .ref p), (2, .ref ql), (3, .ref qw)]) (S' := [.ref p, .ref fr]) dm_X1_startAdverb_156 rfl rfl rfl rfl ?_
          refine me3 (pc' := 160) (S' := []) (h1 := ((h).set 16 (cO 1 [.ref 4, .ref 17, .ref 26, .ref 32, ii (t : Int), .ref 33, ii ((dq : Int) + 1), ii ca, ii ou, ii (wk - 3), ii 0, ii pl, nw, vx, vy, .null, ii ((k + 1 : Nat) : Int), lf, rt])).set fr (cO 0 [ii ((k + 1 : Nat) : Int), .ref p, fx, fy, ii fn, ii fm, ii fb])) dm_X1_startAdverb_157 (g_put (fs' := [ii ((k + 1 : Nat) : Int), .ref p, fx, fy, ii fn, ii fm, ii fb]) (hl_set (hl_lt (hl_ne (by omega) hfr))) rfl (by rw [List.set_set]) rfl (by simp) rfl (by decide) (fun z => by cases z) (by omega)) rfl rfl rfl ?_
          refine me1 (pc' := 162) (L' := [(6, .ref fr), (5, ii 0), (4, ii 1), (0, .ref 16), (1, .ref p), (2, .ref ql), (3, .ref qw)]) (S' := [.ref fr]) dm_X1_startAdverb_160 rfl rfl rfl rfl ?_
          refine me1 (pc' := 163) (L' := [(6, .ref fr), (5, ii 0), (4, ii 1), (0, .ref 16), (1, .ref p), (2, .ref ql), (3, .ref qw)]) (S' := [.ref ql, .ref fr]) dm_X1_startAdverb_162 rfl rfl rfl rfl ?_
          refine me3 (pc' := 166) (S' := []) (h1 := ((h).set 16 (cO 1 [.ref 4, .ref 17, .ref 26, .ref 32, ii (t : Int), .ref 33, ii ((dq : Int) + 1), ii ca, ii ou, ii (wk - 3), ii 0, ii pl, nw, vx, vy, .null, ii ((k + 1 : Nat) : Int), lf, rt])).set fr (cO 0 [ii ((k + 1 : Nat) : Int), .ref p, .ref ql, fy, ii fn, ii fm, ii fb])) dm_X1_startAdverb_163 (g_put (fs' := [ii ((k + 1 : Nat) : Int), .ref p, .ref ql, fy, ii fn, ii fm, ii fb]) (hl_set (hl_lt (hl_ne (by omega) hfr))) rfl (by rw [List.set_set]) rfl (by simp) rfl (by decide) (fun z => by cases z) (by omega)) rfl rfl rfl ?_
          refine me1 (pc' := 168) (L' := [(6, .ref fr), (5, ii 0), (4, ii 1), (0, .ref 16), (1, .ref p), (2, .ref ql), (3, .ref qw)]) (S' := [.ref fr]) dm_X1_startAdverb_166 rfl rfl rfl rfl ?_
          refine me1 (pc' := 169) (L' := [(6, .ref fr), (5, ii 0), (4, ii 1), (0, .ref 16), (1, .ref p), (2, .ref ql), (3, .ref qw)]) (S' := [.ref qw, .ref fr]) dm_X1_startAdverb_168 rfl rfl rfl rfl ?_
          refine me3 (pc' := 172) (S' := []) (h1 := ((h).set 16 (cO 1 [.ref 4, .ref 17, .ref 26, .ref 32, ii (t : Int), .ref 33, ii ((dq : Int) + 1), ii ca, ii ou, ii (wk - 3), ii 0, ii pl, nw, vx, vy, .null, ii ((k + 1 : Nat) : Int), lf, rt])).set fr (cO 0 [ii ((k + 1 : Nat) : Int), .ref p, .ref ql, .ref qw, ii fn, ii fm, ii fb])) dm_X1_startAdverb_169 (g_put (fs' := [ii ((k + 1 : Nat) : Int), .ref p, .ref ql, .ref qw, ii fn, ii fm, ii fb]) (hl_set (hl_lt (hl_ne (by omega) hfr))) rfl (by rw [List.set_set]) rfl (by simp) rfl (by decide) (fun z => by cases z) (by omega)) rfl rfl rfl ?_
          refine me1 (pc' := 174) (L' := [(6, .ref fr), (5, ii 0), (4, ii 1), (0, .ref 16), (1, .ref p), (2, .ref ql), (3, .ref qw)]) (S' := [.ref fr]) dm_X1_startAdverb_172 rfl rfl rfl rfl ?_
          refine me1 (pc' := 175) (L' := [(6, .ref fr), (5, ii 0), (4, ii 1), (0, .ref 16), (1, .ref p), (2, .ref ql), (3, .ref qw)]) (S' := [.ref 16, .ref fr]) dm_X1_startAdverb_174 rfl rfl rfl rfl ?_
          refine me3 (pc' := 178) (S' := [ii (t : Int), .ref fr]) dm_X1_startAdverb_175 (g_get (v := ii (t : Int)) (hl_ne (by omega) (hl_set (hl_lt h16))) rfl rfl (by decide)) rfl rfl rfl ?_
          refine me3 (pc' := 181) (S' := []) (h1 := ((h).set 16 (cO 1 [.ref 4, .ref 17, .ref 26, .ref 32, ii (t : Int), .ref 33, ii ((dq : Int) + 1), ii ca, ii ou, ii (wk - 3), ii 0, ii pl, nw, vx, vy, .null, ii ((k + 1 : Nat) : Int), lf, rt])).set fr (cO 0 [ii ((k + 1 : Nat) : Int), .ref p, .ref ql, .ref qw, ii fn, ii fm, ii (t : Int)])) dm_X1_startAdverb_178 (g_put (fs' := [ii ((k + 1 : Nat) : Int), .ref p, .ref ql, .ref qw, ii fn, ii fm, ii (t : Int)]) (hl_set (hl_lt (hl_ne (by omega) hfr))) rfl (by rw [List.set_set]) rfl (by simp) rfl (by decide) (fun z => by cases z) (by omega)) rfl rfl rfl ?_
          refine me1 (pc' := 183) (L' := [(6, .ref fr), (5, ii 0), (4, ii 1), (0, .ref 16), (1, .ref p), (2, .ref ql), (3, .ref qw)]) (S' := [.ref fr]) dm_X1_startAdverb_181 rfl rfl rfl rfl ?_
          refine me0 (pc' := 184) (S' := [ii 0, .ref fr]) dm_X1_startAdverb_183 rfl rfl rfl rfl ?_
          refine me3 (pc' := 187) (S' := []) (h1 := ((h).set 16 (cO 1 [.ref 4, .ref 17, .ref 26, .ref 32, ii (t : Int), .ref 33, ii ((dq : Int) + 1), ii ca, ii ou, ii (wk - 3), ii 0, ii pl, nw, vx, vy, .null, ii ((k + 1 : Nat) : Int), lf, rt])).set fr (cO 0 [ii ((k + 1 : Nat) : Int), .ref p, .ref ql, .ref qw, ii 0, ii fm, ii (t : Int)])) dm_X1_startAdverb_184 (g_put (fs' := [ii ((k + 1 : Nat) : Int), .ref p, .ref ql, .ref qw, ii 0, ii fm, ii (t : Int)]) (hl_set (hl_lt (hl_ne (by omega) hfr))) rfl (by rw [List.set_set]) rfl (by simp) rfl (by decide) (fun z => by cases z) (by omega)) rfl rfl rfl ?_
          refine me1 (pc' := 189) (L' := [(6, .ref fr), (5, ii 0), (4, ii 1), (0, .ref 16), (1, .ref p), (2, .ref ql), (3, .ref qw)]) (S' := [.ref fr]) dm_X1_startAdverb_187 rfl rfl rfl rfl ?_
          refine me1 (pc' := 191) (L' := [(6, .ref fr), (5, ii 0), (4, ii 1), (0, .ref 16), (1, .ref p), (2, .ref ql), (3, .ref qw)]) (S' := [ii 1, .ref fr]) dm_X1_startAdverb_189 rfl rfl rfl rfl ?_
          refine me_1f (pc' := 194) dm_X1_startAdverb_191 rfl (by decide) rfl ?_
          refine me1 (pc' := 195) (L' := [(6, .ref fr), (5, ii 0), (4, ii 1), (0, .ref 16), (1, .ref p), (2, .ref ql), (3, .ref qw)]) (S' := [.ref ql, .ref fr]) dm_X1_startAdverb_194 rfl rfl rfl rfl ?_
          refine me2 (pc' := 198) (S' := [.ref fr]) dm_X1_startAdverb_195 rfl rfl rfl ?_
          refine me1 (pc' := 199) (L' := [(6, .ref fr), (5, ii 0), (4, ii 1), (0, .ref 16), (1, .ref p), (2, .ref ql), (3, .ref qw)]) (S' := [.ref ql, .ref fr]) dm_X1_startAdverb_198 rfl rfl rfl rfl ?_
          refine x_cp (pc' := 202) (v := zz (decide (vk v ≤ 1))) (rest := [.ref fr]) dm_X1_startAdverb_199 rfl (g_inv (As := []) (S := [.ref fr]) (hl_ne (by omega) (hl_ne (by omega) hvq)) rfl rfl rfl (by omega)) rfl rfl rfl (c_isOne (by omega) (cv_set (fun z => by have := hA _ z; omega) (cv_set (fun z => by have := hA _ z; omega) hz7))) ?_
          refine y_zne (c := decide (vk v ≤ 1)) (t := 212) (pc' := 205) dm_X1_startAdverb_202 rfl rfl (fun hb7 => ?_) (fun hb7 => ?_)
          · replace hb7 := dT hb7
            refine me1 (pc' := 213) (L' := [(6, .ref fr), (5, ii 0), (4, ii 1), (0, .ref 16), (1, .ref p), (2, .ref ql), (3, .ref qw)]) (S' := [.ref qw, .ref fr]) dm_X1_startAdverb_212 rfl rfl rfl rfl ?_
            refine me3 (pc' := 216) (S' := [ii (vm w : Int), .ref fr]) dm_X1_startAdverb_213 (g_get (v := ii (vm w : Int)) (hl_ne (by omega) (hl_ne (by omega) hwq)) rfl rfl (by omega)) rfl rfl rfl ?_
            refine me3 (pc' := 219) (S' := []) (h1 := ((h).set 16 (cO 1 [.ref 4, .ref 17, .ref 26, .ref 32, ii (t : Int), .ref 33, ii ((dq : Int) + 1), ii ca, ii ou, ii (wk - 3), ii 0, ii pl, nw, vx, vy, .null, ii ((k + 1 : Nat) : Int), lf, rt])).set fr (cO 0 [ii ((k + 1 : Nat) : Int), .ref p, .ref ql, .ref qw, ii 0, ii (vm w : Int), ii (t : Int)])) dm_X1_startAdverb_216 (g_put (fs' := [ii ((k + 1 : Nat) : Int), .ref p, .ref ql, .ref qw, ii 0, ii (vm w : Int), ii (t : Int)]) (hl_set (hl_lt (hl_ne (by omega) hfr))) rfl (by rw [List.set_set]) rfl (by simp) rfl (by decide) (fun z => by cases z) (by omega)) rfl rfl rfl ?_
            refine me1 (pc' := 221) (L' := [(6, .ref fr), (5, ii 0), (4, ii 1), (0, .ref 16), (1, .ref p), (2, .ref ql), (3, .ref qw)]) (S' := [ii 1]) dm_X1_startAdverb_219 rfl rfl rfl rfl ?_
            refine me_1t (pc' := 255) dm_X1_startAdverb_221 rfl (by decide) ?_
            refine y_ret (r := none) dm_X1_startAdverb_255 rfl rfl rfl ?_
            first | (exfalso; omega) | (refine ⟨rfl, ?_⟩; rw [← hH]; first | rw [if_pos (by omega)] | rw [if_neg (by omega)])
          · replace hb7 := dF hb7
            refine me1 (pc' := 206) (L' := [(6, .ref fr), (5, ii 0), (4, ii 1), (0, .ref 16), (1, .ref p), (2, .ref ql), (3, .ref qw)]) (S' := [.ref ql, .ref fr]) dm_X1_startAdverb_205 rfl rfl rfl rfl ?_
            refine me3 (pc' := 209) (S' := [ii (vm v : Int), .ref fr]) dm_X1_startAdverb_206 (g_get (v := ii (vm v : Int)) (hl_ne (by omega) (hl_ne (by omega) hvq)) rfl rfl (by omega)) rfl rfl rfl ?_
            refine me2 (pc' := 216) (S' := [ii (vm v : Int), .ref fr]) dm_X1_startAdverb_209 rfl rfl rfl ?_
            refine me3 (pc' := 219) (S' := []) (h1 := ((h).set 16 (cO 1 [.ref 4, .ref 17, .ref 26, .ref 32, ii (t : Int), .ref 33, ii ((dq : Int) + 1), ii ca, ii ou, ii (wk - 3), ii 0, ii pl, nw, vx, vy, .null, ii ((k + 1 : Nat) : Int), lf, rt])).set fr (cO 0 [ii ((k + 1 : Nat) : Int), .ref p, .ref ql, .ref qw, ii 0, ii (vm v : Int), ii (t : Int)])) dm_X1_startAdverb_216 (g_put (fs' := [ii ((k + 1 : Nat) : Int), .ref p, .ref ql, .ref qw, ii 0, ii (vm v : Int), ii (t : Int)]) (hl_set (hl_lt (hl_ne (by omega) hfr))) rfl (by rw [List.set_set]) rfl (by simp) rfl (by decide) (fun z => by cases z) (by omega)) rfl rfl rfl ?_
            refine me1 (pc' := 221) (L' := [(6, .ref fr), (5, ii 0), (4, ii 1), (0, .ref 16), (1, .ref p), (2, .ref ql), (3, .ref qw)]) (S' := [ii 1]) dm_X1_startAdverb_219 rfl rfl rfl rfl ?_
            refine me_1t (pc' := 255) dm_X1_startAdverb_221 rfl (by decide) ?_
            refine y_ret (r := none) dm_X1_startAdverb_255 rfl rfl rfl ?_
            first | (exfalso; omega) | (refine ⟨rfl, ?_⟩; rw [← hH]; first | rw [if_pos (by omega)] | rw [if_neg (by omega)])
        · exfalso; omega
      · replace hb5 := dF hb5
        refine me1 (pc' := 59) (L' := [(4, ii 1), (0, .ref 16), (1, .ref p), (2, .ref ql), (3, .ref qw)]) (S' := [.ref ql]) dm_X1_startAdverb_58 rfl rfl rfl rfl ?_
        refine me3 (pc' := 62) (S' := [ii (vm v : Int)]) dm_X1_startAdverb_59 (g_get (v := ii (vm v : Int)) (hl_ne (by omega) hvq) rfl rfl (by omega)) rfl rfl rfl ?_
        refine me1 (pc' := 63) (L' := [(4, ii 1), (0, .ref 16), (1, .ref p), (2, .ref ql), (3, .ref qw)]) (S' := [.ref qw, ii (vm v : Int)]) dm_X1_startAdverb_62 rfl rfl rfl rfl ?_
        refine me3 (pc' := 66) (S' := [ii (vm w : Int), ii (vm v : Int)]) dm_X1_startAdverb_63 (g_get (v := ii (vm w : Int)) (hl_ne (by omega) hwq) rfl rfl (by omega)) rfl rfl rfl ?_
        refine y_2eq (a := (vm v : Int)) (b := (vm w : Int)) (t := 73) (pc' := 69) dm_X1_startAdverb_66 rfl rfl (by omega) (fun hb8 => ?_) (fun hb8 => ?_)
        · refine me0 (pc' := 74) (S' := [ii 0]) dm_X1_startAdverb_73 rfl rfl rfl rfl ?_
          refine me1 (pc' := 76) (L' := [(5, ii 0), (4, ii 1), (0, .ref 16), (1, .ref p), (2, .ref ql), (3, .ref qw)]) (S' := []) dm_X1_startAdverb_74 rfl rfl rfl rfl ?_
          refine me1 (pc' := 78) (L' := [(5, ii 0), (4, ii 1), (0, .ref 16), (1, .ref p), (2, .ref ql), (3, .ref qw)]) (S' := [ii 0]) dm_X1_startAdverb_76 rfl rfl rfl rfl ?_
          refine me_1f (pc' := 81) dm_X1_startAdverb_78 rfl (by decide) rfl ?_
          refine me1 (pc' := 83) (L' := [(5, ii 0), (4, ii 1), (0, .ref 16), (1, .ref p), (2, .ref ql), (3, .ref qw)]) (S' := [ii 1]) dm_X1_startAdverb_81 rfl rfl rfl rfl ?_
          refine me_1t (pc' := 104) dm_X1_startAdverb_83 rfl (by decide) ?_
          refine me1 (pc' := 105) (L' := [(5, ii 0), (4, ii 1), (0, .ref 16), (1, .ref p), (2, .ref ql), (3, .ref qw)]) (S' := [.ref 16]) dm_X1_startAdverb_104 rfl rfl rfl rfl ?_
          refine me3 (pc' := 108) (S' := [ii (dq : Int)]) dm_X1_startAdverb_105 (g_get (v := ii (dq : Int)) (hl_set (hl_lt h16)) rfl rfl (by decide)) rfl rfl rfl ?_
          refine me1 (pc' := 109) (L' := [(5, ii 0), (4, ii 1), (0, .ref 16), (1, .ref p), (2, .ref ql), (3, .ref qw)]) (S' := [.ref 16, ii (dq : Int)]) dm_X1_startAdverb_108 rfl rfl rfl rfl ?_
          refine me3 (pc' := 112) (S' := [.ref 33, ii (dq : Int)]) dm_X1_startAdverb_109 (g_get (v := .ref 33) (hl_set (hl_lt h16)) rfl rfl (by decide)) rfl rfl rfl ?_
          refine me3 (pc' := 113) (S' := [ii 64, ii (dq : Int)]) dm_X1_startAdverb_112 (yh_len (n := 64) rfl (hl_ne (by decide) h33) (by decide)) rfl rfl rfl ?_
          refine y_2lt (a := (dq : Int)) (b := 64) (t := 124) (pc' := 116) dm_X1_startAdverb_113 rfl rfl (by omega) (fun hb9 => ?_) (fun hb9 => ?_)
          · refine me1 (pc' := 125) (L' := [(5, ii 0), (4, ii 1), (0, .ref 16), (1, .ref p), (2, .ref ql), (3, .ref qw)]) (S' := [.ref 16]) dm_X1_startAdverb_124 rfl rfl rfl rfl ?_
            refine me3 (pc' := 128) (S' := [.ref 33]) dm_X1_startAdverb_125 (g_get (v := .ref 33) (hl_set (hl_lt h16)) rfl rfl (by decide)) rfl rfl rfl ?_
            refine me1 (pc' := 129) (L' := [(5, ii 0), (4, ii 1), (0, .ref 16), (1, .ref p), (2, .ref ql), (3, .ref qw)]) (S' := [.ref 16, .ref 33]) dm_X1_startAdverb_128 rfl rfl rfl rfl ?_
            refine me3 (pc' := 132) (S' := [ii (dq : Int), .ref 33]) dm_X1_startAdverb_129 (g_get (v := ii (dq : Int)) (hl_set (hl_lt h16)) rfl rfl (by decide)) rfl rfl rfl ?_
            refine me3 (pc' := 133) (S' := [.ref fr]) dm_X1_startAdverb_132 (yh_aald (w := some fr) rfl (hl_ne (by decide) h33) (by omega) (by omega) (by omega) (by decide) hff) rfl rfl rfl ?_
            refine me1 (pc' := 135) (L' := [(6, .ref fr), (5, ii 0), (4, ii 1), (0, .ref 16), (1, .ref p), (2, .ref ql), (3, .ref qw)]) (S' := []) dm_X1_startAdverb_133 rfl rfl rfl rfl ?_
            refine me1 (pc' := 136) (L' := [(6, .ref fr), (5, ii 0), (4, ii 1), (0, .ref 16), (1, .ref p), (2, .ref ql), (3, .ref qw)]) (S' := [.ref 16]) dm_X1_startAdverb_135 rfl rfl rfl rfl ?_
            refine me0 (pc' := 137) (S' := [.ref 16, .ref 16]) dm_X1_startAdverb_136 rfl rfl rfl rfl ?_
            refine me3 (pc' := 140) (S' := [ii (dq : Int), .ref 16]) dm_X1_startAdverb_137 (g_get (v := ii (dq : Int)) (hl_set (hl_lt h16)) rfl rfl (by decide)) rfl rfl rfl ?_
            refine me0 (pc' := 141) (S' := [ii 1, ii (dq : Int), .ref 16]) dm_X1_startAdverb_140 rfl rfl rfl rfl ?_
            refine y_iadd (a := (dq : Int)) (b := 1) dm_X1_startAdverb_141 (pc' := 142) rfl ?_
            refine me3 (pc' := 145) (S' := []) (h1 := (h).set 16 (cO 1 [.ref 4, .ref 17, .ref 26, .ref 32, ii (t : Int), .ref 33, ii ((dq : Int) + 1), ii ca, ii ou, ii (wk - 3), ii 0, ii pl, nw, vx, vy, .null, ii ((k + 1 : Nat) : Int), lf, rt])) dm_X1_startAdverb_142 (g_put (fs' := [.ref 4, .ref 17, .ref 26, .ref 32, ii (t : Int), .ref 33, ii ((dq : Int) + 1), ii ca, ii ou, ii (wk - 3), ii 0, ii pl, nw, vx, vy, .null, ii ((k + 1 : Nat) : Int), lf, rt]) (hl_set (hl_lt h16)) rfl (by rw [List.set_set]) rfl (by simp) rfl (by decide) (fun z => by cases z) (by decide)) rfl rfl rfl ?_
            refine me1 (pc' := 147) (L' := [(6, .ref fr), (5, ii 0), (4, ii 1), (0, .ref 16), (1, .ref p), (2, .ref ql), (3, .ref qw)]) (S' := [.ref fr]) dm_X1_startAdverb_145 rfl rfl rfl rfl ?_
            refine me1 (pc' := 148) (L' := [(6, .ref fr), (5, ii 0), (4, ii 1), (0, .ref 16), (1, .ref p), (2, .ref ql), (3, .ref qw)]) (S' := [.ref 16, .ref fr]) dm_X1_startAdverb_147 rfl rfl rfl rfl ?_
            refine me3 (pc' := 151) (S' := [ii ((k + 1 : Nat) : Int), .ref fr]) dm_X1_startAdverb_148 (g_get (v := ii ((k + 1 : Nat) : Int)) (hl_set (hl_lt h16)) rfl rfl (by decide)) rfl rfl rfl ?_
            refine me3 (pc' := 154) (S' := []) (h1 := ((h).set 16 (cO 1 [.ref 4, .ref 17, .ref 26, .ref 32, ii (t : Int), .ref 33, ii ((dq : Int) + 1), ii ca, ii ou, ii (wk - 3), ii 0, ii pl, nw, vx, vy, .null, ii ((k + 1 : Nat) : Int), lf, rt])).set fr (cO 0 [ii ((k + 1 : Nat) : Int), fo, fx, fy, ii fn, ii fm, ii fb])) dm_X1_startAdverb_151 (g_put (fs' := [ii ((k + 1 : Nat) : Int), fo, fx, fy, ii fn, ii fm, ii fb]) (hl_ne (by omega) hfr) rfl rfl rfl (by simp) rfl (by decide) (fun z => by cases z) (by omega)) rfl rfl rfl ?_
            refine me1 (pc' := 156) (L' := [(6, .ref fr), (5, ii 0), (4, ii 1), (0, .ref 16), (1, .ref p), (2, .ref ql), (3, .ref qw)]) (S' := [.ref fr]) dm_X1_startAdverb_154 rfl rfl rfl rfl ?_
            refine me1 (pc' := 157) (L' := [(6, .ref fr), (5, ii 0), (4, ii 1), (0, .ref 16), (1, .ref p), (2, .ref ql), (3, .ref qw)]) (S' := [.ref p, .ref fr]) dm_X1_startAdverb_156 rfl rfl rfl rfl ?_
            refine me3 (pc' := 160) (S' := []) (h1 := ((h).set 16 (cO 1 [.ref 4, .ref 17, .ref 26, .ref 32, ii (t : Int), .ref 33, ii ((dq : Int) + 1), ii ca, ii ou, ii (wk - 3), ii 0, ii pl, nw, vx, vy, .null, ii ((k + 1 : Nat) : Int), lf, rt])).set fr (cO 0 [ii ((k + 1 : Nat) : Int), .ref p, fx, fy, ii fn, ii fm, ii fb])) dm_X1_startAdverb_157 (g_put (fs' := [ii ((k + 1 : Nat) : Int), .ref p, fx, fy, ii fn, ii fm, ii fb]) (hl_set (hl_lt (hl_ne (by omega) hfr))) rfl (by rw [List.set_set]) rfl (by simp) rfl (by decide) (fun z => by cases z) (by omega)) rfl rfl rfl ?_
            refine me1 (pc' := 162) (L' := [(6, .ref fr), (5, ii 0), (4, ii 1), (0, .ref 16), (1, .ref p), (2, .ref ql), (3, .ref qw)]) (S' := [.ref fr]) dm_X1_startAdverb_160 rfl rfl rfl rfl ?_
            refine me1 (pc' := 163) (L' := [(6, .ref fr), (5, ii 0), (4, ii 1), (0, .ref 16), (1, .ref p), (2, .ref ql), (3, .ref qw)]) (S' := [.ref ql, .ref fr]) dm_X1_startAdverb_162 rfl rfl rfl rfl ?_
            refine me3 (pc' := 166) (S' := []) (h1 := ((h).set 16 (cO 1 [.ref 4, .ref 17, .ref 26, .ref 32, ii (t : Int), .ref 33, ii ((dq : Int) + 1), ii ca, ii ou, ii (wk - 3), ii 0, ii pl, nw, vx, vy, .null, ii ((k + 1 : Nat) : Int), lf, rt])).set fr (cO 0 [ii ((k + 1 : Nat) : Int), .ref p, .ref ql, fy, ii fn, ii fm, ii fb])) dm_X1_startAdverb_163 (g_put (fs' := [ii ((k + 1 : Nat) : Int), .ref p, .ref ql, fy, ii fn, ii fm, ii fb]) (hl_set (hl_lt (hl_ne (by omega) hfr))) rfl (by rw [List.set_set]) rfl (by simp) rfl (by decide) (fun z => by cases z) (by omega)) rfl rfl rfl ?_
            refine me1 (pc' := 168) (L' := [(6, .ref fr), (5, ii 0), (4, ii 1), (0, .ref 16), (1, .ref p), (2, .ref ql), (3, .ref qw)]) (S' := [.ref fr]) dm_X1_startAdverb_166 rfl rfl rfl rfl ?_
            refine me1 (pc' := 169) (L' := [(6, .ref fr), (5, ii 0), (4, ii 1), (0, .ref 16), (1, .ref p), (2, .ref ql), (3, .ref qw)]) (S' := [.ref qw, .ref fr]) dm_X1_startAdverb_168 rfl rfl rfl rfl ?_
            refine me3 (pc' := 172) (S' := []) (h1 := ((h).set 16 (cO 1 [.ref 4, .ref 17, .ref 26, .ref 32, ii (t : Int), .ref 33, ii ((dq : Int) + 1), ii ca, ii ou, ii (wk - 3), ii 0, ii pl, nw, vx, vy, .null, ii ((k + 1 : Nat) : Int), lf, rt])).set fr (cO 0 [ii ((k + 1 : Nat) : Int), .ref p, .ref ql, .ref qw, ii fn, ii fm, ii fb])) dm_X1_startAdverb_169 (g_put (fs' := [ii ((k + 1 : Nat) : Int), .ref p, .ref ql, .ref qw, ii fn, ii fm, ii fb]) (hl_set (hl_lt (hl_ne (by omega) hfr))) rfl (by rw [List.set_set]) rfl (by simp) rfl (by decide) (fun z => by cases z) (by omega)) rfl rfl rfl ?_
            refine me1 (pc' := 174) (L' := [(6, .ref fr), (5, ii 0), (4, ii 1), (0, .ref 16), (1, .ref p), (2, .ref ql), (3, .ref qw)]) (S' := [.ref fr]) dm_X1_startAdverb_172 rfl rfl rfl rfl ?_
            refine me1 (pc' := 175) (L' := [(6, .ref fr), (5, ii 0), (4, ii 1), (0, .ref 16), (1, .ref p), (2, .ref ql), (3, .ref qw)]) (S' := [.ref 16, .ref fr]) dm_X1_startAdverb_174 rfl rfl rfl rfl ?_
            refine me3 (pc' := 178) (S' := [ii (t : Int), .ref fr]) dm_X1_startAdverb_175 (g_get (v := ii (t : Int)) (hl_ne (by omega) (hl_set (hl_lt h16))) rfl rfl (by decide)) rfl rfl rfl ?_
            refine me3 (pc' := 181) (S' := []) (h1 := ((h).set 16 (cO 1 [.ref 4, .ref 17, .ref 26, .ref 32, ii (t : Int), .ref 33, ii ((dq : Int) + 1), ii ca, ii ou, ii (wk - 3), ii 0, ii pl, nw, vx, vy, .null, ii ((k + 1 : Nat) : Int), lf, rt])).set fr (cO 0 [ii ((k + 1 : Nat) : Int), .ref p, .ref ql, .ref qw, ii fn, ii fm, ii (t : Int)])) dm_X1_startAdverb_178 (g_put (fs' := [ii ((k + 1 : Nat) : Int), .ref p, .ref ql, .ref qw, ii fn, ii fm, ii (t : Int)]) (hl_set (hl_lt (hl_ne (by omega) hfr))) rfl (by rw [List.set_set]) rfl (by simp) rfl (by decide) (fun z => by cases z) (by omega)) rfl rfl rfl ?_
            refine me1 (pc' := 183) (L' := [(6, .ref fr), (5, ii 0), (4, ii 1), (0, .ref 16), (1, .ref p), (2, .ref ql), (3, .ref qw)]) (S' := [.ref fr]) dm_X1_startAdverb_181 rfl rfl rfl rfl ?_
            refine me0 (pc' := 184) (S' := [ii 0, .ref fr]) dm_X1_startAdverb_183 rfl rfl rfl rfl ?_
            refine me3 (pc' := 187) (S' := []) (h1 := ((h).set 16 (cO 1 [.ref 4, .ref 17, .ref 26, .ref 32, ii (t : Int), .ref 33, ii ((dq : Int) + 1), ii ca, ii ou, ii (wk - 3), ii 0, ii pl, nw, vx, vy, .null, ii ((k + 1 : Nat) : Int), lf, rt])).set fr (cO 0 [ii ((k + 1 : Nat) : Int), .ref p, .ref ql, .ref qw, ii 0, ii fm, ii (t : Int)])) dm_X1_startAdverb_184 (g_put (fs' := [ii ((k + 1 : Nat) : Int), .ref p, .ref ql, .ref qw, ii 0, ii fm, ii (t : Int)]) (hl_set (hl_lt (hl_ne (by omega) hfr))) rfl (by rw [List.set_set]) rfl (by simp) rfl (by decide) (fun z => by cases z) (by omega)) rfl rfl rfl ?_
            refine me1 (pc' := 189) (L' := [(6, .ref fr), (5, ii 0), (4, ii 1), (0, .ref 16), (1, .ref p), (2, .ref ql), (3, .ref qw)]) (S' := [.ref fr]) dm_X1_startAdverb_187 rfl rfl rfl rfl ?_
            refine me1 (pc' := 191) (L' := [(6, .ref fr), (5, ii 0), (4, ii 1), (0, .ref 16), (1, .ref p), (2, .ref ql), (3, .ref qw)]) (S' := [ii 1, .ref fr]) dm_X1_startAdverb_189 rfl rfl rfl rfl ?_
            refine me_1f (pc' := 194) dm_X1_startAdverb_191 rfl (by decide) rfl ?_
            refine me1 (pc' := 195) (L' := [(6, .ref fr), (5, ii 0), (4, ii 1), (0, .ref 16), (1, .ref p), (2, .ref ql), (3, .ref qw)]) (S' := [.ref ql, .ref fr]) dm_X1_startAdverb_194 rfl rfl rfl rfl ?_
            refine me2 (pc' := 198) (S' := [.ref fr]) dm_X1_startAdverb_195 rfl rfl rfl ?_
            refine me1 (pc' := 199) (L' := [(6, .ref fr), (5, ii 0), (4, ii 1), (0, .ref 16), (1, .ref p), (2, .ref ql), (3, .ref qw)]) (S' := [.ref ql, .ref fr]) dm_X1_startAdverb_198 rfl rfl rfl rfl ?_
            refine x_cp (pc' := 202) (v := zz (decide (vk v ≤ 1))) (rest := [.ref fr]) dm_X1_startAdverb_199 rfl (g_inv (As := []) (S := [.ref fr]) (hl_ne (by omega) (hl_ne (by omega) hvq)) rfl rfl rfl (by omega)) rfl rfl rfl (c_isOne (by omega) (cv_set (fun z => by have := hA _ z; omega) (cv_set (fun z => by have := hA _ z; omega) hz7))) ?_
            refine y_zne (c := decide (vk v ≤ 1)) (t := 212) (pc' := 205) dm_X1_startAdverb_202 rfl rfl (fun hb10 => ?_) (fun hb10 => ?_)
            · replace hb10 := dT hb10
              refine me1 (pc' := 213) (L' := [(6, .ref fr), (5, ii 0), (4, ii 1), (0, .ref 16), (1, .ref p), (2, .ref ql), (3, .ref qw)]) (S' := [.ref qw, .ref fr]) dm_X1_startAdverb_212 rfl rfl rfl rfl ?_
              refine me3 (pc' := 216) (S' := [ii (vm w : Int), .ref fr]) dm_X1_startAdverb_213 (g_get (v := ii (vm w : Int)) (hl_ne (by omega) (hl_ne (by omega) hwq)) rfl rfl (by omega)) rfl rfl rfl ?_
              refine me3 (pc' := 219) (S' := []) (h1 := ((h).set 16 (cO 1 [.ref 4, .ref 17, .ref 26, .ref 32, ii (t : Int), .ref 33, ii ((dq : Int) + 1), ii ca, ii ou, ii (wk - 3), ii 0, ii pl, nw, vx, vy, .null, ii ((k + 1 : Nat) : Int), lf, rt])).set fr (cO 0 [ii ((k + 1 : Nat) : Int), .ref p, .ref ql, .ref qw, ii 0, ii (vm w : Int), ii (t : Int)])) dm_X1_startAdverb_216 (g_put (fs' := [ii ((k + 1 : Nat) : Int), .ref p, .ref ql, .ref qw, ii 0, ii (vm w : Int), ii (t : Int)]) (hl_set (hl_lt (hl_ne (by omega) hfr))) rfl (by rw [List.set_set]) rfl (by simp) rfl (by decide) (fun z => by cases z) (by omega)) rfl rfl rfl ?_
              refine me1 (pc' := 221) (L' := [(6, .ref fr), (5, ii 0), (4, ii 1), (0, .ref 16), (1, .ref p), (2, .ref ql), (3, .ref qw)]) (S' := [ii 1]) dm_X1_startAdverb_219 rfl rfl rfl rfl ?_
              refine me_1t (pc' := 255) dm_X1_startAdverb_221 rfl (by decide) ?_
              refine y_ret (r := none) dm_X1_startAdverb_255 rfl rfl rfl ?_
              first | (exfalso; omega) | (refine ⟨rfl, ?_⟩; rw [← hH]; first | rw [if_pos (by omega)] | rw [if_neg (by omega)])
            · replace hb10 := dF hb10
              refine me1 (pc' := 206) (L' := [(6, .ref fr), (5, ii 0), (4, ii 1), (0, .ref 16), (1, .ref p), (2, .ref ql), (3, .ref qw)]) (S' := [.ref ql, .ref fr]) dm_X1_startAdverb_205 rfl rfl rfl rfl ?_
              refine me3 (pc' := 209) (S' := [ii (vm v : Int), .ref fr]) dm_X1_startAdverb_206 (g_get (v := ii (vm v : Int)) (hl_ne (by omega) (hl_ne (by omega) hvq)) rfl rfl (by omega)) rfl rfl rfl ?_
              refine me2 (pc' := 216) (S' := [ii (vm v : Int), .ref fr]) dm_X1_startAdverb_209 rfl rfl rfl ?_
              refine me3 (pc' := 219) (S' := []) (h1 := ((h).set 16 (cO 1 [.ref 4, .ref 17, .ref 26, .ref 32, ii (t : Int), .ref 33, ii ((dq : Int) + 1), ii ca, ii ou, ii (wk - 3), ii 0, ii pl, nw, vx, vy, .null, ii ((k + 1 : Nat) : Int), lf, rt])).set fr (cO 0 [ii ((k + 1 : Nat) : Int), .ref p, .ref ql, .ref qw, ii 0, ii (vm v : Int), ii (t : Int)])) dm_X1_startAdverb_216 (g_put (fs' := [ii ((k + 1 : Nat) : Int), .ref p, .ref ql, .ref qw, ii 0, ii (vm v : Int), ii (t : Int)]) (hl_set (hl_lt (hl_ne (by omega) hfr))) rfl (by rw [List.set_set]) rfl (by simp) rfl (by decide) (fun z => by cases z) (by omega)) rfl rfl rfl ?_
              refine me1 (pc' := 221) (L' := [(6, .ref fr), (5, ii 0), (4, ii 1), (0, .ref 16), (1, .ref p), (2, .ref ql), (3, .ref qw)]) (S' := [ii 1]) dm_X1_startAdverb_219 rfl rfl rfl rfl ?_
              refine me_1t (pc' := 255) dm_X1_startAdverb_221 rfl (by decide) ?_
              refine y_ret (r := none) dm_X1_startAdverb_255 rfl rfl rfl ?_
              first | (exfalso; omega) | (refine ⟨rfl, ?_⟩; rw [← hH]; first | rw [if_pos (by omega)] | rw [if_neg (by omega)])
          · exfalso; omega
        · exfalso; omega
theorem m_advEO {xt : mj_X} {d t e dq qw fr p i k mk ln : Nat} {T : Nat → Tok} {A : Nat → Prop} {h H : mj_H} {w : VV} {sf ff : Nat → Option Nat} {dd ca ou wk pl fl fn fm fb : Int} {nx nw vx vy dg lf rt fo fx fy : Value} (hd : 3 ≤ d) (hA : okA A h) (hK : TOKS T mk ln) (h16 : h[16]? = some (mcC (t : Int) (dq : Int) ca ou wk 0 pl nw vx vy dg ((k + 1 : Nat) : Int) lf rt)) (h32 : h[32]? = some (cA 4 8192 sf)) (ht : t < 8192) (h33 : h[33]? = some (cA 7 64 ff)) (hdq : dq < 64) (hff : ff dq = some fr) (hfr2 : 34 ≤ fr ∧ fr ≤ 97) (hfr : h[fr]? = some (cO 0 [ii fl, fo, fx, fy, ii fn, ii fm, ii fb])) (hp : h[p]? = some (doC T i dd nx)) (hp2 : 127 ≤ p) (hkA : k < avM T i) (hca : -2147483648 ≤ ca ∧ ca ≤ 2147483647) (hwk : 0 ≤ wk ∧ wk ≤ 1000000) (hw : cv A h (e + 1) qw w) (hle : 3 ≤ wk) (h39 : tqD (T (i + 1 + k)) = 39) (had : -2147483648 ≤ tqD (T (i + 1 + k)) ∧ tqD (T (i + 1 + k)) ≤ 2147483647) (hH : (h.set 16 (mcC (t : Int) ((dq : Int) + 1) ca ou (wk - 3) 0 pl nw vx vy .null ((k + 1 : Nat) : Int) lf rt)).set fr (cO 0 [ii ((k + 1 : Nat) : Int), .ref p, .null, .ref qw, ii 0, ii (vm w : Int), ii (t : Int)]) = H) : pgN xt d 71 [.ref 16, .ref p, .null, .ref qw] h (fun h' => h' = H) := by
  have hz8 := hw
  obtain ⟨hw2, ⟨hq2, hqA2⟩, hsz2, hlv2, row2, fr2, vals2, hwq, -, -, -, -⟩ := id hw
  have hqw : qw = 25 ∨ qw = 101 ∨ 127 ≤ qw := (hA qw hqA2).2
  have hwm := vw1_m hw2
  refine x_enter pm_X1_startAdverb (L0 := [(0, .ref 16), (1, .ref p), (2, .null), (3, .ref qw)]) rfl (Nat.le_of_ble_eq_true rfl) (by omega) ?_
  refine me1 (pc' := 1) (L' := [(0, .ref 16), (1, .ref p), (2, .null), (3, .ref qw)]) (S' := [.ref 16]) dm_X1_startAdverb_0 rfl rfl rfl rfl ?_
  refine me0 (pc' := 2) (S' := [.null, .ref 16]) dm_X1_startAdverb_1 rfl rfl rfl rfl ?_
  refine me3 (pc' := 5) (S' := []) (h1 := (h).set 16 (cO 1 [.ref 4, .ref 17, .ref 26, .ref 32, ii (t : Int), .ref 33, ii (dq : Int), ii ca, ii ou, ii wk, ii 0, ii pl, nw, vx, vy, .null, ii ((k + 1 : Nat) : Int), lf, rt])) dm_X1_startAdverb_2 (g_put (fs' := [.ref 4, .ref 17, .ref 26, .ref 32, ii (t : Int), .ref 33, ii (dq : Int), ii ca, ii ou, ii wk, ii 0, ii pl, nw, vx, vy, .null, ii ((k + 1 : Nat) : Int), lf, rt]) h16 rfl rfl rfl (by simp) rfl (by decide) (fun z => by cases z) (by decide)) rfl rfl rfl ?_
  refine me1 (pc' := 6) (L' := [(0, .ref 16), (1, .ref p), (2, .null), (3, .ref qw)]) (S' := [.ref 16]) dm_X1_startAdverb_5 rfl rfl rfl rfl ?_
  refine me0 (pc' := 7) (S' := [ii 3, .ref 16]) dm_X1_startAdverb_6 rfl rfl rfl rfl ?_
  refine me1 (pc' := 8) (L' := [(0, .ref 16), (1, .ref p), (2, .null), (3, .ref qw)]) (S' := [.ref p, ii 3, .ref 16]) dm_X1_startAdverb_7 rfl rfl rfl rfl ?_
  refine x_cv (pc' := 11) (rest := []) dm_X1_startAdverb_8 rfl (g_inv (As := [ii 3, .ref p]) (S := []) (hl_set (hl_lt h16)) rfl rfl rfl (by decide)) rfl rfl rfl (m_takeT (n := 3) (by omega) (hl_set (hl_lt h16)) (hl_ne (by omega) hp) hp2 hca (by decide) hwk hle (by rw [List.set_set])) ?_
  rintro _ _ ⟨rfl, rfl⟩
  refine me_1t (pc' := 15) dm_X1_startAdverb_11 rfl (by decide) ?_
  refine me1 (pc' := 16) (L' := [(0, .ref 16), (1, .ref p), (2, .null), (3, .ref qw)]) (S' := [.ref p]) dm_X1_startAdverb_15 rfl rfl rfl rfl ?_
  refine me1 (pc' := 17) (L' := [(0, .ref 16), (1, .ref p), (2, .null), (3, .ref qw)]) (S' := [.ref 16, .ref p]) dm_X1_startAdverb_16 rfl rfl rfl rfl ?_
  refine me3 (pc' := 20) (S' := [ii ((k + 1 : Nat) : Int), .ref p]) dm_X1_startAdverb_17 (g_get (v := ii ((k + 1 : Nat) : Int)) (hl_set (hl_lt h16)) rfl rfl (by decide)) rfl rfl rfl ?_
  refine x_cp (pc' := 23) (v := ii (tqD (T (i + 1 + k)))) (rest := []) dm_X1_startAdverb_20 rfl (g_inv (As := [ii ((k + 1 : Nat) : Int)]) (S := []) (hl_ne (by omega) hp) rfl rfl rfl (by omega)) rfl rfl rfl (m_adverbAt (by omega) hK (hl_ne (by omega) hp) (by omega) hkA) ?_
  refine me0 (pc' := 25) (S' := [ii 39, ii (tqD (T (i + 1 + k)))]) dm_X1_startAdverb_23 rfl rfl rfl rfl ?_
  refine y_2ne (a := tqD (T (i + 1 + k))) (b := 39) (t := 32) (pc' := 28) dm_X1_startAdverb_25 rfl rfl (by omega) (fun hb1 => ?_) (fun hb1 => ?_)
  · exfalso; omega
  · refine me0 (pc' := 29) (S' := [ii 1]) dm_X1_startAdverb_28 rfl rfl rfl rfl ?_
    refine me2 (pc' := 33) (S' := [ii 1]) dm_X1_startAdverb_29 rfl rfl rfl ?_
    refine me1 (pc' := 35) (L' := [(4, ii 1), (0, .ref 16), (1, .ref p), (2, .null), (3, .ref qw)]) (S' := []) dm_X1_startAdverb_33 rfl rfl rfl rfl ?_
    refine me1 (pc' := 37) (L' := [(4, ii 1), (0, .ref 16), (1, .ref p), (2, .null), (3, .ref qw)]) (S' := [ii 1]) dm_X1_startAdverb_35 rfl rfl rfl rfl ?_
    refine me_1f (pc' := 40) dm_X1_startAdverb_37 rfl (by decide) rfl ?_
    refine me1 (pc' := 41) (L' := [(4, ii 1), (0, .ref 16), (1, .ref p), (2, .null), (3, .ref qw)]) (S' := [.null]) dm_X1_startAdverb_40 rfl rfl rfl rfl ?_
    refine me2 (pc' := 73) (S' := []) dm_X1_startAdverb_41 rfl rfl rfl ?_
    refine me0 (pc' := 74) (S' := [ii 0]) dm_X1_startAdverb_73 rfl rfl rfl rfl ?_
    refine me1 (pc' := 76) (L' := [(5, ii 0), (4, ii 1), (0, .ref 16), (1, .ref p), (2, .null), (3, .ref qw)]) (S' := []) dm_X1_startAdverb_74 rfl rfl rfl rfl ?_
    refine me1 (pc' := 78) (L' := [(5, ii 0), (4, ii 1), (0, .ref 16), (1, .ref p), (2, .null), (3, .ref qw)]) (S' := [ii 0]) dm_X1_startAdverb_76 rfl rfl rfl rfl ?_
    refine me_1f (pc' := 81) dm_X1_startAdverb_78 rfl (by decide) rfl ?_
    refine me1 (pc' := 83) (L' := [(5, ii 0), (4, ii 1), (0, .ref 16), (1, .ref p), (2, .null), (3, .ref qw)]) (S' := [ii 1]) dm_X1_startAdverb_81 rfl rfl rfl rfl ?_
    refine me_1t (pc' := 104) dm_X1_startAdverb_83 rfl (by decide) ?_
    refine me1 (pc' := 105) (L' := [(5, ii 0), (4, ii 1), (0, .ref 16), (1, .ref p), (2, .null), (3, .ref qw)]) (S' := [.ref 16]) dm_X1_startAdverb_104 rfl rfl rfl rfl ?_
    refine me3 (pc' := 108) (S' := [ii (dq : Int)]) dm_X1_startAdverb_105 (g_get (v := ii (dq : Int)) (hl_set (hl_lt h16)) rfl rfl (by decide)) rfl rfl rfl ?_
    refine me1 (pc' := 109) (L' := [(5, ii 0), (4, ii 1), (0, .ref 16), (1, .ref p), (2, .null), (3, .ref qw)]) (S' := [.ref 16, ii (dq : Int)]) dm_X1_startAdverb_108 rfl rfl rfl rfl ?_
    refine me3 (pc' := 112) (S' := [.ref 33, ii (dq : Int)]) dm_X1_startAdverb_109 (g_get (v := .ref 33) (hl_set (hl_lt h16)) rfl rfl (by decide)) rfl rfl rfl ?_
    refine me3 (pc' := 113) (S' := [ii 64, ii (dq : Int)]) dm_X1_startAdverb_112 (yh_len (n := 64) rfl (hl_ne (by decide) h33) (by decide)) rfl rfl rfl ?_
    refine y_2lt (a := (dq : Int)) (b := 64) (t := 124) (pc' := 116) dm_X1_startAdverb_113 rfl rfl (by omega) (fun hb2 => ?_) (fun hb2 => ?_)
    · refine me1 (pc' := 125) (L' := [(5, ii 0), (4, ii 1), (0, .ref 16), (1, .ref p), (2, .null), (3, .ref qw)]) (S' := [.ref 16]) dm_X1_startAdverb_124 rfl rfl rfl rfl ?_
      refine me3 (pc' := 128) (S' := [.ref 33]) dm_X1_startAdverb_125 (g_get (v := .ref 33) (hl_set (hl_lt h16)) rfl rfl (by decide)) rfl rfl rfl ?_
      refine me1 (pc' := 129) (L' := [(5, ii 0), (4, ii 1), (0, .ref 16), (1, .ref p), (2, .null), (3, .ref qw)]) (S' := [.ref 16, .ref 33]) dm_X1_startAdverb_128 rfl rfl rfl rfl ?_
      refine me3 (pc' := 132) (S' := [ii (dq : Int), .ref 33]) dm_X1_startAdverb_129 (g_get (v := ii (dq : Int)) (hl_set (hl_lt h16)) rfl rfl (by decide)) rfl rfl rfl ?_
      refine me3 (pc' := 133) (S' := [.ref fr]) dm_X1_startAdverb_132 (yh_aald (w := some fr) rfl (hl_ne (by decide) h33) (by omega) (by omega) (by omega) (by decide) hff) rfl rfl rfl ?_
      refine me1 (pc' := 135) (L' := [(6, .ref fr), (5, ii 0), (4, ii 1), (0, .ref 16), (1, .ref p), (2, .null), (3, .ref qw)]) (S' := []) dm_X1_startAdverb_133 rfl rfl rfl rfl ?_
      refine me1 (pc' := 136) (L' := [(6, .ref fr), (5, ii 0), (4, ii 1), (0, .ref 16), (1, .ref p), (2, .null), (3, .ref qw)]) (S' := [.ref 16]) dm_X1_startAdverb_135 rfl rfl rfl rfl ?_
      refine me0 (pc' := 137) (S' := [.ref 16, .ref 16]) dm_X1_startAdverb_136 rfl rfl rfl rfl ?_
      refine me3 (pc' := 140) (S' := [ii (dq : Int), .ref 16]) dm_X1_startAdverb_137 (g_get (v := ii (dq : Int)) (hl_set (hl_lt h16)) rfl rfl (by decide)) rfl rfl rfl ?_
      refine me0 (pc' := 141) (S' := [ii 1, ii (dq : Int), .ref 16]) dm_X1_startAdverb_140 rfl rfl rfl rfl ?_
      refine y_iadd (a := (dq : Int)) (b := 1) dm_X1_startAdverb_141 (pc' := 142) rfl ?_
      refine me3 (pc' := 145) (S' := []) (h1 := (h).set 16 (cO 1 [.ref 4, .ref 17, .ref 26, .ref 32, ii (t : Int), .ref 33, ii ((dq : Int) + 1), ii ca, ii ou, ii (wk - 3), ii 0, ii pl, nw, vx, vy, .null, ii ((k + 1 : Nat) : Int), lf, rt])) dm_X1_startAdverb_142 (g_put (fs' := [.ref 4, .ref 17, .ref 26, .ref 32, ii (t : Int), .ref 33, ii ((dq : Int) + 1), ii ca, ii ou, ii (wk - 3), ii 0, ii pl, nw, vx, vy, .null, ii ((k + 1 : Nat) : Int), lf, rt]) (hl_set (hl_lt h16)) rfl (by rw [List.set_set]) rfl (by simp) rfl (by decide) (fun z => by cases z) (by decide)) rfl rfl rfl ?_
      refine me1 (pc' := 147) (L' := [(6, .ref fr), (5, ii 0), (4, ii 1), (0, .ref 16), (1, .ref p), (2, .null), (3, .ref qw)]) (S' := [.ref fr]) dm_X1_startAdverb_145 rfl rfl rfl rfl ?_
      refine me1 (pc' := 148) (L' := [(6, .ref fr), (5, ii 0), (4, ii 1), (0, .ref 16), (1, .ref p), (2, .null), (3, .ref qw)]) (S' := [.ref 16, .ref fr]) dm_X1_startAdverb_147 rfl rfl rfl rfl ?_
      refine me3 (pc' := 151) (S' := [ii ((k + 1 : Nat) : Int), .ref fr]) dm_X1_startAdverb_148 (g_get (v := ii ((k + 1 : Nat) : Int)) (hl_set (hl_lt h16)) rfl rfl (by decide)) rfl rfl rfl ?_
      refine me3 (pc' := 154) (S' := []) (h1 := ((h).set 16 (cO 1 [.ref 4, .ref 17, .ref 26, .ref 32, ii (t : Int), .ref 33, ii ((dq : Int) + 1), ii ca, ii ou, ii (wk - 3), ii 0, ii pl, nw, vx, vy, .null, ii ((k + 1 : Nat) : Int), lf, rt])).set fr (cO 0 [ii ((k + 1 : Nat) : Int), fo, fx, fy, ii fn, ii fm, ii fb])) dm_X1_startAdverb_151 (g_put (fs' := [ii ((k + 1 : Nat) : Int), fo, fx, fy, ii fn, ii fm, ii fb]) (hl_ne (by omega) hfr) rfl rfl rfl (by simp) rfl (by decide) (fun z => by cases z) (by omega)) rfl rfl rfl ?_
      refine me1 (pc' := 156) (L' := [(6, .ref fr), (5, ii 0), (4, ii 1), (0, .ref 16), (1, .ref p), (2, .null), (3, .ref qw)]) (S' := [.ref fr]) dm_X1_startAdverb_154 rfl rfl rfl rfl ?_
      refine me1 (pc' := 157) (L' := [(6, .ref fr), (5, ii 0), (4, ii 1), (0, .ref 16), (1, .ref p), (2, .null), (3, .ref qw)]) (S' := [.ref p, .ref fr]) dm_X1_startAdverb_156 rfl rfl rfl rfl ?_
      refine me3 (pc' := 160) (S' := []) (h1 := ((h).set 16 (cO 1 [.ref 4, .ref 17, .ref 26, .ref 32, ii (t : Int), .ref 33, ii ((dq : Int) + 1), ii ca, ii ou, ii (wk - 3), ii 0, ii pl, nw, vx, vy, .null, ii ((k + 1 : Nat) : Int), lf, rt])).set fr (cO 0 [ii ((k + 1 : Nat) : Int), .ref p, fx, fy, ii fn, ii fm, ii fb])) dm_X1_startAdverb_157 (g_put (fs' := [ii ((k + 1 : Nat) : Int), .ref p, fx, fy, ii fn, ii fm, ii fb]) (hl_set (hl_lt (hl_ne (by omega) hfr))) rfl (by rw [List.set_set]) rfl (by simp) rfl (by decide) (fun z => by cases z) (by omega)) rfl rfl rfl ?_
      refine me1 (pc' := 162) (L' := [(6, .ref fr), (5, ii 0), (4, ii 1), (0, .ref 16), (1, .ref p), (2, .null), (3, .ref qw)]) (S' := [.ref fr]) dm_X1_startAdverb_160 rfl rfl rfl rfl ?_
      refine me1 (pc' := 163) (L' := [(6, .ref fr), (5, ii 0), (4, ii 1), (0, .ref 16), (1, .ref p), (2, .null), (3, .ref qw)]) (S' := [.null, .ref fr]) dm_X1_startAdverb_162 rfl rfl rfl rfl ?_
      refine me3 (pc' := 166) (S' := []) (h1 := ((h).set 16 (cO 1 [.ref 4, .ref 17, .ref 26, .ref 32, ii (t : Int), .ref 33, ii ((dq : Int) + 1), ii ca, ii ou, ii (wk - 3), ii 0, ii pl, nw, vx, vy, .null, ii ((k + 1 : Nat) : Int), lf, rt])).set fr (cO 0 [ii ((k + 1 : Nat) : Int), .ref p, .null, fy, ii fn, ii fm, ii fb])) dm_X1_startAdverb_163 (g_put (fs' := [ii ((k + 1 : Nat) : Int), .ref p, .null, fy, ii fn, ii fm, ii fb]) (hl_set (hl_lt (hl_ne (by omega) hfr))) rfl (by rw [List.set_set]) rfl (by simp) rfl (by decide) (fun z => by cases z) (by omega)) rfl rfl rfl ?_
      refine me1 (pc' := 168) (L' := [(6, .ref fr), (5, ii 0), (4, ii 1), (0, .ref 16), (1, .ref p), (2, .null), (3, .ref qw)]) (S' := [.ref fr]) dm_X1_startAdverb_166 rfl rfl rfl rfl ?_
      refine me1 (pc' := 169) (L' := [(6, .ref fr), (5, ii 0), (4, ii 1), (0, .ref 16), (1, .ref p), (2, .null), (3, .ref qw)]) (S' := [.ref qw, .ref fr]) dm_X1_startAdverb_168 rfl rfl rfl rfl ?_
      refine me3 (pc' := 172) (S' := []) (h1 := ((h).set 16 (cO 1 [.ref 4, .ref 17, .ref 26, .ref 32, ii (t : Int), .ref 33, ii ((dq : Int) + 1), ii ca, ii ou, ii (wk - 3), ii 0, ii pl, nw, vx, vy, .null, ii ((k + 1 : Nat) : Int), lf, rt])).set fr (cO 0 [ii ((k + 1 : Nat) : Int), .ref p, .null, .ref qw, ii fn, ii fm, ii fb])) dm_X1_startAdverb_169 (g_put (fs' := [ii ((k + 1 : Nat) : Int), .ref p, .null, .ref qw, ii fn, ii fm, ii fb]) (hl_set (hl_lt (hl_ne (by omega) hfr))) rfl (by rw [List.set_set]) rfl (by simp) rfl (by decide) (fun z => by cases z) (by omega)) rfl rfl rfl ?_
      refine me1 (pc' := 174) (L' := [(6, .ref fr), (5, ii 0), (4, ii 1), (0, .ref 16), (1, .ref p), (2, .null), (3, .ref qw)]) (S' := [.ref fr]) dm_X1_startAdverb_172 rfl rfl rfl rfl ?_
      refine me1 (pc' := 175) (L' := [(6, .ref fr), (5, ii 0), (4, ii 1), (0, .ref 16), (1, .ref p), (2, .null), (3, .ref qw)]) (S' := [.ref 16, .ref fr]) dm_X1_startAdverb_174 rfl rfl rfl rfl ?_
      refine me3 (pc' := 178) (S' := [ii (t : Int), .ref fr]) dm_X1_startAdverb_175 (g_get (v := ii (t : Int)) (hl_ne (by omega) (hl_set (hl_lt h16))) rfl rfl (by decide)) rfl rfl rfl ?_
      refine me3 (pc' := 181) (S' := []) (h1 := ((h).set 16 (cO 1 [.ref 4, .ref 17, .ref 26, .ref 32, ii (t : Int), .ref 33, ii ((dq : Int) + 1), ii ca, ii ou, ii (wk - 3), ii 0, ii pl, nw, vx, vy, .null, ii ((k + 1 : Nat) : Int), lf, rt])).set fr (cO 0 [ii ((k + 1 : Nat) : Int), .ref p, .null, .ref qw, ii fn, ii fm, ii (t : Int)])) dm_X1_startAdverb_178 (g_put (fs' := [ii ((k + 1 : Nat) : Int), .ref p, .null, .ref qw, ii fn, ii fm, ii (t : Int)]) (hl_set (hl_lt (hl_ne (by omega) hfr))) rfl (by rw [List.set_set]) rfl (by simp) rfl (by decide) (fun z => by cases z) (by omega)) rfl rfl rfl ?_
      refine me1 (pc' := 183) (L' := [(6, .ref fr), (5, ii 0), (4, ii 1), (0, .ref 16), (1, .ref p), (2, .null), (3, .ref qw)]) (S' := [.ref fr]) dm_X1_startAdverb_181 rfl rfl rfl rfl ?_
      refine me0 (pc' := 184) (S' := [ii 0, .ref fr]) dm_X1_startAdverb_183 rfl rfl rfl rfl ?_
      refine me3 (pc' := 187) (S' := []) (h1 := ((h).set 16 (cO 1 [.ref 4, .ref 17, .ref 26, .ref 32, ii (t : Int), .ref 33, ii ((dq : Int) + 1), ii ca, ii ou, ii (wk - 3), ii 0, ii pl, nw, vx, vy, .null, ii ((k + 1 : Nat) : Int), lf, rt])).set fr (cO 0 [ii ((k + 1 : Nat) : Int), .ref p, .null, .ref qw, ii 0, ii fm, ii (t : Int)])) dm_X1_startAdverb_184 (g_put (fs' := [ii ((k + 1 : Nat) : Int), .ref p, .null, .ref qw, ii 0, ii fm, ii (t : Int)]) (hl_set (hl_lt (hl_ne (by omega) hfr))) rfl (by rw [List.set_set]) rfl (by simp) rfl (by decide) (fun z => by cases z) (by omega)) rfl rfl rfl ?_
      refine me1 (pc' := 189) (L' := [(6, .ref fr), (5, ii 0), (4, ii 1), (0, .ref 16), (1, .ref p), (2, .null), (3, .ref qw)]) (S' := [.ref fr]) dm_X1_startAdverb_187 rfl rfl rfl rfl ?_
      refine me1 (pc' := 191) (L' := [(6, .ref fr), (5, ii 0), (4, ii 1), (0, .ref 16), (1, .ref p), (2, .null), (3, .ref qw)]) (S' := [ii 1, .ref fr]) dm_X1_startAdverb_189 rfl rfl rfl rfl ?_
      refine me_1f (pc' := 194) dm_X1_startAdverb_191 rfl (by decide) rfl ?_
      refine me1 (pc' := 195) (L' := [(6, .ref fr), (5, ii 0), (4, ii 1), (0, .ref 16), (1, .ref p), (2, .null), (3, .ref qw)]) (S' := [.null, .ref fr]) dm_X1_startAdverb_194 rfl rfl rfl rfl ?_
      refine me2 (pc' := 212) (S' := [.ref fr]) dm_X1_startAdverb_195 rfl rfl rfl ?_
      refine me1 (pc' := 213) (L' := [(6, .ref fr), (5, ii 0), (4, ii 1), (0, .ref 16), (1, .ref p), (2, .null), (3, .ref qw)]) (S' := [.ref qw, .ref fr]) dm_X1_startAdverb_212 rfl rfl rfl rfl ?_
      refine me3 (pc' := 216) (S' := [ii (vm w : Int), .ref fr]) dm_X1_startAdverb_213 (g_get (v := ii (vm w : Int)) (hl_ne (by omega) (hl_ne (by omega) hwq)) rfl rfl (by omega)) rfl rfl rfl ?_
      refine me3 (pc' := 219) (S' := []) (h1 := ((h).set 16 (cO 1 [.ref 4, .ref 17, .ref 26, .ref 32, ii (t : Int), .ref 33, ii ((dq : Int) + 1), ii ca, ii ou, ii (wk - 3), ii 0, ii pl, nw, vx, vy, .null, ii ((k + 1 : Nat) : Int), lf, rt])).set fr (cO 0 [ii ((k + 1 : Nat) : Int), .ref p, .null, .ref qw, ii 0, ii (vm w : Int), ii (t : Int)])) dm_X1_startAdverb_216 (g_put (fs' := [ii ((k + 1 : Nat) : Int), .ref p, .null, .ref qw, ii 0, ii (vm w : Int), ii (t : Int)]) (hl_set (hl_lt (hl_ne (by omega) hfr))) rfl (by rw [List.set_set]) rfl (by simp) rfl (by decide) (fun z => by cases z) (by omega)) rfl rfl rfl ?_
      refine me1 (pc' := 221) (L' := [(6, .ref fr), (5, ii 0), (4, ii 1), (0, .ref 16), (1, .ref p), (2, .null), (3, .ref qw)]) (S' := [ii 1]) dm_X1_startAdverb_219 rfl rfl rfl rfl ?_
      refine me_1t (pc' := 255) dm_X1_startAdverb_221 rfl (by decide) ?_
      refine y_ret (r := none) dm_X1_startAdverb_255 rfl rfl rfl ?_
      refine ⟨rfl, ?_⟩
      rw [← hH]
    · exfalso; omega
theorem dm_X1_startAdverb_224 : mj_dec prog_3_method_20_code 224 = some (.aload 6, 2) := by decide +kernel
theorem dm_X1_startAdverb_226 : mj_dec prog_3_method_20_code 226 = some (.aload_n 2, 1) := by decide +kernel
theorem dm_X1_startAdverb_227 : mj_dec prog_3_method_20_code 227 = some (.ifnonnull 7, 3) := by decide +kernel
theorem dm_X1_startAdverb_234 : mj_dec prog_3_method_20_code 234 = some (.iconst 0, 1) := by decide +kernel
theorem dm_X1_startAdverb_235 : mj_dec prog_3_method_20_code 235 = some (.putfield 240, 3) := by decide +kernel
theorem dm_X1_startAdverb_238 : mj_dec prog_3_method_20_code 238 = some (.aload_n 0, 1) := by decide +kernel
theorem dm_X1_startAdverb_239 : mj_dec prog_3_method_20_code 239 = some (.aload_n 2, 1) := by decide +kernel
theorem dm_X1_startAdverb_240 : mj_dec prog_3_method_20_code 240 = some (.ifnonnull 11, 3) := by decide +kernel
theorem dm_X1_startAdverb_251 : mj_dec prog_3_method_20_code 251 = some (.aload_n 2, 1) := by decide +kernel
theorem dm_X1_startAdverb_252 : mj_dec prog_3_method_20_code 252 = some (.invokevirtual 138, 3) := by decide +kernel
theorem m_advFT {xt : mj_X} {d t e dq qw fr ql p i k mk ln : Nat} {T : Nat → Tok} {A : Nat → Prop} {h H : mj_H} {v w : VV} {sf ff : Nat → Option Nat} {dd ca ou wk pl fl fn fm fb : Int} {nx nw vx vy dg lf rt fo fx fy : Value} (hd : 3 ≤ d) (hA : okA A h) (hK : TOKS T mk ln) (h16 : h[16]? = some (mcC (t : Int) (dq : Int) ca ou wk 0 pl nw vx vy dg ((k + 1 : Nat) : Int) lf rt)) (h32 : h[32]? = some (cA 4 8192 sf)) (ht : t < 8192) (h33 : h[33]? = some (cA 7 64 ff)) (hdq : dq < 64) (hff : ff dq = some fr) (hfr2 : 34 ≤ fr ∧ fr ≤ 97) (hfr : h[fr]? = some (cO 0 [ii fl, fo, fx, fy, ii fn, ii fm, ii fb])) (hp : h[p]? = some (doC T i dd nx)) (hp2 : 127 ≤ p) (hkA : k < avM T i) (hca : -2147483648 ≤ ca ∧ ca ≤ 2147483647) (hwk : 0 ≤ wk ∧ wk ≤ 1000000) (hw : cv A h (e + 1) qw w) (hv : cv A h (e + 1) ql v) (hle : 3 ≤ wk) (h39 : tqD (T (i + 1 + k)) ≠ 39) (had : -2147483648 ≤ tqD (T (i + 1 + k)) ∧ tqD (T (i + 1 + k)) ≤ 2147483647) (hH : ((h.set 32 (cA 4 8192 (va_up sf t (some ql)))).set 16 (mcC ((t + 1 : Nat) : Int) ((dq : Int) + 1) ca ou (wk - 3) 0 pl nw vx vy .null ((k + 1 : Nat) : Int) lf rt)).set fr (cO 0 [ii ((k + 1 : Nat) : Int), .ref p, .ref ql, .ref qw, ii 0, ii (vm w : Int), ii (t : Int)]) = H) : pgN xt d 71 [.ref 16, .ref p, .ref ql, .ref qw] h (fun h' => h' = H) := by
  have hz8 := hw
  obtain ⟨hw2, ⟨hq2, hqA2⟩, hsz2, hlv2, row2, fr2, vals2, hwq, -, -, -, -⟩ := id hw
  have hqw : qw = 25 ∨ qw = 101 ∨ 127 ≤ qw := (hA qw hqA2).2
  have hwm := vw1_m hw2
  have hz7 := hv
  obtain ⟨hw1, ⟨hq1, hqA1⟩, hsz1, hlv1, row1, fr1, vals1, hvq, -, -, -, -⟩ := id hv
  have hql : ql = 25 ∨ ql = 101 ∨ 127 ≤ ql := (hA ql hqA1).2
  have hvm9 := vw1_m hw1
  refine x_enter pm_X1_startAdverb (L0 := [(0, .ref 16), (1, .ref p), (2, .ref ql), (3, .ref qw)]) rfl (Nat.le_of_ble_eq_true rfl) (by omega) ?_
  refine me1 (pc' := 1) (L' := [(0, .ref 16), (1, .ref p), (2, .ref ql), (3, .ref qw)]) (S' := [.ref 16]) dm_X1_startAdverb_0 rfl rfl rfl rfl ?_
  refine me0 (pc' := 2) (S' := [.null, .ref 16]) dm_X1_startAdverb_1 rfl rfl rfl rfl ?_
  refine me3 (pc' := 5) (S' := []) (h1 := (h).set 16 (cO 1 [.ref 4, .ref 17, .ref 26, .ref 32, ii (t : Int), .ref 33, ii (dq : Int), ii ca, ii ou, ii wk, ii 0, ii pl, nw, vx, vy, .null, ii ((k + 1 : Nat) : Int), lf, rt])) dm_X1_startAdverb_2 (g_put (fs' := [.ref 4, .ref 17, .ref 26, .ref 32, ii (t : Int), .ref 33, ii (dq : Int), ii ca, ii ou, ii wk, ii 0, ii pl, nw, vx, vy, .null, ii ((k + 1 : Nat) : Int), lf, rt]) h16 rfl rfl rfl (by simp) rfl (by decide) (fun z => by cases z) (by decide)) rfl rfl rfl ?_
  refine me1 (pc' := 6) (L' := [(0, .ref 16), (1, .ref p), (2, .ref ql), (3, .ref qw)]) (S' := [.ref 16]) dm_X1_startAdverb_5 rfl rfl rfl rfl ?_
  refine me0 (pc' := 7) (S' := [ii 3, .ref 16]) dm_X1_startAdverb_6 rfl rfl rfl rfl ?_
  refine me1 (pc' := 8) (L' := [(0, .ref 16), (1, .ref p), (2, .ref ql), (3, .ref qw)]) (S' := [.ref p, ii 3, .ref 16]) dm_X1_startAdverb_7 rfl rfl rfl rfl ?_
  refine x_cv (pc' := 11) (rest := []) dm_X1_startAdverb_8 rfl (g_inv (As := [ii 3, .ref p]) (S := []) (hl_set (hl_lt h16)) rfl rfl rfl (by decide)) rfl rfl rfl (m_takeT (n := 3) (by omega) (hl_set (hl_lt h16)) (hl_ne (by omega) hp) hp2 hca (by decide) hwk hle (by rw [List.set_set])) ?_
  rintro _ _ ⟨rfl, rfl⟩
  refine me_1t (pc' := 15) dm_X1_startAdverb_11 rfl (by decide) ?_
  refine me1 (pc' := 16) (L' := [(0, .ref 16), (1, .ref p), (2, .ref ql), (3, .ref qw)]) (S' := [.ref p]) dm_X1_startAdverb_15 rfl rfl rfl rfl ?_
  refine me1 (pc' := 17) (L' := [(0, .ref 16), (1, .ref p), (2, .ref ql), (3, .ref qw)]) (S' := [.ref 16, .ref p]) dm_X1_startAdverb_16 rfl rfl rfl rfl ?_
  refine me3 (pc' := 20) (S' := [ii ((k + 1 : Nat) : Int), .ref p]) dm_X1_startAdverb_17 (g_get (v := ii ((k + 1 : Nat) : Int)) (hl_set (hl_lt h16)) rfl rfl (by decide)) rfl rfl rfl ?_
  refine x_cp (pc' := 23) (v := ii (tqD (T (i + 1 + k)))) (rest := []) dm_X1_startAdverb_20 rfl (g_inv (As := [ii ((k + 1 : Nat) : Int)]) (S := []) (hl_ne (by omega) hp) rfl rfl rfl (by omega)) rfl rfl rfl (m_adverbAt (by omega) hK (hl_ne (by omega) hp) (by omega) hkA) ?_
  refine me0 (pc' := 25) (S' := [ii 39, ii (tqD (T (i + 1 + k)))]) dm_X1_startAdverb_23 rfl rfl rfl rfl ?_
  refine y_2ne (a := tqD (T (i + 1 + k))) (b := 39) (t := 32) (pc' := 28) dm_X1_startAdverb_25 rfl rfl (by omega) (fun hb1 => ?_) (fun hb1 => ?_)
  · refine me0 (pc' := 33) (S' := [ii 0]) dm_X1_startAdverb_32 rfl rfl rfl rfl ?_
    refine me1 (pc' := 35) (L' := [(4, ii 0), (0, .ref 16), (1, .ref p), (2, .ref ql), (3, .ref qw)]) (S' := []) dm_X1_startAdverb_33 rfl rfl rfl rfl ?_
    refine me1 (pc' := 37) (L' := [(4, ii 0), (0, .ref 16), (1, .ref p), (2, .ref ql), (3, .ref qw)]) (S' := [ii 0]) dm_X1_startAdverb_35 rfl rfl rfl rfl ?_
    refine me_1t (pc' := 73) dm_X1_startAdverb_37 rfl (by decide) ?_
    refine me0 (pc' := 74) (S' := [ii 0]) dm_X1_startAdverb_73 rfl rfl rfl rfl ?_
    refine me1 (pc' := 76) (L' := [(5, ii 0), (4, ii 0), (0, .ref 16), (1, .ref p), (2, .ref ql), (3, .ref qw)]) (S' := []) dm_X1_startAdverb_74 rfl rfl rfl rfl ?_
    refine me1 (pc' := 78) (L' := [(5, ii 0), (4, ii 0), (0, .ref 16), (1, .ref p), (2, .ref ql), (3, .ref qw)]) (S' := [ii 0]) dm_X1_startAdverb_76 rfl rfl rfl rfl ?_
    refine me_1f (pc' := 81) dm_X1_startAdverb_78 rfl (by decide) rfl ?_
    refine me1 (pc' := 83) (L' := [(5, ii 0), (4, ii 0), (0, .ref 16), (1, .ref p), (2, .ref ql), (3, .ref qw)]) (S' := [ii 0]) dm_X1_startAdverb_81 rfl rfl rfl rfl ?_
    refine me_1f (pc' := 86) dm_X1_startAdverb_83 rfl (by decide) rfl ?_
    refine me1 (pc' := 87) (L' := [(5, ii 0), (4, ii 0), (0, .ref 16), (1, .ref p), (2, .ref ql), (3, .ref qw)]) (S' := [.ref ql]) dm_X1_startAdverb_86 rfl rfl rfl rfl ?_
    refine me2 (pc' := 104) (S' := []) dm_X1_startAdverb_87 rfl rfl rfl ?_
    refine me1 (pc' := 105) (L' := [(5, ii 0), (4, ii 0), (0, .ref 16), (1, .ref p), (2, .ref ql), (3, .ref qw)]) (S' := [.ref 16]) dm_X1_startAdverb_104 rfl rfl rfl rfl ?_
    refine me3 (pc' := 108) (S' := [ii (dq : Int)]) dm_X1_startAdverb_105 (g_get (v := ii (dq : Int)) (hl_set (hl_lt h16)) rfl rfl (by decide)) rfl rfl rfl ?_
    refine me1 (pc' := 109) (L' := [(5, ii 0), (4, ii 0), (0, .ref 16), (1, .ref p), (2, .ref ql), (3, .ref qw)]) (S' := [.ref 16, ii (dq : Int)]) dm_X1_startAdverb_108 rfl rfl rfl rfl ?_
    refine me3 (pc' := 112) (S' := [.ref 33, ii (dq : Int)]) dm_X1_startAdverb_109 (g_get (v := .ref 33) (hl_set (hl_lt h16)) rfl rfl (by decide)) rfl rfl rfl ?_
    refine me3 (pc' := 113) (S' := [ii 64, ii (dq : Int)]) dm_X1_startAdverb_112 (yh_len (n := 64) rfl (hl_ne (by decide) h33) (by decide)) rfl rfl rfl ?_
    refine y_2lt (a := (dq : Int)) (b := 64) (t := 124) (pc' := 116) dm_X1_startAdverb_113 rfl rfl (by omega) (fun hb2 => ?_) (fun hb2 => ?_)
    · refine me1 (pc' := 125) (L' := [(5, ii 0), (4, ii 0), (0, .ref 16), (1, .ref p), (2, .ref ql), (3, .ref qw)]) (S' := [.ref 16]) dm_X1_startAdverb_124 rfl rfl rfl rfl ?_
      refine me3 (pc' := 128) (S' := [.ref 33]) dm_X1_startAdverb_125 (g_get (v := .ref 33) (hl_set (hl_lt h16)) rfl rfl (by decide)) rfl rfl rfl ?_
      refine me1 (pc' := 129) (L' := [(5, ii 0), (4, ii 0), (0, .ref 16), (1, .ref p), (2, .ref ql), (3, .ref qw)]) (S' := [.ref 16, .ref 33]) dm_X1_startAdverb_128 rfl rfl rfl rfl ?_
      refine me3 (pc' := 132) (S' := [ii (dq : Int), .ref 33]) dm_X1_startAdverb_129 (g_get (v := ii (dq : Int)) (hl_set (hl_lt h16)) rfl rfl (by decide)) rfl rfl rfl ?_
      refine me3 (pc' := 133) (S' := [.ref fr]) dm_X1_startAdverb_132 (yh_aald (w := some fr) rfl (hl_ne (by decide) h33) (by omega) (by omega) (by omega) (by decide) hff) rfl rfl rfl ?_
      refine me1 (pc' := 135) (L' := [(6, .ref fr), (5, ii 0), (4, ii 0), (0, .ref 16), (1, .ref p), (2, .ref ql), (3, .ref qw)]) (S' := []) dm_X1_startAdverb_133 rfl rfl rfl rfl ?_
      refine me1 (pc' := 136) (L' := [(6, .ref fr), (5, ii 0), (4, ii 0), (0, .ref 16), (1, .ref p), (2, .ref ql), (3, .ref qw)]) (S' := [.ref 16]) dm_X1_startAdverb_135 rfl rfl rfl rfl ?_
      refine me0 (pc' := 137) (S' := [.ref 16, .ref 16]) dm_X1_startAdverb_136 rfl rfl rfl rfl ?_
      refine me3 (pc' := 140) (S' := [ii (dq : Int), .ref 16]) dm_X1_startAdverb_137 (g_get (v := ii (dq : Int)) (hl_set (hl_lt h16)) rfl rfl (by decide)) rfl rfl rfl ?_
      refine me0 (pc' := 141) (S' := [ii 1, ii (dq : Int), .ref 16]) dm_X1_startAdverb_140 rfl rfl rfl rfl ?_
      refine y_iadd (a := (dq : Int)) (b := 1) dm_X1_startAdverb_141 (pc' := 142) rfl ?_
      refine me3 (pc' := 145) (S' := []) (h1 := (h).set 16 (cO 1 [.ref 4, .ref 17, .ref 26, .ref 32, ii (t : Int), .ref 33, ii ((dq : Int) + 1), ii ca, ii ou, ii (wk - 3), ii 0, ii pl, nw, vx, vy, .null, ii ((k + 1 : Nat) : Int), lf, rt])) dm_X1_startAdverb_142 (g_put (fs' := [.ref 4, .ref 17, .ref 26, .ref 32, ii (t : Int), .ref 33, ii ((dq : Int) + 1), ii ca, ii ou, ii (wk - 3), ii 0, ii pl, nw, vx, vy, .null, ii ((k + 1 : Nat) : Int), lf, rt]) (hl_set (hl_lt h16)) rfl (by rw [List.set_set]) rfl (by simp) rfl (by decide) (fun z => by cases z) (by decide)) rfl rfl rfl ?_
      refine me1 (pc' := 147) (L' := [(6, .ref fr), (5, ii 0), (4, ii 0), (0, .ref 16), (1, .ref p), (2, .ref ql), (3, .ref qw)]) (S' := [.ref fr]) dm_X1_startAdverb_145 rfl rfl rfl rfl ?_
      refine me1 (pc' := 148) (L' := [(6, .ref fr), (5, ii 0), (4, ii 0), (0, .ref 16), (1, .ref p), (2, .ref ql), (3, .ref qw)]) (S' := [.ref 16, .ref fr]) dm_X1_startAdverb_147 rfl rfl rfl rfl ?_
      refine me3 (pc' := 151) (S' := [ii ((k + 1 : Nat) : Int), .ref fr]) dm_X1_startAdverb_148 (g_get (v := ii ((k + 1 : Nat) : Int)) (hl_set (hl_lt h16)) rfl rfl (by decide)) rfl rfl rfl ?_
      refine me3 (pc' := 154) (S' := []) (h1 := ((h).set 16 (cO 1 [.ref 4, .ref 17, .ref 26, .ref 32, ii (t : Int), .ref 33, ii ((dq : Int) + 1), ii ca, ii ou, ii (wk - 3), ii 0, ii pl, nw, vx, vy, .null, ii ((k + 1 : Nat) : Int), lf, rt])).set fr (cO 0 [ii ((k + 1 : Nat) : Int), fo, fx, fy, ii fn, ii fm, ii fb])) dm_X1_startAdverb_151 (g_put (fs' := [ii ((k + 1 : Nat) : Int), fo, fx, fy, ii fn, ii fm, ii fb]) (hl_ne (by omega) hfr) rfl rfl rfl (by simp) rfl (by decide) (fun z => by cases z) (by omega)) rfl rfl rfl ?_
      refine me1 (pc' := 156) (L' := [(6, .ref fr), (5, ii 0), (4, ii 0), (0, .ref 16), (1, .ref p), (2, .ref ql), (3, .ref qw)]) (S' := [.ref fr]) dm_X1_startAdverb_154 rfl rfl rfl rfl ?_
      refine me1 (pc' := 157) (L' := [(6, .ref fr), (5, ii 0), (4, ii 0), (0, .ref 16), (1, .ref p), (2, .ref ql), (3, .ref qw)]) (S' := [.ref p, .ref fr]) dm_X1_startAdverb_156 rfl rfl rfl rfl ?_
      refine me3 (pc' := 160) (S' := []) (h1 := ((h).set 16 (cO 1 [.ref 4, .ref 17, .ref 26, .ref 32, ii (t : Int), .ref 33, ii ((dq : Int) + 1), ii ca, ii ou, ii (wk - 3), ii 0, ii pl, nw, vx, vy, .null, ii ((k + 1 : Nat) : Int), lf, rt])).set fr (cO 0 [ii ((k + 1 : Nat) : Int), .ref p, fx, fy, ii fn, ii fm, ii fb])) dm_X1_startAdverb_157 (g_put (fs' := [ii ((k + 1 : Nat) : Int), .ref p, fx, fy, ii fn, ii fm, ii fb]) (hl_set (hl_lt (hl_ne (by omega) hfr))) rfl (by rw [List.set_set]) rfl (by simp) rfl (by decide) (fun z => by cases z) (by omega)) rfl rfl rfl ?_
      refine me1 (pc' := 162) (L' := [(6, .ref fr), (5, ii 0), (4, ii 0), (0, .ref 16), (1, .ref p), (2, .ref ql), (3, .ref qw)]) (S' := [.ref fr]) dm_X1_startAdverb_160 rfl rfl rfl rfl ?_
      refine me1 (pc' := 163) (L' := [(6, .ref fr), (5, ii 0), (4, ii 0), (0, .ref 16), (1, .ref p), (2, .ref ql), (3, .ref qw)]) (S' := [.ref ql, .ref fr]) dm_X1_startAdverb_162 rfl rfl rfl rfl ?_
      refine me3 (pc' := 166) (S' := []) (h1 := ((h).set 16 (cO 1 [.ref 4, .ref 17, .ref 26, .ref 32, ii (t : Int), .ref 33, ii ((dq : Int) + 1), ii ca, ii ou, ii (wk - 3), ii 0, ii pl, nw, vx, vy, .null, ii ((k + 1 : Nat) : Int), lf, rt])).set fr (cO 0 [ii ((k + 1 : Nat) : Int), .ref p, .ref ql, fy, ii fn, ii fm, ii fb])) dm_X1_startAdverb_163 (g_put (fs' := [ii ((k + 1 : Nat) : Int), .ref p, .ref ql, fy, ii fn, ii fm, ii fb]) (hl_set (hl_lt (hl_ne (by omega) hfr))) rfl (by rw [List.set_set]) rfl (by simp) rfl (by decide) (fun z => by cases z) (by omega)) rfl rfl rfl ?_
      refine me1 (pc' := 168) (L' := [(6, .ref fr), (5, ii 0), (4, ii 0), (0, .ref 16), (1, .ref p), (2, .ref ql), (3, .ref qw)]) (S' := [.ref fr]) dm_X1_startAdverb_166 rfl rfl rfl rfl ?_
      refine me1 (pc' := 169) (L' := [(6, .ref fr), (5, ii 0), (4, ii 0), (0, .ref 16), (1, .ref p), (2, .ref ql), (3, .ref qw)]) (S' := [.ref qw, .ref fr]) dm_X1_startAdverb_168 rfl rfl rfl rfl ?_
      refine me3 (pc' := 172) (S' := []) (h1 := ((h).set 16 (cO 1 [.ref 4, .ref 17, .ref 26, .ref 32, ii (t : Int), .ref 33, ii ((dq : Int) + 1), ii ca, ii ou, ii (wk - 3), ii 0, ii pl, nw, vx, vy, .null, ii ((k + 1 : Nat) : Int), lf, rt])).set fr (cO 0 [ii ((k + 1 : Nat) : Int), .ref p, .ref ql, .ref qw, ii fn, ii fm, ii fb])) dm_X1_startAdverb_169 (g_put (fs' := [ii ((k + 1 : Nat) : Int), .ref p, .ref ql, .ref qw, ii fn, ii fm, ii fb]) (hl_set (hl_lt (hl_ne (by omega) hfr))) rfl (by rw [List.set_set]) rfl (by simp) rfl (by decide) (fun z => by cases z) (by omega)) rfl rfl rfl ?_
      refine me1 (pc' := 174) (L' := [(6, .ref fr), (5, ii 0), (4, ii 0), (0, .ref 16), (1, .ref p), (2, .ref ql), (3, .ref qw)]) (S' := [.ref fr]) dm_X1_startAdverb_172 rfl rfl rfl rfl ?_
      refine me1 (pc' := 175) (L' := [(6, .ref fr), (5, ii 0), (4, ii 0), (0, .ref 16), (1, .ref p), (2, .ref ql), (3, .ref qw)]) (S' := [.ref 16, .ref fr]) dm_X1_startAdverb_174 rfl rfl rfl rfl ?_
      refine me3 (pc' := 178) (S' := [ii (t : Int), .ref fr]) dm_X1_startAdverb_175 (g_get (v := ii (t : Int)) (hl_ne (by omega) (hl_set (hl_lt h16))) rfl rfl (by decide)) rfl rfl rfl ?_
      refine me3 (pc' := 181) (S' := []) (h1 := ((h).set 16 (cO 1 [.ref 4, .ref 17, .ref 26, .ref 32, ii (t : Int), .ref 33, ii ((dq : Int) + 1), ii ca, ii ou, ii (wk - 3), ii 0, ii pl, nw, vx, vy, .null, ii ((k + 1 : Nat) : Int), lf, rt])).set fr (cO 0 [ii ((k + 1 : Nat) : Int), .ref p, .ref ql, .ref qw, ii fn, ii fm, ii (t : Int)])) dm_X1_startAdverb_178 (g_put (fs' := [ii ((k + 1 : Nat) : Int), .ref p, .ref ql, .ref qw, ii fn, ii fm, ii (t : Int)]) (hl_set (hl_lt (hl_ne (by omega) hfr))) rfl (by rw [List.set_set]) rfl (by simp) rfl (by decide) (fun z => by cases z) (by omega)) rfl rfl rfl ?_
      refine me1 (pc' := 183) (L' := [(6, .ref fr), (5, ii 0), (4, ii 0), (0, .ref 16), (1, .ref p), (2, .ref ql), (3, .ref qw)]) (S' := [.ref fr]) dm_X1_startAdverb_181 rfl rfl rfl rfl ?_
      refine me0 (pc' := 184) (S' := [ii 0, .ref fr]) dm_X1_startAdverb_183 rfl rfl rfl rfl ?_
      refine me3 (pc' := 187) (S' := []) (h1 := ((h).set 16 (cO 1 [.ref 4, .ref 17, .ref 26, .ref 32, ii (t : Int), .ref 33, ii ((dq : Int) + 1), ii ca, ii ou, ii (wk - 3), ii 0, ii pl, nw, vx, vy, .null, ii ((k + 1 : Nat) : Int), lf, rt])).set fr (cO 0 [ii ((k + 1 : Nat) : Int), .ref p, .ref ql, .ref qw, ii 0, ii fm, ii (t : Int)])) dm_X1_startAdverb_184 (g_put (fs' := [ii ((k + 1 : Nat) : Int), .ref p, .ref ql, .ref qw, ii 0, ii fm, ii (t : Int)]) (hl_set (hl_lt (hl_ne (by omega) hfr))) rfl (by rw [List.set_set]) rfl (by simp) rfl (by decide) (fun z => by cases z) (by omega)) rfl rfl rfl ?_
      refine me1 (pc' := 189) (L' := [(6, .ref fr), (5, ii 0), (4, ii 0), (0, .ref 16), (1, .ref p), (2, .ref ql), (3, .ref qw)]) (S' := [.ref fr]) dm_X1_startAdverb_187 rfl rfl rfl rfl ?_
      refine me1 (pc' := 191) (L' := [(6, .ref fr), (5, ii 0), (4, ii 0), (0, .ref 16), (1, .ref p), (2, .ref ql), (3, .ref qw)]) (S' := [ii 0, .ref fr]) dm_X1_startAdverb_189 rfl rfl rfl rfl ?_
      refine me_1t (pc' := 212) dm_X1_startAdverb_191 rfl (by decide) ?_
      refine me1 (pc' := 213) (L' := [(6, .ref fr), (5, ii 0), (4, ii 0), (0, .ref 16), (1, .ref p), (2, .ref ql), (3, .ref qw)]) (S' := [.ref qw, .ref fr]) dm_X1_startAdverb_212 rfl rfl rfl rfl ?_
      refine me3 (pc' := 216) (S' := [ii (vm w : Int), .ref fr]) dm_X1_startAdverb_213 (g_get (v := ii (vm w : Int)) (hl_ne (by omega) (hl_ne (by omega) hwq)) rfl rfl (by omega)) rfl rfl rfl ?_
      refine me3 (pc' := 219) (S' := []) (h1 := ((h).set 16 (cO 1 [.ref 4, .ref 17, .ref 26, .ref 32, ii (t : Int), .ref 33, ii ((dq : Int) + 1), ii ca, ii ou, ii (wk - 3), ii 0, ii pl, nw, vx, vy, .null, ii ((k + 1 : Nat) : Int), lf, rt])).set fr (cO 0 [ii ((k + 1 : Nat) : Int), .ref p, .ref ql, .ref qw, ii 0, ii (vm w : Int), ii (t : Int)])) dm_X1_startAdverb_216 (g_put (fs' := [ii ((k + 1 : Nat) : Int), .ref p, .ref ql, .ref qw, ii 0, ii (vm w : Int), ii (t : Int)]) (hl_set (hl_lt (hl_ne (by omega) hfr))) rfl (by rw [List.set_set]) rfl (by simp) rfl (by decide) (fun z => by cases z) (by omega)) rfl rfl rfl ?_
      refine me1 (pc' := 221) (L' := [(6, .ref fr), (5, ii 0), (4, ii 0), (0, .ref 16), (1, .ref p), (2, .ref ql), (3, .ref qw)]) (S' := [ii 0]) dm_X1_startAdverb_219 rfl rfl rfl rfl ?_
      refine me_1f (pc' := 224) dm_X1_startAdverb_221 rfl (by decide) rfl ?_
      refine me1 (pc' := 226) (L' := [(6, .ref fr), (5, ii 0), (4, ii 0), (0, .ref 16), (1, .ref p), (2, .ref ql), (3, .ref qw)]) (S' := [.ref fr]) dm_X1_startAdverb_224 rfl rfl rfl rfl ?_
      refine me1 (pc' := 227) (L' := [(6, .ref fr), (5, ii 0), (4, ii 0), (0, .ref 16), (1, .ref p), (2, .ref ql), (3, .ref qw)]) (S' := [.ref ql, .ref fr]) dm_X1_startAdverb_226 rfl rfl rfl rfl ?_
      refine me2 (pc' := 234) (S' := [.ref fr]) dm_X1_startAdverb_227 rfl rfl rfl ?_
      refine me0 (pc' := 235) (S' := [ii 0, .ref fr]) dm_X1_startAdverb_234 rfl rfl rfl rfl ?_
      refine me3 (pc' := 238) (S' := []) (h1 := ((h).set 16 (cO 1 [.ref 4, .ref 17, .ref 26, .ref 32, ii (t : Int), .ref 33, ii ((dq : Int) + 1), ii ca, ii ou, ii (wk - 3), ii 0, ii pl, nw, vx, vy, .null, ii ((k + 1 : Nat) : Int), lf, rt])).set fr (cO 0 [ii ((k + 1 : Nat) : Int), .ref p, .ref ql, .ref qw, ii 0, ii (vm w : Int), ii (t : Int)])) dm_X1_startAdverb_235 (g_put (fs' := [ii ((k + 1 : Nat) : Int), .ref p, .ref ql, .ref qw, ii 0, ii (vm w : Int), ii (t : Int)]) (hl_set (hl_lt (hl_ne (by omega) hfr))) rfl (by rw [List.set_set]) rfl (by simp) rfl (by decide) (fun z => by cases z) (by omega)) rfl rfl rfl ?_
      refine me1 (pc' := 239) (L' := [(6, .ref fr), (5, ii 0), (4, ii 0), (0, .ref 16), (1, .ref p), (2, .ref ql), (3, .ref qw)]) (S' := [.ref 16]) dm_X1_startAdverb_238 rfl rfl rfl rfl ?_
      refine me1 (pc' := 240) (L' := [(6, .ref fr), (5, ii 0), (4, ii 0), (0, .ref 16), (1, .ref p), (2, .ref ql), (3, .ref qw)]) (S' := [.ref ql, .ref 16]) dm_X1_startAdverb_239 rfl rfl rfl rfl ?_
      refine me2 (pc' := 251) (S' := [.ref 16]) dm_X1_startAdverb_240 rfl rfl rfl ?_
      refine me1 (pc' := 252) (L' := [(6, .ref fr), (5, ii 0), (4, ii 0), (0, .ref 16), (1, .ref p), (2, .ref ql), (3, .ref qw)]) (S' := [.ref ql, .ref 16]) dm_X1_startAdverb_251 rfl rfl rfl rfl ?_
      refine x_cn (pc' := 255) (rest := []) dm_X1_startAdverb_252 rfl (g_inv (As := [.ref ql]) (S := []) (hl_ne (by omega) (hl_set (hl_lt h16))) rfl rfl rfl (by decide)) rfl rfl rfl (m_push (t := t) (by omega) (hl_ne (by omega) (hl_ne (by omega) hvq)) (by omega) (hl_ne (by omega) (hl_set (hl_lt h16))) (hl_ne (by omega) (hl_ne (by decide) h32)) ht rfl) ?_
      rintro _ rfl
      refine y_ret (r := none) dm_X1_startAdverb_255 rfl rfl rfl ?_
      refine ⟨rfl, ?_⟩
      rw [← hH]
      simp only [List.set_comm _ _ (show fr ≠ 32 by omega), List.set_comm _ _ (show (16 : Nat) ≠ 32 by decide), List.set_comm _ _ (show fr ≠ 16 by omega), List.set_set]
    · exfalso; omega
  · exfalso; omega
