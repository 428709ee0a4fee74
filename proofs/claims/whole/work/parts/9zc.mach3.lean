theorem m_isFz {xt : mj_X} {d n q : Nat} {h : mj_H} (hd : 1 ≤ d) (hq : h[q]? = some (cVal 8 (Int64.ofInt (n : Int)) 1 0 0 0)) (hq2 : 2 ≤ q) : pgP xt d 159 [.ref q] h (ii 1) := by
  refine x_enter pm_X10_isFault (L0 := [(0, .ref q)]) rfl (Nat.le_of_ble_eq_true rfl) (by omega) ?_
  refine me1 (pc' := 1) (L' := [(0, .ref q)]) (S' := [.ref q]) dm_X10_isFault_0 rfl rfl rfl rfl ?_
  refine me3 (pc' := 4) (S' := [ii 8]) dm_X10_isFault_1 (g_get (v := ii 8) hq rfl rfl (by omega)) rfl rfl rfl ?_
  refine me0 (pc' := 6) (S' := [ii 8, ii 8]) dm_X10_isFault_4 rfl rfl rfl rfl ?_
  refine me_2f (pc' := 9) dm_X10_isFault_6 rfl (by decide) rfl ?_
  refine me0 (pc' := 10) (S' := [ii 1]) dm_X10_isFault_9 rfl rfl rfl rfl ?_
  refine me2 (pc' := 14) (S' := [ii 1]) dm_X10_isFault_10 rfl rfl rfl ?_
  refine y_ret (r := some (ii 1)) dm_X10_isFault_14 rfl rfl rfl ?_
  exact ⟨rfl, rfl⟩
set_option maxRecDepth 20000 in
theorem pm_X1_finish : mj_mmof pg_ms 158 = some ((⟨"ArrayCalculator$Machine", "finish", "(LArrayCalculator$Value;LArrayCalculator$Op;)V"⟩, prog_3_method_17_code, 3, (Option.none : Option Jvm.ClassFile.FieldType)), 1, false, mj_dec prog_3_method_17_code) := rfl
theorem dm_X1_finish_0 : mj_dec prog_3_method_17_code 0 = some (.aload_n 1, 1) := by decide +kernel
theorem dm_X1_finish_1 : mj_dec prog_3_method_17_code 1 = some (.invokevirtual 211, 3) := by decide +kernel
theorem dm_X1_finish_4 : mj_dec prog_3_method_17_code 4 = some (.ifCond .eq 16, 3) := by decide +kernel
theorem dm_X1_finish_7 : mj_dec prog_3_method_17_code 7 = some (.aload_n 0, 1) := by decide +kernel
theorem dm_X1_finish_8 : mj_dec prog_3_method_17_code 8 = some (.aload_n 1, 1) := by decide +kernel
theorem dm_X1_finish_9 : mj_dec prog_3_method_17_code 9 = some (.getfield 183, 3) := by decide +kernel
theorem dm_X1_finish_12 : mj_dec prog_3_method_17_code 12 = some (.l2i, 1) := by decide +kernel
theorem dm_X1_finish_13 : mj_dec prog_3_method_17_code 13 = some (.aload_n 2, 1) := by decide +kernel
theorem dm_X1_finish_14 : mj_dec prog_3_method_17_code 14 = some (.invokevirtual 125, 3) := by decide +kernel
theorem dm_X1_finish_17 : mj_dec prog_3_method_17_code 17 = some (.goto 48, 3) := by decide +kernel
theorem dm_X1_finish_65 : mj_dec prog_3_method_17_code 65 = some (.return_, 1) := by decide +kernel
theorem m_finF {xt : mj_X} {d t : Nat} {h H : mj_H} {sf : Nat → Option Nat} {dp ca ou wk er pl lv : Int} {nw vx vy dg lf rt : Value} (hd : 3 ≤ d) (h16 : h[16]? = some (mcC (t : Int) dp ca ou wk er pl nw vx vy dg lv lf rt)) (h32 : h[32]? = some (cA 4 8192 sf)) (ht : t < 8192) {p : Nat} {od pp ov oa om ot : Int} {onm : Int64} {ovl onx oot : Value} (hp : h[p]? = some (opC od pp ov onm oa om ot ovl onx oot)) (hp2 : 127 ≤ p) (hca : -2147483648 ≤ ca ∧ ca ≤ 2147483647) {q n : Nat} (hq : h[q]? = some (cVal 8 (Int64.ofInt (n : Int)) 1 0 0 0)) (hq2 : 2 ≤ q) (hH : h.set 16 (mcC (t : Int) dp ca ou wk (n : Int) (if 0 < ca then ou else pp) nw vx vy dg lv lf rt) = H) : pgN xt d 158 [.ref 16, .ref q, .ref p] h (fun h' => h' = H) := by
  refine x_enter pm_X1_finish (L0 := [(0, .ref 16), (1, .ref q), (2, .ref p)]) rfl (Nat.le_of_ble_eq_true rfl) (by omega) ?_
  refine me1 (pc' := 1) (L' := [(0, .ref 16), (1, .ref q), (2, .ref p)]) (S' := [.ref q]) dm_X1_finish_0 rfl rfl rfl rfl ?_
  refine x_cp (pc' := 4) (v := ii 1) (rest := []) dm_X1_finish_1 rfl (g_inv (As := []) (S := []) hq rfl rfl rfl (by omega)) rfl rfl rfl (m_isFz (by omega) hq (by omega)) ?_
  refine me_1f (pc' := 7) dm_X1_finish_4 rfl (by decide) rfl ?_
  refine me1 (pc' := 8) (L' := [(0, .ref 16), (1, .ref q), (2, .ref p)]) (S' := [.ref 16]) dm_X1_finish_7 rfl rfl rfl rfl ?_
  refine me1 (pc' := 9) (L' := [(0, .ref 16), (1, .ref q), (2, .ref p)]) (S' := [.ref q, .ref 16]) dm_X1_finish_8 rfl rfl rfl rfl ?_
  refine me3 (pc' := 12) (S' := [.long (Int64.ofInt (n : Int)), .ref 16]) dm_X1_finish_9 (g_get (v := .long (Int64.ofInt (n : Int))) hq rfl rfl (by omega)) rfl rfl rfl ?_
  refine y_l2i (a := (n : Int)) dm_X1_finish_12 (pc' := 13) rfl (by rw [Int64.toInt32_ofInt]) ?_
  refine me1 (pc' := 14) (L' := [(0, .ref 16), (1, .ref q), (2, .ref p)]) (S' := [.ref p, ii (n : Int), .ref 16]) dm_X1_finish_13 rfl rfl rfl rfl ?_
  refine x_cn (pc' := 17) (rest := []) dm_X1_finish_14 rfl (g_inv (As := [ii (n : Int), .ref p]) (S := []) h16 rfl rfl rfl (by decide)) rfl rfl rfl (m_fail (c := (n : Int)) (by omega) h16 hp hp2 hca rfl) ?_
  rintro _ rfl
  refine me2 (pc' := 65) (S' := []) dm_X1_finish_17 rfl rfl rfl ?_
  refine y_ret (r := none) dm_X1_finish_65 rfl rfl rfl ?_
  exact ⟨rfl, hH⟩
theorem dm_X1_finish_20 : mj_dec prog_3_method_17_code 20 = some (.aload_n 1, 1) := by decide +kernel
theorem dm_X1_finish_21 : mj_dec prog_3_method_17_code 21 = some (.getfield 189, 3) := by decide +kernel
theorem dm_X1_finish_24 : mj_dec prog_3_method_17_code 24 = some (.sipush 1000, 3) := by decide +kernel
theorem dm_X1_finish_27 : mj_dec prog_3_method_17_code 27 = some (.if_icmp .gt 11, 3) := by decide +kernel
theorem dm_X1_finish_30 : mj_dec prog_3_method_17_code 30 = some (.aload_n 1, 1) := by decide +kernel
theorem dm_X1_finish_31 : mj_dec prog_3_method_17_code 31 = some (.getfield 215, 3) := by decide +kernel
theorem dm_X1_finish_34 : mj_dec prog_3_method_17_code 34 = some (.iconst 5, 1) := by decide +kernel
theorem dm_X1_finish_35 : mj_dec prog_3_method_17_code 35 = some (.if_icmp .le 13, 3) := by decide +kernel
theorem dm_X1_finish_38 : mj_dec prog_3_method_17_code 38 = some (.aload_n 0, 1) := by decide +kernel
theorem dm_X1_finish_39 : mj_dec prog_3_method_17_code 39 = some (.bipush 8, 2) := by decide +kernel
theorem dm_X1_finish_41 : mj_dec prog_3_method_17_code 41 = some (.aload_n 2, 1) := by decide +kernel
theorem dm_X1_finish_42 : mj_dec prog_3_method_17_code 42 = some (.invokevirtual 125, 3) := by decide +kernel
theorem dm_X1_finish_45 : mj_dec prog_3_method_17_code 45 = some (.goto 20, 3) := by decide +kernel
theorem m_finB {xt : mj_X} {d t : Nat} {h H : mj_H} {sf : Nat → Option Nat} {dp ca ou wk er pl lv : Int} {nw vx vy dg lf rt : Value} (hd : 3 ≤ d) (h16 : h[16]? = some (mcC (t : Int) dp ca ou wk er pl nw vx vy dg lv lf rt)) (h32 : h[32]? = some (cA 4 8192 sf)) (ht : t < 8192) {p : Nat} {od pp ov oa om ot : Int} {onm : Int64} {ovl onx oot : Value} (hp : h[p]? = some (opC od pp ov onm oa om ot ovl onx oot)) (hp2 : 127 ≤ p) (hca : -2147483648 ≤ ca ∧ ca ≤ 2147483647) {A : Nat → Prop} {e q : Nat} {v : VV} (hA : okA A h) (hv : cv A h (e + 1) q v) (hbig : 1000 < vsz (e + 1) v ∨ 5 < vlv (e + 1) v) (hH : h.set 16 (mcC (t : Int) dp ca ou wk 8 (if 0 < ca then ou else pp) nw vx vy dg lv lf rt) = H) : pgN xt d 158 [.ref 16, .ref q, .ref p] h (fun h' => h' = H) := by
  have hv0 := hv
  obtain ⟨hw, ⟨hq2, hpA⟩, hsz, hlv, row, fr, vals, hvq, hfr, h1, h3, h7⟩ := id hv
  have hm := vw1_m hw
  clear h1 h3 h7
  have hk7 := hw.1
  have hq127 : q = 25 ∨ q = 101 ∨ 127 ≤ q := (hA q hpA).2
  refine x_enter pm_X1_finish (L0 := [(0, .ref 16), (1, .ref q), (2, .ref p)]) rfl (Nat.le_of_ble_eq_true rfl) (by omega) ?_
  refine me1 (pc' := 1) (L' := [(0, .ref 16), (1, .ref q), (2, .ref p)]) (S' := [.ref q]) dm_X1_finish_0 rfl rfl rfl rfl ?_
  refine x_cp (pc' := 4) (v := zz (decide (vk v = 8))) (rest := []) dm_X1_finish_1 rfl (g_inv (As := []) (S := []) hvq rfl rfl rfl (by omega)) rfl rfl rfl (c_isFault (by omega) hv0) ?_
  refine y_zeq (c := decide (vk v = 8)) (t := 20) (pc' := 7) dm_X1_finish_4 rfl rfl (fun hb1 => ?_) (fun hb1 => ?_)
  · replace hb1 := dF hb1
    refine me1 (pc' := 21) (L' := [(0, .ref 16), (1, .ref q), (2, .ref p)]) (S' := [.ref q]) dm_X1_finish_20 rfl rfl rfl rfl ?_
    refine me3 (pc' := 24) (S' := [ii (vsz (e + 1) v : Int)]) dm_X1_finish_21 (g_get (v := ii (vsz (e + 1) v : Int)) hvq rfl rfl (by omega)) rfl rfl rfl ?_
    refine me0 (pc' := 27) (S' := [ii 1000, ii (vsz (e + 1) v : Int)]) dm_X1_finish_24 rfl rfl rfl rfl ?_
    refine y_2gt (a := (vsz (e + 1) v : Int)) (b := 1000) (t := 38) (pc' := 30) dm_X1_finish_27 rfl rfl (by omega) (fun hb2 => ?_) (fun hb2 => ?_)
    · refine me1 (pc' := 39) (L' := [(0, .ref 16), (1, .ref q), (2, .ref p)]) (S' := [.ref 16]) dm_X1_finish_38 rfl rfl rfl rfl ?_
      refine me0 (pc' := 41) (S' := [ii 8, .ref 16]) dm_X1_finish_39 rfl rfl rfl rfl ?_
      refine me1 (pc' := 42) (L' := [(0, .ref 16), (1, .ref q), (2, .ref p)]) (S' := [.ref p, ii 8, .ref 16]) dm_X1_finish_41 rfl rfl rfl rfl ?_
      refine x_cn (pc' := 45) (rest := []) dm_X1_finish_42 rfl (g_inv (As := [ii 8, .ref p]) (S := []) h16 rfl rfl rfl (by decide)) rfl rfl rfl (m_fail (c := 8) (by omega) h16 hp hp2 hca rfl) ?_
      rintro _ rfl
      refine me2 (pc' := 65) (S' := []) dm_X1_finish_45 rfl rfl rfl ?_
      refine y_ret (r := none) dm_X1_finish_65 rfl rfl rfl ?_
      exact ⟨rfl, hH⟩
    · refine me1 (pc' := 31) (L' := [(0, .ref 16), (1, .ref q), (2, .ref p)]) (S' := [.ref q]) dm_X1_finish_30 rfl rfl rfl rfl ?_
      refine me3 (pc' := 34) (S' := [ii (vlv (e + 1) v : Int)]) dm_X1_finish_31 (g_get (v := ii (vlv (e + 1) v : Int)) hvq rfl rfl (by omega)) rfl rfl rfl ?_
      refine me0 (pc' := 35) (S' := [ii 5, ii (vlv (e + 1) v : Int)]) dm_X1_finish_34 rfl rfl rfl rfl ?_
      refine y_2le (a := (vlv (e + 1) v : Int)) (b := 5) (t := 48) (pc' := 38) dm_X1_finish_35 rfl rfl (by omega) (fun hb3 => ?_) (fun hb3 => ?_)
      · exfalso; omega
      · refine me1 (pc' := 39) (L' := [(0, .ref 16), (1, .ref q), (2, .ref p)]) (S' := [.ref 16]) dm_X1_finish_38 rfl rfl rfl rfl ?_
        refine me0 (pc' := 41) (S' := [ii 8, .ref 16]) dm_X1_finish_39 rfl rfl rfl rfl ?_
        refine me1 (pc' := 42) (L' := [(0, .ref 16), (1, .ref q), (2, .ref p)]) (S' := [.ref p, ii 8, .ref 16]) dm_X1_finish_41 rfl rfl rfl rfl ?_
        refine x_cn (pc' := 45) (rest := []) dm_X1_finish_42 rfl (g_inv (As := [ii 8, .ref p]) (S := []) h16 rfl rfl rfl (by decide)) rfl rfl rfl (m_fail (c := 8) (by omega) h16 hp hp2 hca rfl) ?_
        rintro _ rfl
        refine me2 (pc' := 65) (S' := []) dm_X1_finish_45 rfl rfl rfl ?_
        refine y_ret (r := none) dm_X1_finish_65 rfl rfl rfl ?_
        exact ⟨rfl, hH⟩
  · replace hb1 := dT hb1; exfalso; omega
theorem dm_X1_finish_48 : mj_dec prog_3_method_17_code 48 = some (.aload_n 0, 1) := by decide +kernel
theorem dm_X1_finish_49 : mj_dec prog_3_method_17_code 49 = some (.aload_n 1, 1) := by decide +kernel
theorem dm_X1_finish_50 : mj_dec prog_3_method_17_code 50 = some (.getfield 189, 3) := by decide +kernel
theorem dm_X1_finish_53 : mj_dec prog_3_method_17_code 53 = some (.aload_n 2, 1) := by decide +kernel
theorem dm_X1_finish_54 : mj_dec prog_3_method_17_code 54 = some (.invokevirtual 192, 3) := by decide +kernel
theorem dm_X1_finish_57 : mj_dec prog_3_method_17_code 57 = some (.ifCond .eq 8, 3) := by decide +kernel
theorem m_finW {xt : mj_X} {d t : Nat} {h H : mj_H} {sf : Nat → Option Nat} {dp ca ou wk er pl lv : Int} {nw vx vy dg lf rt : Value} (hd : 3 ≤ d) (h16 : h[16]? = some (mcC (t : Int) dp ca ou wk er pl nw vx vy dg lv lf rt)) (h32 : h[32]? = some (cA 4 8192 sf)) (ht : t < 8192) {p : Nat} {od pp ov oa om ot : Int} {onm : Int64} {ovl onx oot : Value} (hp : h[p]? = some (opC od pp ov onm oa om ot ovl onx oot)) (hp2 : 127 ≤ p) (hca : -2147483648 ≤ ca ∧ ca ≤ 2147483647) {A : Nat → Prop} {e q : Nat} {v : VV} (hA : okA A h) (hv : cv A h (e + 1) q v) (hwk : 0 ≤ wk ∧ wk ≤ 1000000) (hsm : vsz (e + 1) v ≤ 1000 ∧ vlv (e + 1) v ≤ 5) (hle : wk < (vsz (e + 1) v : Int)) (hH : h.set 16 (mcC (t : Int) dp ca ou wk 10 (if 0 < ca then ou else pp) nw vx vy dg lv lf rt) = H) : pgN xt d 158 [.ref 16, .ref q, .ref p] h (fun h' => h' = H) := by
  have hv0 := hv
  obtain ⟨hw, ⟨hq2, hpA⟩, hsz, hlv, row, fr, vals, hvq, hfr, h1, h3, h7⟩ := id hv
  have hm := vw1_m hw
  clear h1 h3 h7
  have hk7 := hw.1
  have hq127 : q = 25 ∨ q = 101 ∨ 127 ≤ q := (hA q hpA).2
  refine x_enter pm_X1_finish (L0 := [(0, .ref 16), (1, .ref q), (2, .ref p)]) rfl (Nat.le_of_ble_eq_true rfl) (by omega) ?_
  refine me1 (pc' := 1) (L' := [(0, .ref 16), (1, .ref q), (2, .ref p)]) (S' := [.ref q]) dm_X1_finish_0 rfl rfl rfl rfl ?_
  refine x_cp (pc' := 4) (v := zz (decide (vk v = 8))) (rest := []) dm_X1_finish_1 rfl (g_inv (As := []) (S := []) hvq rfl rfl rfl (by omega)) rfl rfl rfl (c_isFault (by omega) hv0) ?_
  refine y_zeq (c := decide (vk v = 8)) (t := 20) (pc' := 7) dm_X1_finish_4 rfl rfl (fun hb1 => ?_) (fun hb1 => ?_)
  · replace hb1 := dF hb1
    refine me1 (pc' := 21) (L' := [(0, .ref 16), (1, .ref q), (2, .ref p)]) (S' := [.ref q]) dm_X1_finish_20 rfl rfl rfl rfl ?_
    refine me3 (pc' := 24) (S' := [ii (vsz (e + 1) v : Int)]) dm_X1_finish_21 (g_get (v := ii (vsz (e + 1) v : Int)) hvq rfl rfl (by omega)) rfl rfl rfl ?_
    refine me0 (pc' := 27) (S' := [ii 1000, ii (vsz (e + 1) v : Int)]) dm_X1_finish_24 rfl rfl rfl rfl ?_
    refine y_2gt (a := (vsz (e + 1) v : Int)) (b := 1000) (t := 38) (pc' := 30) dm_X1_finish_27 rfl rfl (by omega) (fun hb2 => ?_) (fun hb2 => ?_)
    · exfalso; omega
    · refine me1 (pc' := 31) (L' := [(0, .ref 16), (1, .ref q), (2, .ref p)]) (S' := [.ref q]) dm_X1_finish_30 rfl rfl rfl rfl ?_
      refine me3 (pc' := 34) (S' := [ii (vlv (e + 1) v : Int)]) dm_X1_finish_31 (g_get (v := ii (vlv (e + 1) v : Int)) hvq rfl rfl (by omega)) rfl rfl rfl ?_
      refine me0 (pc' := 35) (S' := [ii 5, ii (vlv (e + 1) v : Int)]) dm_X1_finish_34 rfl rfl rfl rfl ?_
      refine y_2le (a := (vlv (e + 1) v : Int)) (b := 5) (t := 48) (pc' := 38) dm_X1_finish_35 rfl rfl (by omega) (fun hb3 => ?_) (fun hb3 => ?_)
      · refine me1 (pc' := 49) (L' := [(0, .ref 16), (1, .ref q), (2, .ref p)]) (S' := [.ref 16]) dm_X1_finish_48 rfl rfl rfl rfl ?_
        refine me1 (pc' := 50) (L' := [(0, .ref 16), (1, .ref q), (2, .ref p)]) (S' := [.ref q, .ref 16]) dm_X1_finish_49 rfl rfl rfl rfl ?_
        refine me3 (pc' := 53) (S' := [ii (vsz (e + 1) v : Int), .ref 16]) dm_X1_finish_50 (g_get (v := ii (vsz (e + 1) v : Int)) hvq rfl rfl (by omega)) rfl rfl rfl ?_
        refine me1 (pc' := 54) (L' := [(0, .ref 16), (1, .ref q), (2, .ref p)]) (S' := [.ref p, ii (vsz (e + 1) v : Int), .ref 16]) dm_X1_finish_53 rfl rfl rfl rfl ?_
        refine x_cv (pc' := 57) (rest := []) dm_X1_finish_54 rfl (g_inv (As := [ii (vsz (e + 1) v : Int), .ref p]) (S := []) h16 rfl rfl rfl (by decide)) rfl rfl rfl (m_takeF (n := (vsz (e + 1) v : Int)) (by omega) h16 hp hp2 hca (by omega) hwk hle rfl) ?_
        rintro _ _ ⟨rfl, rfl⟩
        refine me_1t (pc' := 65) dm_X1_finish_57 rfl (by decide) ?_
        refine y_ret (r := none) dm_X1_finish_65 rfl rfl rfl ?_
        exact ⟨rfl, hH⟩
      · exfalso; omega
  · replace hb1 := dT hb1; exfalso; omega
theorem dm_X1_finish_60 : mj_dec prog_3_method_17_code 60 = some (.aload_n 0, 1) := by decide +kernel
theorem dm_X1_finish_61 : mj_dec prog_3_method_17_code 61 = some (.aload_n 1, 1) := by decide +kernel
theorem dm_X1_finish_62 : mj_dec prog_3_method_17_code 62 = some (.invokevirtual 138, 3) := by decide +kernel
theorem m_finK {xt : mj_X} {d t : Nat} {h H : mj_H} {sf : Nat → Option Nat} {dp ca ou wk er pl lv : Int} {nw vx vy dg lf rt : Value} (hd : 3 ≤ d) (h16 : h[16]? = some (mcC (t : Int) dp ca ou wk er pl nw vx vy dg lv lf rt)) (h32 : h[32]? = some (cA 4 8192 sf)) (ht : t < 8192) {p : Nat} {od pp ov oa om ot : Int} {onm : Int64} {ovl onx oot : Value} (hp : h[p]? = some (opC od pp ov onm oa om ot ovl onx oot)) (hp2 : 127 ≤ p) (hca : -2147483648 ≤ ca ∧ ca ≤ 2147483647) {A : Nat → Prop} {e q : Nat} {v : VV} (hA : okA A h) (hv : cv A h (e + 1) q v) (hwk : 0 ≤ wk ∧ wk ≤ 1000000) (hsm : vsz (e + 1) v ≤ 1000 ∧ vlv (e + 1) v ≤ 5) (hle : (vsz (e + 1) v : Int) ≤ wk) (hH : (h.set 32 (cA 4 8192 (va_up sf t (some q)))).set 16 (mcC ((t + 1 : Nat) : Int) dp ca ou (wk - (vsz (e + 1) v : Int)) er pl nw vx vy dg lv lf rt) = H) : pgN xt d 158 [.ref 16, .ref q, .ref p] h (fun h' => h' = H) := by
  have hv0 := hv
  obtain ⟨hw, ⟨hq2, hpA⟩, hsz, hlv, row, fr, vals, hvq, hfr, h1, h3, h7⟩ := id hv
  have hm := vw1_m hw
  clear h1 h3 h7
  have hk7 := hw.1
  have hq127 : q = 25 ∨ q = 101 ∨ 127 ≤ q := (hA q hpA).2
  refine x_enter pm_X1_finish (L0 := [(0, .ref 16), (1, .ref q), (2, .ref p)]) rfl (Nat.le_of_ble_eq_true rfl) (by omega) ?_
  refine me1 (pc' := 1) (L' := [(0, .ref 16), (1, .ref q), (2, .ref p)]) (S' := [.ref q]) dm_X1_finish_0 rfl rfl rfl rfl ?_
  refine x_cp (pc' := 4) (v := zz (decide (vk v = 8))) (rest := []) dm_X1_finish_1 rfl (g_inv (As := []) (S := []) hvq rfl rfl rfl (by omega)) rfl rfl rfl (c_isFault (by omega) hv0) ?_
  refine y_zeq (c := decide (vk v = 8)) (t := 20) (pc' := 7) dm_X1_finish_4 rfl rfl (fun hb1 => ?_) (fun hb1 => ?_)
  · replace hb1 := dF hb1
    refine me1 (pc' := 21) (L' := [(0, .ref 16), (1, .ref q), (2, .ref p)]) (S' := [.ref q]) dm_X1_finish_20 rfl rfl rfl rfl ?_
    refine me3 (pc' := 24) (S' := [ii (vsz (e + 1) v : Int)]) dm_X1_finish_21 (g_get (v := ii (vsz (e + 1) v : Int)) hvq rfl rfl (by omega)) rfl rfl rfl ?_
    refine me0 (pc' := 27) (S' := [ii 1000, ii (vsz (e + 1) v : Int)]) dm_X1_finish_24 rfl rfl rfl rfl ?_
    refine y_2gt (a := (vsz (e + 1) v : Int)) (b := 1000) (t := 38) (pc' := 30) dm_X1_finish_27 rfl rfl (by omega) (fun hb2 => ?_) (fun hb2 => ?_)
    · exfalso; omega
    · refine me1 (pc' := 31) (L' := [(0, .ref 16), (1, .ref q), (2, .ref p)]) (S' := [.ref q]) dm_X1_finish_30 rfl rfl rfl rfl ?_
      refine me3 (pc' := 34) (S' := [ii (vlv (e + 1) v : Int)]) dm_X1_finish_31 (g_get (v := ii (vlv (e + 1) v : Int)) hvq rfl rfl (by omega)) rfl rfl rfl ?_
      refine me0 (pc' := 35) (S' := [ii 5, ii (vlv (e + 1) v : Int)]) dm_X1_finish_34 rfl rfl rfl rfl ?_
      refine y_2le (a := (vlv (e + 1) v : Int)) (b := 5) (t := 48) (pc' := 38) dm_X1_finish_35 rfl rfl (by omega) (fun hb3 => ?_) (fun hb3 => ?_)
      · refine me1 (pc' := 49) (L' := [(0, .ref 16), (1, .ref q), (2, .ref p)]) (S' := [.ref 16]) dm_X1_finish_48 rfl rfl rfl rfl ?_
        refine me1 (pc' := 50) (L' := [(0, .ref 16), (1, .ref q), (2, .ref p)]) (S' := [.ref q, .ref 16]) dm_X1_finish_49 rfl rfl rfl rfl ?_
        refine me3 (pc' := 53) (S' := [ii (vsz (e + 1) v : Int), .ref 16]) dm_X1_finish_50 (g_get (v := ii (vsz (e + 1) v : Int)) hvq rfl rfl (by omega)) rfl rfl rfl ?_
        refine me1 (pc' := 54) (L' := [(0, .ref 16), (1, .ref q), (2, .ref p)]) (S' := [.ref p, ii (vsz (e + 1) v : Int), .ref 16]) dm_X1_finish_53 rfl rfl rfl rfl ?_
        refine x_cv (pc' := 57) (rest := []) dm_X1_finish_54 rfl (g_inv (As := [ii (vsz (e + 1) v : Int), .ref p]) (S := []) h16 rfl rfl rfl (by decide)) rfl rfl rfl (m_takeT (n := (vsz (e + 1) v : Int)) (by omega) h16 hp hp2 hca (by omega) hwk hle rfl) ?_
        rintro _ _ ⟨rfl, rfl⟩
        refine me_1f (pc' := 60) dm_X1_finish_57 rfl (by decide) rfl ?_
        refine me1 (pc' := 61) (L' := [(0, .ref 16), (1, .ref q), (2, .ref p)]) (S' := [.ref 16]) dm_X1_finish_60 rfl rfl rfl rfl ?_
        refine me1 (pc' := 62) (L' := [(0, .ref 16), (1, .ref q), (2, .ref p)]) (S' := [.ref q, .ref 16]) dm_X1_finish_61 rfl rfl rfl rfl ?_
        refine x_cn (pc' := 65) (rest := []) dm_X1_finish_62 rfl (g_inv (As := [.ref q]) (S := []) (hl_set (hl_lt h16)) rfl rfl rfl (by decide)) rfl rfl rfl (m_push (t := t) (by omega) (hl_ne (by omega) hvq) (by omega) (hl_set (hl_lt h16)) (hl_ne (by decide) h32) ht rfl) ?_
        rintro _ rfl
        refine y_ret (r := none) dm_X1_finish_65 rfl rfl rfl ?_
        refine ⟨rfl, ?_⟩
        rw [← hH, List.set_comm _ _ (show (16 : Nat) ≠ 32 by decide), List.set_set]
      · exfalso; omega
  · replace hb1 := dT hb1; exfalso; omega
set_option maxRecDepth 20000 in
theorem pm_X1_lookUp : mj_mmof pg_ms 167 = some ((⟨"ArrayCalculator$Machine", "lookUp", "(LArrayCalculator$Op;)V"⟩, prog_3_method_13_code, 3, (Option.none : Option Jvm.ClassFile.FieldType)), 1, false, mj_dec prog_3_method_13_code) := rfl
theorem dm_X1_lookUp_0 : mj_dec prog_3_method_13_code 0 = some (.aload_n 0, 1) := by decide +kernel
theorem dm_X1_lookUp_1 : mj_dec prog_3_method_13_code 1 = some (.getfield 42, 3) := by decide +kernel
theorem dm_X1_lookUp_4 : mj_dec prog_3_method_13_code 4 = some (.aload_n 1, 1) := by decide +kernel
theorem dm_X1_lookUp_5 : mj_dec prog_3_method_13_code 5 = some (.getfield 166, 3) := by decide +kernel
theorem dm_X1_lookUp_8 : mj_dec prog_3_method_13_code 8 = some (.invokevirtual 170, 3) := by decide +kernel
theorem dm_X1_lookUp_11 : mj_dec prog_3_method_13_code 11 = some (.astore_n 2, 1) := by decide +kernel
theorem dm_X1_lookUp_12 : mj_dec prog_3_method_13_code 12 = some (.aload_n 1, 1) := by decide +kernel
theorem dm_X1_lookUp_13 : mj_dec prog_3_method_13_code 13 = some (.getfield 166, 3) := by decide +kernel
theorem dm_X1_lookUp_16 : mj_dec prog_3_method_13_code 16 = some (.ldc2_w 176, 3) := by decide +kernel
theorem dm_X1_lookUp_19 : mj_dec prog_3_method_13_code 19 = some (.lcmp, 1) := by decide +kernel
theorem dm_X1_lookUp_20 : mj_dec prog_3_method_13_code 20 = some (.ifCond .ne 11, 3) := by decide +kernel
theorem dm_X1_lookUp_23 : mj_dec prog_3_method_13_code 23 = some (.aload_n 0, 1) := by decide +kernel
theorem dm_X1_lookUp_24 : mj_dec prog_3_method_13_code 24 = some (.getfield 62, 3) := by decide +kernel
theorem dm_X1_lookUp_27 : mj_dec prog_3_method_13_code 27 = some (.astore_n 2, 1) := by decide +kernel
theorem dm_X1_lookUp_28 : mj_dec prog_3_method_13_code 28 = some (.goto 19, 3) := by decide +kernel
theorem dm_X1_lookUp_47 : mj_dec prog_3_method_13_code 47 = some (.aload_n 2, 1) := by decide +kernel
theorem dm_X1_lookUp_48 : mj_dec prog_3_method_13_code 48 = some (.ifnonnull 12, 3) := by decide +kernel
theorem dm_X1_lookUp_60 : mj_dec prog_3_method_13_code 60 = some (.aload_n 0, 1) := by decide +kernel
theorem dm_X1_lookUp_61 : mj_dec prog_3_method_13_code 61 = some (.aload_n 2, 1) := by decide +kernel
theorem dm_X1_lookUp_62 : mj_dec prog_3_method_13_code 62 = some (.invokevirtual 138, 3) := by decide +kernel
theorem dm_X1_lookUp_65 : mj_dec prog_3_method_13_code 65 = some (.return_, 1) := by decide +kernel
theorem m_lookXY {q : Nat} {xt : mj_X} {d t : Nat} {h H : mj_H} {sf : Nat → Option Nat} {dp ca ou wk er pl lv : Int} {nw vy dg lf rt : Value} (hd : 3 ≤ d) (h16 : h[16]? = some (mcC (t : Int) dp ca ou wk er pl nw (.ref q) vy dg lv lf rt)) (h32 : h[32]? = some (cA 4 8192 sf)) (ht : t < 8192) {n m : Nat} {kf jf : Nat → Int64} {vf of : Nat → Option Nat} (hN : NMS h n m kf jf vf of) {v0 v1 v2 v3 v4 v5 v6 v7 v8 : Value} (hq : h[q]? = some (cO 10 [v0, v1, v2, v3, v4, v5, v6, v7, v8])) (hq2 : 2 ≤ q) {p : Nat} {pp : Int} {onx : Value} (hp : h[p]? = some (cO 4 [ii 2, ii pp, ii 0, .long (Int64.ofInt 24), ii 0, ii 0, ii 0, .null, onx, .null])) (hp2 : 127 ≤ p) (hca : -2147483648 ≤ ca ∧ ca ≤ 2147483647) (hH : (h.set 32 (cA 4 8192 (va_up sf t (some q)))).set 16 (mcC ((t + 1 : Nat) : Int) dp ca ou wk er pl nw (.ref q) vy dg lv lf rt) = H) : pgN xt d 167 [.ref 16, .ref p] h (fun h' => h' = H) := by
  refine x_enter pm_X1_lookUp (L0 := [(0, .ref 16), (1, .ref p)]) rfl (Nat.le_of_ble_eq_true rfl) (by omega) ?_
  refine me1 (pc' := 1) (L' := [(0, .ref 16), (1, .ref p)]) (S' := [.ref 16]) dm_X1_lookUp_0 rfl rfl rfl rfl ?_
  refine me3 (pc' := 4) (S' := [.ref 4]) dm_X1_lookUp_1 (g_get (v := .ref 4) h16 rfl rfl (by decide)) rfl rfl rfl ?_
  refine me1 (pc' := 5) (L' := [(0, .ref 16), (1, .ref p)]) (S' := [.ref p, .ref 4]) dm_X1_lookUp_4 rfl rfl rfl rfl ?_
  refine me3 (pc' := 8) (S' := [.long (Int64.ofInt 24), .ref 4]) dm_X1_lookUp_5 (g_get (v := .long (Int64.ofInt 24)) hp rfl rfl (by omega)) rfl rfl rfl ?_
  by_cases hf : fndK kf n (Int64.ofInt 24) < n
  · obtain ⟨q8, hq8⟩ := hN.2.2.2.2.2.2.2.1 _ hf
    refine x_cp (pc' := 11) (v := .ref q8) (rest := []) dm_X1_lookUp_8 rfl (g_inv (As := [.long (Int64.ofInt 24)]) (S := []) hN.1 rfl rfl rfl (by decide)) rfl rfl rfl (n_valueOfY (by omega) hN.1 hN.2.1 hN.2.2.1 hN.2.2.2.1 hN.2.2.2.2.1 (by decide) hN.2.2.2.2.2.1 hN.2.2.2.2.2.2.1 hf hq8) ?_
    refine me1 (pc' := 12) (L' := [(2, .ref q8), (0, .ref 16), (1, .ref p)]) (S' := []) dm_X1_lookUp_11 rfl rfl rfl rfl ?_
    refine me1 (pc' := 13) (L' := [(2, .ref q8), (0, .ref 16), (1, .ref p)]) (S' := [.ref p]) dm_X1_lookUp_12 rfl rfl rfl rfl ?_
    refine me3 (pc' := 16) (S' := [.long (Int64.ofInt 24)]) dm_X1_lookUp_13 (g_get (v := .long (Int64.ofInt 24)) hp rfl rfl (by omega)) rfl rfl rfl ?_
    refine me3 (pc' := 19) (S' := [.long (Int64.ofInt 24), .long (Int64.ofInt 24)]) dm_X1_lookUp_16 rfl rfl rfl rfl ?_
    refine y_lne (x := Int64.ofInt 24) (y := Int64.ofInt 24) (t := 31) (pc1 := 20) (pc' := 23) dm_X1_lookUp_19 rfl dm_X1_lookUp_20 rfl rfl (fun hb1 => ?_) (fun hb1 => ?_)
    · exact absurd hb1 (by exact not_not_intro rfl)
    · refine me1 (pc' := 24) (L' := [(2, .ref q8), (0, .ref 16), (1, .ref p)]) (S' := [.ref 16]) dm_X1_lookUp_23 rfl rfl rfl rfl ?_
      refine me3 (pc' := 27) (S' := [.ref q]) dm_X1_lookUp_24 (g_get (v := .ref q) h16 rfl rfl (by decide)) rfl rfl rfl ?_
      refine me1 (pc' := 28) (L' := [(2, .ref q), (0, .ref 16), (1, .ref p)]) (S' := []) dm_X1_lookUp_27 rfl rfl rfl rfl ?_
      refine me2 (pc' := 47) (S' := []) dm_X1_lookUp_28 rfl rfl rfl ?_
      refine me1 (pc' := 48) (L' := [(2, .ref q), (0, .ref 16), (1, .ref p)]) (S' := [.ref q]) dm_X1_lookUp_47 rfl rfl rfl rfl ?_
      refine me2 (pc' := 60) (S' := []) dm_X1_lookUp_48 rfl rfl rfl ?_
      refine me1 (pc' := 61) (L' := [(2, .ref q), (0, .ref 16), (1, .ref p)]) (S' := [.ref 16]) dm_X1_lookUp_60 rfl rfl rfl rfl ?_
      refine me1 (pc' := 62) (L' := [(2, .ref q), (0, .ref 16), (1, .ref p)]) (S' := [.ref q, .ref 16]) dm_X1_lookUp_61 rfl rfl rfl rfl ?_
      refine x_cn (pc' := 65) (rest := []) dm_X1_lookUp_62 rfl (g_inv (As := [.ref q]) (S := []) h16 rfl rfl rfl (by decide)) rfl rfl rfl (m_push (t := t) (by omega) hq (by omega) h16 h32 ht rfl) ?_
      rintro _ rfl
      refine y_ret (r := none) dm_X1_lookUp_65 rfl rfl rfl ?_
      exact ⟨rfl, hH⟩
  · refine x_cp (pc' := 11) (v := .null) (rest := []) dm_X1_lookUp_8 rfl (g_inv (As := [.long (Int64.ofInt 24)]) (S := []) hN.1 rfl rfl rfl (by decide)) rfl rfl rfl (n_valueOfN (by omega) hN.1 hN.2.1 hN.2.2.1 hN.2.2.2.1 hN.2.2.2.2.1 (by decide) hN.2.2.2.2.2.1 hN.2.2.2.2.2.2.1 (Nat.le_antisymm (fstN_le _ _) (Nat.le_of_not_lt hf))) ?_
    refine me1 (pc' := 12) (L' := [(2, .null), (0, .ref 16), (1, .ref p)]) (S' := []) dm_X1_lookUp_11 rfl rfl rfl rfl ?_
    refine me1 (pc' := 13) (L' := [(2, .null), (0, .ref 16), (1, .ref p)]) (S' := [.ref p]) dm_X1_lookUp_12 rfl rfl rfl rfl ?_
    refine me3 (pc' := 16) (S' := [.long (Int64.ofInt 24)]) dm_X1_lookUp_13 (g_get (v := .long (Int64.ofInt 24)) hp rfl rfl (by omega)) rfl rfl rfl ?_
    refine me3 (pc' := 19) (S' := [.long (Int64.ofInt 24), .long (Int64.ofInt 24)]) dm_X1_lookUp_16 rfl rfl rfl rfl ?_
    refine y_lne (x := Int64.ofInt 24) (y := Int64.ofInt 24) (t := 31) (pc1 := 20) (pc' := 23) dm_X1_lookUp_19 rfl dm_X1_lookUp_20 rfl rfl (fun hb2 => ?_) (fun hb2 => ?_)
    · exact absurd hb2 (by exact not_not_intro rfl)
    · refine me1 (pc' := 24) (L' := [(2, .null), (0, .ref 16), (1, .ref p)]) (S' := [.ref 16]) dm_X1_lookUp_23 rfl rfl rfl rfl ?_
      refine me3 (pc' := 27) (S' := [.ref q]) dm_X1_lookUp_24 (g_get (v := .ref q) h16 rfl rfl (by decide)) rfl rfl rfl ?_
      refine me1 (pc' := 28) (L' := [(2, .ref q), (0, .ref 16), (1, .ref p)]) (S' := []) dm_X1_lookUp_27 rfl rfl rfl rfl ?_
      refine me2 (pc' := 47) (S' := []) dm_X1_lookUp_28 rfl rfl rfl ?_
      refine me1 (pc' := 48) (L' := [(2, .ref q), (0, .ref 16), (1, .ref p)]) (S' := [.ref q]) dm_X1_lookUp_47 rfl rfl rfl rfl ?_
      refine me2 (pc' := 60) (S' := []) dm_X1_lookUp_48 rfl rfl rfl ?_
      refine me1 (pc' := 61) (L' := [(2, .ref q), (0, .ref 16), (1, .ref p)]) (S' := [.ref 16]) dm_X1_lookUp_60 rfl rfl rfl rfl ?_
      refine me1 (pc' := 62) (L' := [(2, .ref q), (0, .ref 16), (1, .ref p)]) (S' := [.ref q, .ref 16]) dm_X1_lookUp_61 rfl rfl rfl rfl ?_
      refine x_cn (pc' := 65) (rest := []) dm_X1_lookUp_62 rfl (g_inv (As := [.ref q]) (S := []) h16 rfl rfl rfl (by decide)) rfl rfl rfl (m_push (t := t) (by omega) hq (by omega) h16 h32 ht rfl) ?_
      rintro _ rfl
      refine y_ret (r := none) dm_X1_lookUp_65 rfl rfl rfl ?_
      exact ⟨rfl, hH⟩
theorem dm_X1_lookUp_51 : mj_dec prog_3_method_13_code 51 = some (.aload_n 0, 1) := by decide +kernel
theorem dm_X1_lookUp_52 : mj_dec prog_3_method_13_code 52 = some (.iconst 2, 1) := by decide +kernel
theorem dm_X1_lookUp_53 : mj_dec prog_3_method_13_code 53 = some (.aload_n 1, 1) := by decide +kernel
theorem dm_X1_lookUp_54 : mj_dec prog_3_method_13_code 54 = some (.invokevirtual 125, 3) := by decide +kernel
theorem dm_X1_lookUp_57 : mj_dec prog_3_method_13_code 57 = some (.goto 8, 3) := by decide +kernel
theorem m_lookXN {xt : mj_X} {d t : Nat} {h H : mj_H} {sf : Nat → Option Nat} {dp ca ou wk er pl lv : Int} {nw vy dg lf rt : Value} (hd : 3 ≤ d) (h16 : h[16]? = some (mcC (t : Int) dp ca ou wk er pl nw .null vy dg lv lf rt)) (h32 : h[32]? = some (cA 4 8192 sf)) (ht : t < 8192) {n m : Nat} {kf jf : Nat → Int64} {vf of : Nat → Option Nat} (hN : NMS h n m kf jf vf of) {p : Nat} {pp : Int} {onx : Value} (hp : h[p]? = some (cO 4 [ii 2, ii pp, ii 0, .long (Int64.ofInt 24), ii 0, ii 0, ii 0, .null, onx, .null])) (hp2 : 127 ≤ p) (hca : -2147483648 ≤ ca ∧ ca ≤ 2147483647) (hH : h.set 16 (mcC (t : Int) dp ca ou wk 2 (if 0 < ca then ou else pp) nw .null vy dg lv lf rt) = H) : pgN xt d 167 [.ref 16, .ref p] h (fun h' => h' = H) := by
  refine x_enter pm_X1_lookUp (L0 := [(0, .ref 16), (1, .ref p)]) rfl (Nat.le_of_ble_eq_true rfl) (by omega) ?_
  refine me1 (pc' := 1) (L' := [(0, .ref 16), (1, .ref p)]) (S' := [.ref 16]) dm_X1_lookUp_0 rfl rfl rfl rfl ?_
  refine me3 (pc' := 4) (S' := [.ref 4]) dm_X1_lookUp_1 (g_get (v := .ref 4) h16 rfl rfl (by decide)) rfl rfl rfl ?_
  refine me1 (pc' := 5) (L' := [(0, .ref 16), (1, .ref p)]) (S' := [.ref p, .ref 4]) dm_X1_lookUp_4 rfl rfl rfl rfl ?_
  refine me3 (pc' := 8) (S' := [.long (Int64.ofInt 24), .ref 4]) dm_X1_lookUp_5 (g_get (v := .long (Int64.ofInt 24)) hp rfl rfl (by omega)) rfl rfl rfl ?_
  by_cases hf : fndK kf n (Int64.ofInt 24) < n
  · obtain ⟨q8, hq8⟩ := hN.2.2.2.2.2.2.2.1 _ hf
    refine x_cp (pc' := 11) (v := .ref q8) (rest := []) dm_X1_lookUp_8 rfl (g_inv (As := [.long (Int64.ofInt 24)]) (S := []) hN.1 rfl rfl rfl (by decide)) rfl rfl rfl (n_valueOfY (by omega) hN.1 hN.2.1 hN.2.2.1 hN.2.2.2.1 hN.2.2.2.2.1 (by decide) hN.2.2.2.2.2.1 hN.2.2.2.2.2.2.1 hf hq8) ?_
    refine me1 (pc' := 12) (L' := [(2, .ref q8), (0, .ref 16), (1, .ref p)]) (S' := []) dm_X1_lookUp_11 rfl rfl rfl rfl ?_
    refine me1 (pc' := 13) (L' := [(2, .ref q8), (0, .ref 16), (1, .ref p)]) (S' := [.ref p]) dm_X1_lookUp_12 rfl rfl rfl rfl ?_
    refine me3 (pc' := 16) (S' := [.long (Int64.ofInt 24)]) dm_X1_lookUp_13 (g_get (v := .long (Int64.ofInt 24)) hp rfl rfl (by omega)) rfl rfl rfl ?_
    refine me3 (pc' := 19) (S' := [.long (Int64.ofInt 24), .long (Int64.ofInt 24)]) dm_X1_lookUp_16 rfl rfl rfl rfl ?_
    refine y_lne (x := Int64.ofInt 24) (y := Int64.ofInt 24) (t := 31) (pc1 := 20) (pc' := 23) dm_X1_lookUp_19 rfl dm_X1_lookUp_20 rfl rfl (fun hb1 => ?_) (fun hb1 => ?_)
    · exact absurd hb1 (by exact not_not_intro rfl)
    · refine me1 (pc' := 24) (L' := [(2, .ref q8), (0, .ref 16), (1, .ref p)]) (S' := [.ref 16]) dm_X1_lookUp_23 rfl rfl rfl rfl ?_
      refine me3 (pc' := 27) (S' := [.null]) dm_X1_lookUp_24 (g_get (v := .null) h16 rfl rfl (by decide)) rfl rfl rfl ?_
      refine me1 (pc' := 28) (L' := [(2, .null), (0, .ref 16), (1, .ref p)]) (S' := []) dm_X1_lookUp_27 rfl rfl rfl rfl ?_
      refine me2 (pc' := 47) (S' := []) dm_X1_lookUp_28 rfl rfl rfl ?_
      refine me1 (pc' := 48) (L' := [(2, .null), (0, .ref 16), (1, .ref p)]) (S' := [.null]) dm_X1_lookUp_47 rfl rfl rfl rfl ?_
      refine me2 (pc' := 51) (S' := []) dm_X1_lookUp_48 rfl rfl rfl ?_
      refine me1 (pc' := 52) (L' := [(2, .null), (0, .ref 16), (1, .ref p)]) (S' := [.ref 16]) dm_X1_lookUp_51 rfl rfl rfl rfl ?_
      refine me0 (pc' := 53) (S' := [ii 2, .ref 16]) dm_X1_lookUp_52 rfl rfl rfl rfl ?_
      refine me1 (pc' := 54) (L' := [(2, .null), (0, .ref 16), (1, .ref p)]) (S' := [.ref p, ii 2, .ref 16]) dm_X1_lookUp_53 rfl rfl rfl rfl ?_
      refine x_cn (pc' := 57) (rest := []) dm_X1_lookUp_54 rfl (g_inv (As := [ii 2, .ref p]) (S := []) h16 rfl rfl rfl (by decide)) rfl rfl rfl (m_fail (c := 2) (by omega) h16 hp hp2 hca rfl) ?_
      rintro _ rfl
      refine me2 (pc' := 65) (S' := []) dm_X1_lookUp_57 rfl rfl rfl ?_
      refine y_ret (r := none) dm_X1_lookUp_65 rfl rfl rfl ?_
      exact ⟨rfl, hH⟩
  · refine x_cp (pc' := 11) (v := .null) (rest := []) dm_X1_lookUp_8 rfl (g_inv (As := [.long (Int64.ofInt 24)]) (S := []) hN.1 rfl rfl rfl (by decide)) rfl rfl rfl (n_valueOfN (by omega) hN.1 hN.2.1 hN.2.2.1 hN.2.2.2.1 hN.2.2.2.2.1 (by decide) hN.2.2.2.2.2.1 hN.2.2.2.2.2.2.1 (Nat.le_antisymm (fstN_le _ _) (Nat.le_of_not_lt hf))) ?_
    refine me1 (pc' := 12) (L' := [(2, .null), (0, .ref 16), (1, .ref p)]) (S' := []) dm_X1_lookUp_11 rfl rfl rfl rfl ?_
    refine me1 (pc' := 13) (L' := [(2, .null), (0, .ref 16), (1, .ref p)]) (S' := [.ref p]) dm_X1_lookUp_12 rfl rfl rfl rfl ?_
    refine me3 (pc' := 16) (S' := [.long (Int64.ofInt 24)]) dm_X1_lookUp_13 (g_get (v := .long (Int64.ofInt 24)) hp rfl rfl (by omega)) rfl rfl rfl ?_
    refine me3 (pc' := 19) (S' := [.long (Int64.ofInt 24), .long (Int64.ofInt 24)]) dm_X1_lookUp_16 rfl rfl rfl rfl ?_
    refine y_lne (x := Int64.ofInt 24) (y := Int64.ofInt 24) (t := 31) (pc1 := 20) (pc' := 23) dm_X1_lookUp_19 rfl dm_X1_lookUp_20 rfl rfl (fun hb2 => ?_) (fun hb2 => ?_)
    · exact absurd hb2 (by exact not_not_intro rfl)
    · refine me1 (pc' := 24) (L' := [(2, .null), (0, .ref 16), (1, .ref p)]) (S' := [.ref 16]) dm_X1_lookUp_23 rfl rfl rfl rfl ?_
      refine me3 (pc' := 27) (S' := [.null]) dm_X1_lookUp_24 (g_get (v := .null) h16 rfl rfl (by decide)) rfl rfl rfl ?_
      refine me1 (pc' := 28) (L' := [(2, .null), (0, .ref 16), (1, .ref p)]) (S' := []) dm_X1_lookUp_27 rfl rfl rfl rfl ?_
      refine me2 (pc' := 47) (S' := []) dm_X1_lookUp_28 rfl rfl rfl ?_
      refine me1 (pc' := 48) (L' := [(2, .null), (0, .ref 16), (1, .ref p)]) (S' := [.null]) dm_X1_lookUp_47 rfl rfl rfl rfl ?_
      refine me2 (pc' := 51) (S' := []) dm_X1_lookUp_48 rfl rfl rfl ?_
      refine me1 (pc' := 52) (L' := [(2, .null), (0, .ref 16), (1, .ref p)]) (S' := [.ref 16]) dm_X1_lookUp_51 rfl rfl rfl rfl ?_
      refine me0 (pc' := 53) (S' := [ii 2, .ref 16]) dm_X1_lookUp_52 rfl rfl rfl rfl ?_
      refine me1 (pc' := 54) (L' := [(2, .null), (0, .ref 16), (1, .ref p)]) (S' := [.ref p, ii 2, .ref 16]) dm_X1_lookUp_53 rfl rfl rfl rfl ?_
      refine x_cn (pc' := 57) (rest := []) dm_X1_lookUp_54 rfl (g_inv (As := [ii 2, .ref p]) (S := []) h16 rfl rfl rfl (by decide)) rfl rfl rfl (m_fail (c := 2) (by omega) h16 hp hp2 hca rfl) ?_
      rintro _ rfl
      refine me2 (pc' := 65) (S' := []) dm_X1_lookUp_57 rfl rfl rfl ?_
      refine y_ret (r := none) dm_X1_lookUp_65 rfl rfl rfl ?_
      exact ⟨rfl, hH⟩
theorem dm_X1_lookUp_31 : mj_dec prog_3_method_13_code 31 = some (.aload_n 1, 1) := by decide +kernel
theorem dm_X1_lookUp_32 : mj_dec prog_3_method_13_code 32 = some (.getfield 166, 3) := by decide +kernel
theorem dm_X1_lookUp_35 : mj_dec prog_3_method_13_code 35 = some (.ldc2_w 178, 3) := by decide +kernel
theorem dm_X1_lookUp_38 : mj_dec prog_3_method_13_code 38 = some (.lcmp, 1) := by decide +kernel
theorem dm_X1_lookUp_39 : mj_dec prog_3_method_13_code 39 = some (.ifCond .ne 8, 3) := by decide +kernel
theorem dm_X1_lookUp_42 : mj_dec prog_3_method_13_code 42 = some (.aload_n 0, 1) := by decide +kernel
theorem dm_X1_lookUp_43 : mj_dec prog_3_method_13_code 43 = some (.getfield 66, 3) := by decide +kernel
theorem dm_X1_lookUp_46 : mj_dec prog_3_method_13_code 46 = some (.astore_n 2, 1) := by decide +kernel
theorem m_lookYY {q : Nat} {xt : mj_X} {d t : Nat} {h H : mj_H} {sf : Nat → Option Nat} {dp ca ou wk er pl lv : Int} {nw vx dg lf rt : Value} (hd : 3 ≤ d) (h16 : h[16]? = some (mcC (t : Int) dp ca ou wk er pl nw vx (.ref q) dg lv lf rt)) (h32 : h[32]? = some (cA 4 8192 sf)) (ht : t < 8192) {n m : Nat} {kf jf : Nat → Int64} {vf of : Nat → Option Nat} (hN : NMS h n m kf jf vf of) {v0 v1 v2 v3 v4 v5 v6 v7 v8 : Value} (hq : h[q]? = some (cO 10 [v0, v1, v2, v3, v4, v5, v6, v7, v8])) (hq2 : 2 ≤ q) {p : Nat} {pp : Int} {onx : Value} (hp : h[p]? = some (cO 4 [ii 2, ii pp, ii 0, .long (Int64.ofInt 25), ii 0, ii 0, ii 0, .null, onx, .null])) (hp2 : 127 ≤ p) (hca : -2147483648 ≤ ca ∧ ca ≤ 2147483647) (hH : (h.set 32 (cA 4 8192 (va_up sf t (some q)))).set 16 (mcC ((t + 1 : Nat) : Int) dp ca ou wk er pl nw vx (.ref q) dg lv lf rt) = H) : pgN xt d 167 [.ref 16, .ref p] h (fun h' => h' = H) := by
  refine x_enter pm_X1_lookUp (L0 := [(0, .ref 16), (1, .ref p)]) rfl (Nat.le_of_ble_eq_true rfl) (by omega) ?_
  refine me1 (pc' := 1) (L' := [(0, .ref 16), (1, .ref p)]) (S' := [.ref 16]) dm_X1_lookUp_0 rfl rfl rfl rfl ?_
  refine me3 (pc' := 4) (S' := [.ref 4]) dm_X1_lookUp_1 (g_get (v := .ref 4) h16 rfl rfl (by decide)) rfl rfl rfl ?_
  refine me1 (pc' := 5) (L' := [(0, .ref 16), (1, .ref p)]) (S' := [.ref p, .ref 4]) dm_X1_lookUp_4 rfl rfl rfl rfl ?_
  refine me3 (pc' := 8) (S' := [.long (Int64.ofInt 25), .ref 4]) dm_X1_lookUp_5 (g_get (v := .long (Int64.ofInt 25)) hp rfl rfl (by omega)) rfl rfl rfl ?_
  by_cases hf : fndK kf n (Int64.ofInt 25) < n
  · obtain ⟨q8, hq8⟩ := hN.2.2.2.2.2.2.2.1 _ hf
    refine x_cp (pc' := 11) (v := .ref q8) (rest := []) dm_X1_lookUp_8 rfl (g_inv (As := [.long (Int64.ofInt 25)]) (S := []) hN.1 rfl rfl rfl (by decide)) rfl rfl rfl (n_valueOfY (by omega) hN.1 hN.2.1 hN.2.2.1 hN.2.2.2.1 hN.2.2.2.2.1 (by decide) hN.2.2.2.2.2.1 hN.2.2.2.2.2.2.1 hf hq8) ?_
    refine me1 (pc' := 12) (L' := [(2, .ref q8), (0, .ref 16), (1, .ref p)]) (S' := []) dm_X1_lookUp_11 rfl rfl rfl rfl ?_
    refine me1 (pc' := 13) (L' := [(2, .ref q8), (0, .ref 16), (1, .ref p)]) (S' := [.ref p]) dm_X1_lookUp_12 rfl rfl rfl rfl ?_
    refine me3 (pc' := 16) (S' := [.long (Int64.ofInt 25)]) dm_X1_lookUp_13 (g_get (v := .long (Int64.ofInt 25)) hp rfl rfl (by omega)) rfl rfl rfl ?_
    refine me3 (pc' := 19) (S' := [.long (Int64.ofInt 24), .long (Int64.ofInt 25)]) dm_X1_lookUp_16 rfl rfl rfl rfl ?_
    refine y_lne (x := Int64.ofInt 25) (y := Int64.ofInt 24) (t := 31) (pc1 := 20) (pc' := 23) dm_X1_lookUp_19 rfl dm_X1_lookUp_20 rfl rfl (fun hb1 => ?_) (fun hb1 => ?_)
    · refine me1 (pc' := 32) (L' := [(2, .ref q8), (0, .ref 16), (1, .ref p)]) (S' := [.ref p]) dm_X1_lookUp_31 rfl rfl rfl rfl ?_
      refine me3 (pc' := 35) (S' := [.long (Int64.ofInt 25)]) dm_X1_lookUp_32 (g_get (v := .long (Int64.ofInt 25)) hp rfl rfl (by omega)) rfl rfl rfl ?_
      refine me3 (pc' := 38) (S' := [.long (Int64.ofInt 25), .long (Int64.ofInt 25)]) dm_X1_lookUp_35 rfl rfl rfl rfl ?_
      refine y_lne (x := Int64.ofInt 25) (y := Int64.ofInt 25) (t := 47) (pc1 := 39) (pc' := 42) dm_X1_lookUp_38 rfl dm_X1_lookUp_39 rfl rfl (fun hb2 => ?_) (fun hb2 => ?_)
      · exact absurd hb2 (by exact not_not_intro rfl)
      · refine me1 (pc' := 43) (L' := [(2, .ref q8), (0, .ref 16), (1, .ref p)]) (S' := [.ref 16]) dm_X1_lookUp_42 rfl rfl rfl rfl ?_
        refine me3 (pc' := 46) (S' := [.ref q]) dm_X1_lookUp_43 (g_get (v := .ref q) h16 rfl rfl (by decide)) rfl rfl rfl ?_
        refine me1 (pc' := 47) (L' := [(2, .ref q), (0, .ref 16), (1, .ref p)]) (S' := []) dm_X1_lookUp_46 rfl rfl rfl rfl ?_
        refine me1 (pc' := 48) (L' := [(2, .ref q), (0, .ref 16), (1, .ref p)]) (S' := [.ref q]) dm_X1_lookUp_47 rfl rfl rfl rfl ?_
        refine me2 (pc' := 60) (S' := []) dm_X1_lookUp_48 rfl rfl rfl ?_
        refine me1 (pc' := 61) (L' := [(2, .ref q), (0, .ref 16), (1, .ref p)]) (S' := [.ref 16]) dm_X1_lookUp_60 rfl rfl rfl rfl ?_
        refine me1 (pc' := 62) (L' := [(2, .ref q), (0, .ref 16), (1, .ref p)]) (S' := [.ref q, .ref 16]) dm_X1_lookUp_61 rfl rfl rfl rfl ?_
        refine x_cn (pc' := 65) (rest := []) dm_X1_lookUp_62 rfl (g_inv (As := [.ref q]) (S := []) h16 rfl rfl rfl (by decide)) rfl rfl rfl (m_push (t := t) (by omega) hq (by omega) h16 h32 ht rfl) ?_
        rintro _ rfl
        refine y_ret (r := none) dm_X1_lookUp_65 rfl rfl rfl ?_
        exact ⟨rfl, hH⟩
    · exact absurd hb1 (by decide)
  · refine x_cp (pc' := 11) (v := .null) (rest := []) dm_X1_lookUp_8 rfl (g_inv (As := [.long (Int64.ofInt 25)]) (S := []) hN.1 rfl rfl rfl (by decide)) rfl rfl rfl (n_valueOfN (by omega) hN.1 hN.2.1 hN.2.2.1 hN.2.2.2.1 hN.2.2.2.2.1 (by decide) hN.2.2.2.2.2.1 hN.2.2.2.2.2.2.1 (Nat.le_antisymm (fstN_le _ _) (Nat.le_of_not_lt hf))) ?_
    refine me1 (pc' := 12) (L' := [(2, .null), (0, .ref 16), (1, .ref p)]) (S' := []) dm_X1_lookUp_11 rfl rfl rfl rfl ?_
    refine me1 (pc' := 13) (L' := [(2, .null), (0, .ref 16), (1, .ref p)]) (S' := [.ref p]) dm_X1_lookUp_12 rfl rfl rfl rfl ?_
    refine me3 (pc' := 16) (S' := [.long (Int64.ofInt 25)]) dm_X1_lookUp_13 (g_get (v := .long (Int64.ofInt 25)) hp rfl rfl (by omega)) rfl rfl rfl ?_
    refine me3 (pc' := 19) (S' := [.long (Int64.ofInt 24), .long (Int64.ofInt 25)]) dm_X1_lookUp_16 rfl rfl rfl rfl ?_
    refine y_lne (x := Int64.ofInt 25) (y := Int64.ofInt 24) (t := 31) (pc1 := 20) (pc' := 23) dm_X1_lookUp_19 rfl dm_X1_lookUp_20 rfl rfl (fun hb3 => ?_) (fun hb3 => ?_)
    · refine me1 (pc' := 32) (L' := [(2, .null), (0, .ref 16), (1, .ref p)]) (S' := [.ref p]) dm_X1_lookUp_31 rfl rfl rfl rfl ?_
      refine me3 (pc' := 35) (S' := [.long (Int64.ofInt 25)]) dm_X1_lookUp_32 (g_get (v := .long (Int64.ofInt 25)) hp rfl rfl (by omega)) rfl rfl rfl ?_
      refine me3 (pc' := 38) (S' := [.long (Int64.ofInt 25), .long (Int64.ofInt 25)]) dm_X1_lookUp_35 rfl rfl rfl rfl ?_
      refine y_lne (x := Int64.ofInt 25) (y := Int64.ofInt 25) (t := 47) (pc1 := 39) (pc' := 42) dm_X1_lookUp_38 rfl dm_X1_lookUp_39 rfl rfl (fun hb4 => ?_) (fun hb4 => ?_)
      · exact absurd hb4 (by exact not_not_intro rfl)
      · refine me1 (pc' := 43) (L' := [(2, .null), (0, .ref 16), (1, .ref p)]) (S' := [.ref 16]) dm_X1_lookUp_42 rfl rfl rfl rfl ?_
        refine me3 (pc' := 46) (S' := [.ref q]) dm_X1_lookUp_43 (g_get (v := .ref q) h16 rfl rfl (by decide)) rfl rfl rfl ?_
        refine me1 (pc' := 47) (L' := [(2, .ref q), (0, .ref 16), (1, .ref p)]) (S' := []) dm_X1_lookUp_46 rfl rfl rfl rfl ?_
        refine me1 (pc' := 48) (L' := [(2, .ref q), (0, .ref 16), (1, .ref p)]) (S' := [.ref q]) dm_X1_lookUp_47 rfl rfl rfl rfl ?_
        refine me2 (pc' := 60) (S' := []) dm_X1_lookUp_48 rfl rfl rfl ?_
        refine me1 (pc' := 61) (L' := [(2, .ref q), (0, .ref 16), (1, .ref p)]) (S' := [.ref 16]) dm_X1_lookUp_60 rfl rfl rfl rfl ?_
        refine me1 (pc' := 62) (L' := [(2, .ref q), (0, .ref 16), (1, .ref p)]) (S' := [.ref q, .ref 16]) dm_X1_lookUp_61 rfl rfl rfl rfl ?_
        refine x_cn (pc' := 65) (rest := []) dm_X1_lookUp_62 rfl (g_inv (As := [.ref q]) (S := []) h16 rfl rfl rfl (by decide)) rfl rfl rfl (m_push (t := t) (by omega) hq (by omega) h16 h32 ht rfl) ?_
        rintro _ rfl
        refine y_ret (r := none) dm_X1_lookUp_65 rfl rfl rfl ?_
        exact ⟨rfl, hH⟩
    · exact absurd hb3 (by decide)
theorem m_lookYN {xt : mj_X} {d t : Nat} {h H : mj_H} {sf : Nat → Option Nat} {dp ca ou wk er pl lv : Int} {nw vx dg lf rt : Value} (hd : 3 ≤ d) (h16 : h[16]? = some (mcC (t : Int) dp ca ou wk er pl nw vx .null dg lv lf rt)) (h32 : h[32]? = some (cA 4 8192 sf)) (ht : t < 8192) {n m : Nat} {kf jf : Nat → Int64} {vf of : Nat → Option Nat} (hN : NMS h n m kf jf vf of) {p : Nat} {pp : Int} {onx : Value} (hp : h[p]? = some (cO 4 [ii 2, ii pp, ii 0, .long (Int64.ofInt 25), ii 0, ii 0, ii 0, .null, onx, .null])) (hp2 : 127 ≤ p) (hca : -2147483648 ≤ ca ∧ ca ≤ 2147483647) (hH : h.set 16 (mcC (t : Int) dp ca ou wk 2 (if 0 < ca then ou else pp) nw vx .null dg lv lf rt) = H) : pgN xt d 167 [.ref 16, .ref p] h (fun h' => h' = H) := by
  refine x_enter pm_X1_lookUp (L0 := [(0, .ref 16), (1, .ref p)]) rfl (Nat.le_of_ble_eq_true rfl) (by omega) ?_
  refine me1 (pc' := 1) (L' := [(0, .ref 16), (1, .ref p)]) (S' := [.ref 16]) dm_X1_lookUp_0 rfl rfl rfl rfl ?_
  refine me3 (pc' := 4) (S' := [.ref 4]) dm_X1_lookUp_1 (g_get (v := .ref 4) h16 rfl rfl (by decide)) rfl rfl rfl ?_
  refine me1 (pc' := 5) (L' := [(0, .ref 16), (1, .ref p)]) (S' := [.ref p, .ref 4]) dm_X1_lookUp_4 rfl rfl rfl rfl ?_
  refine me3 (pc' := 8) (S' := [.long (Int64.ofInt 25), .ref 4]) dm_X1_lookUp_5 (g_get (v := .long (Int64.ofInt 25)) hp rfl rfl (by omega)) rfl rfl rfl ?_
  by_cases hf : fndK kf n (Int64.ofInt 25) < n
  · obtain ⟨q8, hq8⟩ := hN.2.2.2.2.2.2.2.1 _ hf
    refine x_cp (pc' := 11) (v := .ref q8) (rest := []) dm_X1_lookUp_8 rfl (g_inv (As := [.long (Int64.ofInt 25)]) (S := []) hN.1 rfl rfl rfl (by decide)) rfl rfl rfl (n_valueOfY (by omega) hN.1 hN.2.1 hN.2.2.1 hN.2.2.2.1 hN.2.2.2.2.1 (by decide) hN.2.2.2.2.2.1 hN.2.2.2.2.2.2.1 hf hq8) ?_
    refine me1 (pc' := 12) (L' := [(2, .ref q8), (0, .ref 16), (1, .ref p)]) (S' := []) dm_X1_lookUp_11 rfl rfl rfl rfl ?_
    refine me1 (pc' := 13) (L' := [(2, .ref q8), (0, .ref 16), (1, .ref p)]) (S' := [.ref p]) dm_X1_lookUp_12 rfl rfl rfl rfl ?_
    refine me3 (pc' := 16) (S' := [.long (Int64.ofInt 25)]) dm_X1_lookUp_13 (g_get (v := .long (Int64.ofInt 25)) hp rfl rfl (by omega)) rfl rfl rfl ?_
    refine me3 (pc' := 19) (S' := [.long (Int64.ofInt 24), .long (Int64.ofInt 25)]) dm_X1_lookUp_16 rfl rfl rfl rfl ?_
    refine y_lne (x := Int64.ofInt 25) (y := Int64.ofInt 24) (t := 31) (pc1 := 20) (pc' := 23) dm_X1_lookUp_19 rfl dm_X1_lookUp_20 rfl rfl (fun hb1 => ?_) (fun hb1 => ?_)
    · refine me1 (pc' := 32) (L' := [(2, .ref q8), (0, .ref 16), (1, .ref p)]) (S' := [.ref p]) dm_X1_lookUp_31 rfl rfl rfl rfl ?_
      refine me3 (pc' := 35) (S' := [.long (Int64.ofInt 25)]) dm_X1_lookUp_32 (g_get (v := .long (Int64.ofInt 25)) hp rfl rfl (by omega)) rfl rfl rfl ?_
      refine me3 (pc' := 38) (S' := [.long (Int64.ofInt 25), .long (Int64.ofInt 25)]) dm_X1_lookUp_35 rfl rfl rfl rfl ?_
      refine y_lne (x := Int64.ofInt 25) (y := Int64.ofInt 25) (t := 47) (pc1 := 39) (pc' := 42) dm_X1_lookUp_38 rfl dm_X1_lookUp_39 rfl rfl (fun hb2 => ?_) (fun hb2 => ?_)
      · exact absurd hb2 (by exact not_not_intro rfl)
      · refine me1 (pc' := 43) (L' := [(2, .ref q8), (0, .ref 16), (1, .ref p)]) (S' := [.ref 16]) dm_X1_lookUp_42 rfl rfl rfl rfl ?_
        refine me3 (pc' := 46) (S' := [.null]) dm_X1_lookUp_43 (g_get (v := .null) h16 rfl rfl (by decide)) rfl rfl rfl ?_
        refine me1 (pc' := 47) (L' := [(2, .null), (0, .ref 16), (1, .ref p)]) (S' := []) dm_X1_lookUp_46 rfl rfl rfl rfl ?_
        refine me1 (pc' := 48) (L' := [(2, .null), (0, .ref 16), (1, .ref p)]) (S' := [.null]) dm_X1_lookUp_47 rfl rfl rfl rfl ?_
        refine me2 (pc' := 51) (S' := []) dm_X1_lookUp_48 rfl rfl rfl ?_
        refine me1 (pc' := 52) (L' := [(2, .null), (0, .ref 16), (1, .ref p)]) (S' := [.ref 16]) dm_X1_lookUp_51 rfl rfl rfl rfl ?_
        refine me0 (pc' := 53) (S' := [ii 2, .ref 16]) dm_X1_lookUp_52 rfl rfl rfl rfl ?_
        refine me1 (pc' := 54) (L' := [(2, .null), (0, .ref 16), (1, .ref p)]) (S' := [.ref p, ii 2, .ref 16]) dm_X1_lookUp_53 rfl rfl rfl rfl ?_
        refine x_cn (pc' := 57) (rest := []) dm_X1_lookUp_54 rfl (g_inv (As := [ii 2, .ref p]) (S := []) h16 rfl rfl rfl (by decide)) rfl rfl rfl (m_fail (c := 2) (by omega) h16 hp hp2 hca rfl) ?_
        rintro _ rfl
        refine me2 (pc' := 65) (S' := []) dm_X1_lookUp_57 rfl rfl rfl ?_
        refine y_ret (r := none) dm_X1_lookUp_65 rfl rfl rfl ?_
        exact ⟨rfl, hH⟩
    · exact absurd hb1 (by decide)
  · refine x_cp (pc' := 11) (v := .null) (rest := []) dm_X1_lookUp_8 rfl (g_inv (As := [.long (Int64.ofInt 25)]) (S := []) hN.1 rfl rfl rfl (by decide)) rfl rfl rfl (n_valueOfN (by omega) hN.1 hN.2.1 hN.2.2.1 hN.2.2.2.1 hN.2.2.2.2.1 (by decide) hN.2.2.2.2.2.1 hN.2.2.2.2.2.2.1 (Nat.le_antisymm (fstN_le _ _) (Nat.le_of_not_lt hf))) ?_
    refine me1 (pc' := 12) (L' := [(2, .null), (0, .ref 16), (1, .ref p)]) (S' := []) dm_X1_lookUp_11 rfl rfl rfl rfl ?_
    refine me1 (pc' := 13) (L' := [(2, .null), (0, .ref 16), (1, .ref p)]) (S' := [.ref p]) dm_X1_lookUp_12 rfl rfl rfl rfl ?_
    refine me3 (pc' := 16) (S' := [.long (Int64.ofInt 25)]) dm_X1_lookUp_13 (g_get (v := .long (Int64.ofInt 25)) hp rfl rfl (by omega)) rfl rfl rfl ?_
    refine me3 (pc' := 19) (S' := [.long (Int64.ofInt 24), .long (Int64.ofInt 25)]) dm_X1_lookUp_16 rfl rfl rfl rfl ?_
    refine y_lne (x := Int64.ofInt 25) (y := Int64.ofInt 24) (t := 31) (pc1 := 20) (pc' := 23) dm_X1_lookUp_19 rfl dm_X1_lookUp_20 rfl rfl (fun hb3 => ?_) (fun hb3 => ?_)
    · refine me1 (pc' := 32) (L' := [(2, .null), (0, .ref 16), (1, .ref p)]) (S' := [.ref p]) dm_X1_lookUp_31 rfl rfl rfl rfl ?_
      refine me3 (pc' := 35) (S' := [.long (Int64.ofInt 25)]) dm_X1_lookUp_32 (g_get (v := .long (Int64.ofInt 25)) hp rfl rfl (by omega)) rfl rfl rfl ?_
      refine me3 (pc' := 38) (S' := [.long (Int64.ofInt 25), .long (Int64.ofInt 25)]) dm_X1_lookUp_35 rfl rfl rfl rfl ?_
      refine y_lne (x := Int64.ofInt 25) (y := Int64.ofInt 25) (t := 47) (pc1 := 39) (pc' := 42) dm_X1_lookUp_38 rfl dm_X1_lookUp_39 rfl rfl (fun hb4 => ?_) (fun hb4 => ?_)
      · exact absurd hb4 (by exact not_not_intro rfl)
      · refine me1 (pc' := 43) (L' := [(2, .null), (0, .ref 16), (1, .ref p)]) (S' := [.ref 16]) dm_X1_lookUp_42 rfl rfl rfl rfl ?_
        refine me3 (pc' := 46) (S' := [.null]) dm_X1_lookUp_43 (g_get (v := .null) h16 rfl rfl (by decide)) rfl rfl rfl ?_
        refine me1 (pc' := 47) (L' := [(2, .null), (0, .ref 16), (1, .ref p)]) (S' := []) dm_X1_lookUp_46 rfl rfl rfl rfl ?_
        refine me1 (pc' := 48) (L' := [(2, .null), (0, .ref 16), (1, .ref p)]) (S' := [.null]) dm_X1_lookUp_47 rfl rfl rfl rfl ?_
        refine me2 (pc' := 51) (S' := []) dm_X1_lookUp_48 rfl rfl rfl ?_
        refine me1 (pc' := 52) (L' := [(2, .null), (0, .ref 16), (1, .ref p)]) (S' := [.ref 16]) dm_X1_lookUp_51 rfl rfl rfl rfl ?_
        refine me0 (pc' := 53) (S' := [ii 2, .ref 16]) dm_X1_lookUp_52 rfl rfl rfl rfl ?_
        refine me1 (pc' := 54) (L' := [(2, .null), (0, .ref 16), (1, .ref p)]) (S' := [.ref p, ii 2, .ref 16]) dm_X1_lookUp_53 rfl rfl rfl rfl ?_
        refine x_cn (pc' := 57) (rest := []) dm_X1_lookUp_54 rfl (g_inv (As := [ii 2, .ref p]) (S := []) h16 rfl rfl rfl (by decide)) rfl rfl rfl (m_fail (c := 2) (by omega) h16 hp hp2 hca rfl) ?_
        rintro _ rfl
        refine me2 (pc' := 65) (S' := []) dm_X1_lookUp_57 rfl rfl rfl ?_
        refine y_ret (r := none) dm_X1_lookUp_65 rfl rfl rfl ?_
        exact ⟨rfl, hH⟩
    · exact absurd hb3 (by decide)
theorem m_lookVY {q : Nat} {xt : mj_X} {d t : Nat} {h H : mj_H} {sf : Nat → Option Nat} {dp ca ou wk er pl lv : Int} {nw vx vy dg lf rt : Value} (hd : 3 ≤ d) (h16 : h[16]? = some (mcC (t : Int) dp ca ou wk er pl nw vx vy dg lv lf rt)) (h32 : h[32]? = some (cA 4 8192 sf)) (ht : t < 8192) {n m : Nat} {kf jf : Nat → Int64} {vf of : Nat → Option Nat} (hN : NMS h n m kf jf vf of) {key : Int64} {v0 v1 v2 v3 v4 v5 v6 v7 v8 : Value} (hq : h[q]? = some (cO 10 [v0, v1, v2, v3, v4, v5, v6, v7, v8])) (hq2 : 2 ≤ q) (hk4 : key ≠ Int64.ofInt 24) (hk5 : key ≠ Int64.ofInt 25) (hf : fndK kf n key < n) (hfq : vf (fndK kf n key) = some q) {p : Nat} {pp : Int} {onx : Value} (hp : h[p]? = some (cO 4 [ii 2, ii pp, ii 0, .long key, ii 0, ii 0, ii 0, .null, onx, .null])) (hp2 : 127 ≤ p) (hca : -2147483648 ≤ ca ∧ ca ≤ 2147483647) (hH : (h.set 32 (cA 4 8192 (va_up sf t (some q)))).set 16 (mcC ((t + 1 : Nat) : Int) dp ca ou wk er pl nw vx vy dg lv lf rt) = H) : pgN xt d 167 [.ref 16, .ref p] h (fun h' => h' = H) := by
  refine x_enter pm_X1_lookUp (L0 := [(0, .ref 16), (1, .ref p)]) rfl (Nat.le_of_ble_eq_true rfl) (by omega) ?_
  refine me1 (pc' := 1) (L' := [(0, .ref 16), (1, .ref p)]) (S' := [.ref 16]) dm_X1_lookUp_0 rfl rfl rfl rfl ?_
  refine me3 (pc' := 4) (S' := [.ref 4]) dm_X1_lookUp_1 (g_get (v := .ref 4) h16 rfl rfl (by decide)) rfl rfl rfl ?_
  refine me1 (pc' := 5) (L' := [(0, .ref 16), (1, .ref p)]) (S' := [.ref p, .ref 4]) dm_X1_lookUp_4 rfl rfl rfl rfl ?_
  refine me3 (pc' := 8) (S' := [.long key, .ref 4]) dm_X1_lookUp_5 (g_get (v := .long key) hp rfl rfl (by omega)) rfl rfl rfl ?_
  refine x_cp (pc' := 11) (v := .ref q) (rest := []) dm_X1_lookUp_8 rfl (g_inv (As := [.long key]) (S := []) hN.1 rfl rfl rfl (by decide)) rfl rfl rfl (n_valueOfY (by omega) hN.1 hN.2.1 hN.2.2.1 hN.2.2.2.1 hN.2.2.2.2.1 (by decide) hN.2.2.2.2.2.1 hN.2.2.2.2.2.2.1 hf hfq) ?_
  refine me1 (pc' := 12) (L' := [(2, .ref q), (0, .ref 16), (1, .ref p)]) (S' := []) dm_X1_lookUp_11 rfl rfl rfl rfl ?_
  refine me1 (pc' := 13) (L' := [(2, .ref q), (0, .ref 16), (1, .ref p)]) (S' := [.ref p]) dm_X1_lookUp_12 rfl rfl rfl rfl ?_
  refine me3 (pc' := 16) (S' := [.long key]) dm_X1_lookUp_13 (g_get (v := .long key) hp rfl rfl (by omega)) rfl rfl rfl ?_
  refine me3 (pc' := 19) (S' := [.long (Int64.ofInt 24), .long key]) dm_X1_lookUp_16 rfl rfl rfl rfl ?_
  refine y_lne (x := key) (y := Int64.ofInt 24) (t := 31) (pc1 := 20) (pc' := 23) dm_X1_lookUp_19 rfl dm_X1_lookUp_20 rfl rfl (fun hb1 => ?_) (fun hb1 => ?_)
  · refine me1 (pc' := 32) (L' := [(2, .ref q), (0, .ref 16), (1, .ref p)]) (S' := [.ref p]) dm_X1_lookUp_31 rfl rfl rfl rfl ?_
    refine me3 (pc' := 35) (S' := [.long key]) dm_X1_lookUp_32 (g_get (v := .long key) hp rfl rfl (by omega)) rfl rfl rfl ?_
    refine me3 (pc' := 38) (S' := [.long (Int64.ofInt 25), .long key]) dm_X1_lookUp_35 rfl rfl rfl rfl ?_
    refine y_lne (x := key) (y := Int64.ofInt 25) (t := 47) (pc1 := 39) (pc' := 42) dm_X1_lookUp_38 rfl dm_X1_lookUp_39 rfl rfl (fun hb2 => ?_) (fun hb2 => ?_)
    · refine me1 (pc' := 48) (L' := [(2, .ref q), (0, .ref 16), (1, .ref p)]) (S' := [.ref q]) dm_X1_lookUp_47 rfl rfl rfl rfl ?_
      refine me2 (pc' := 60) (S' := []) dm_X1_lookUp_48 rfl rfl rfl ?_
      refine me1 (pc' := 61) (L' := [(2, .ref q), (0, .ref 16), (1, .ref p)]) (S' := [.ref 16]) dm_X1_lookUp_60 rfl rfl rfl rfl ?_
      refine me1 (pc' := 62) (L' := [(2, .ref q), (0, .ref 16), (1, .ref p)]) (S' := [.ref q, .ref 16]) dm_X1_lookUp_61 rfl rfl rfl rfl ?_
      refine x_cn (pc' := 65) (rest := []) dm_X1_lookUp_62 rfl (g_inv (As := [.ref q]) (S := []) h16 rfl rfl rfl (by decide)) rfl rfl rfl (m_push (t := t) (by omega) hq (by omega) h16 h32 ht rfl) ?_
      rintro _ rfl
      refine y_ret (r := none) dm_X1_lookUp_65 rfl rfl rfl ?_
      exact ⟨rfl, hH⟩
    · exact absurd hb2 (by exact hk5)
  · exact absurd hb1 (by exact hk4)
theorem m_lookVN {xt : mj_X} {d t : Nat} {h H : mj_H} {sf : Nat → Option Nat} {dp ca ou wk er pl lv : Int} {nw vx vy dg lf rt : Value} (hd : 3 ≤ d) (h16 : h[16]? = some (mcC (t : Int) dp ca ou wk er pl nw vx vy dg lv lf rt)) (h32 : h[32]? = some (cA 4 8192 sf)) (ht : t < 8192) {n m : Nat} {kf jf : Nat → Int64} {vf of : Nat → Option Nat} (hN : NMS h n m kf jf vf of) {key : Int64} (hk4 : key ≠ Int64.ofInt 24) (hk5 : key ≠ Int64.ofInt 25) (hf : fndK kf n key = n) {p : Nat} {pp : Int} {onx : Value} (hp : h[p]? = some (cO 4 [ii 2, ii pp, ii 0, .long key, ii 0, ii 0, ii 0, .null, onx, .null])) (hp2 : 127 ≤ p) (hca : -2147483648 ≤ ca ∧ ca ≤ 2147483647) (hH : h.set 16 (mcC (t : Int) dp ca ou wk 2 (if 0 < ca then ou else pp) nw vx vy dg lv lf rt) = H) : pgN xt d 167 [.ref 16, .ref p] h (fun h' => h' = H) := by
  refine x_enter pm_X1_lookUp (L0 := [(0, .ref 16), (1, .ref p)]) rfl (Nat.le_of_ble_eq_true rfl) (by omega) ?_
  refine me1 (pc' := 1) (L' := [(0, .ref 16), (1, .ref p)]) (S' := [.ref 16]) dm_X1_lookUp_0 rfl rfl rfl rfl ?_
  refine me3 (pc' := 4) (S' := [.ref 4]) dm_X1_lookUp_1 (g_get (v := .ref 4) h16 rfl rfl (by decide)) rfl rfl rfl ?_
  refine me1 (pc' := 5) (L' := [(0, .ref 16), (1, .ref p)]) (S' := [.ref p, .ref 4]) dm_X1_lookUp_4 rfl rfl rfl rfl ?_
  refine me3 (pc' := 8) (S' := [.long key, .ref 4]) dm_X1_lookUp_5 (g_get (v := .long key) hp rfl rfl (by omega)) rfl rfl rfl ?_
  refine x_cp (pc' := 11) (v := .null) (rest := []) dm_X1_lookUp_8 rfl (g_inv (As := [.long key]) (S := []) hN.1 rfl rfl rfl (by decide)) rfl rfl rfl (n_valueOfN (by omega) hN.1 hN.2.1 hN.2.2.1 hN.2.2.2.1 hN.2.2.2.2.1 (by decide) hN.2.2.2.2.2.1 hN.2.2.2.2.2.2.1 hf) ?_
  refine me1 (pc' := 12) (L' := [(2, .null), (0, .ref 16), (1, .ref p)]) (S' := []) dm_X1_lookUp_11 rfl rfl rfl rfl ?_
  refine me1 (pc' := 13) (L' := [(2, .null), (0, .ref 16), (1, .ref p)]) (S' := [.ref p]) dm_X1_lookUp_12 rfl rfl rfl rfl ?_
  refine me3 (pc' := 16) (S' := [.long key]) dm_X1_lookUp_13 (g_get (v := .long key) hp rfl rfl (by omega)) rfl rfl rfl ?_
  refine me3 (pc' := 19) (S' := [.long (Int64.ofInt 24), .long key]) dm_X1_lookUp_16 rfl rfl rfl rfl ?_
  refine y_lne (x := key) (y := Int64.ofInt 24) (t := 31) (pc1 := 20) (pc' := 23) dm_X1_lookUp_19 rfl dm_X1_lookUp_20 rfl rfl (fun hb1 => ?_) (fun hb1 => ?_)
  · refine me1 (pc' := 32) (L' := [(2, .null), (0, .ref 16), (1, .ref p)]) (S' := [.ref p]) dm_X1_lookUp_31 rfl rfl rfl rfl ?_
    refine me3 (pc' := 35) (S' := [.long key]) dm_X1_lookUp_32 (g_get (v := .long key) hp rfl rfl (by omega)) rfl rfl rfl ?_
    refine me3 (pc' := 38) (S' := [.long (Int64.ofInt 25), .long key]) dm_X1_lookUp_35 rfl rfl rfl rfl ?_
    refine y_lne (x := key) (y := Int64.ofInt 25) (t := 47) (pc1 := 39) (pc' := 42) dm_X1_lookUp_38 rfl dm_X1_lookUp_39 rfl rfl (fun hb2 => ?_) (fun hb2 => ?_)
    · refine me1 (pc' := 48) (L' := [(2, .null), (0, .ref 16), (1, .ref p)]) (S' := [.null]) dm_X1_lookUp_47 rfl rfl rfl rfl ?_
      refine me2 (pc' := 51) (S' := []) dm_X1_lookUp_48 rfl rfl rfl ?_
      refine me1 (pc' := 52) (L' := [(2, .null), (0, .ref 16), (1, .ref p)]) (S' := [.ref 16]) dm_X1_lookUp_51 rfl rfl rfl rfl ?_
      refine me0 (pc' := 53) (S' := [ii 2, .ref 16]) dm_X1_lookUp_52 rfl rfl rfl rfl ?_
      refine me1 (pc' := 54) (L' := [(2, .null), (0, .ref 16), (1, .ref p)]) (S' := [.ref p, ii 2, .ref 16]) dm_X1_lookUp_53 rfl rfl rfl rfl ?_
      refine x_cn (pc' := 57) (rest := []) dm_X1_lookUp_54 rfl (g_inv (As := [ii 2, .ref p]) (S := []) h16 rfl rfl rfl (by decide)) rfl rfl rfl (m_fail (c := 2) (by omega) h16 hp hp2 hca rfl) ?_
      rintro _ rfl
      refine me2 (pc' := 65) (S' := []) dm_X1_lookUp_57 rfl rfl rfl ?_
      refine y_ret (r := none) dm_X1_lookUp_65 rfl rfl rfl ?_
      exact ⟨rfl, hH⟩
    · exact absurd hb2 (by exact hk5)
  · exact absurd hb1 (by exact hk4)
