set_option maxRecDepth 20000 in
theorem pm_X1_startCall : mj_mmof pg_ms 80 = some ((⟨"ArrayCalculator$Machine", "startCall", "(LArrayCalculator$Op;)V"⟩, prog_3_method_18_code, 4, (Option.none : Option Jvm.ClassFile.FieldType)), 1, false, mj_dec prog_3_method_18_code) := rfl
theorem dm_X1_startCall_0 : mj_dec prog_3_method_18_code 0 = some (.aload_n 0, 1) := by decide +kernel
theorem dm_X1_startCall_1 : mj_dec prog_3_method_18_code 1 = some (.aconst_null, 1) := by decide +kernel
theorem dm_X1_startCall_2 : mj_dec prog_3_method_18_code 2 = some (.putfield 69, 3) := by decide +kernel
theorem dm_X1_startCall_5 : mj_dec prog_3_method_18_code 5 = some (.aload_n 0, 1) := by decide +kernel
theorem dm_X1_startCall_6 : mj_dec prog_3_method_18_code 6 = some (.getfield 42, 3) := by decide +kernel
theorem dm_X1_startCall_9 : mj_dec prog_3_method_18_code 9 = some (.aload_n 1, 1) := by decide +kernel
theorem dm_X1_startCall_10 : mj_dec prog_3_method_18_code 10 = some (.getfield 166, 3) := by decide +kernel
theorem dm_X1_startCall_13 : mj_dec prog_3_method_18_code 13 = some (.invokevirtual 218, 3) := by decide +kernel
theorem dm_X1_startCall_16 : mj_dec prog_3_method_18_code 16 = some (.astore_n 2, 1) := by decide +kernel
theorem dm_X1_startCall_17 : mj_dec prog_3_method_18_code 17 = some (.aload_n 2, 1) := by decide +kernel
theorem dm_X1_startCall_18 : mj_dec prog_3_method_18_code 18 = some (.ifnonnull 12, 3) := by decide +kernel
theorem dm_X1_startCall_21 : mj_dec prog_3_method_18_code 21 = some (.aload_n 0, 1) := by decide +kernel
theorem dm_X1_startCall_22 : mj_dec prog_3_method_18_code 22 = some (.iconst 2, 1) := by decide +kernel
theorem dm_X1_startCall_23 : mj_dec prog_3_method_18_code 23 = some (.aload_n 1, 1) := by decide +kernel
theorem dm_X1_startCall_24 : mj_dec prog_3_method_18_code 24 = some (.invokevirtual 125, 3) := by decide +kernel
theorem dm_X1_startCall_27 : mj_dec prog_3_method_18_code 27 = some (.goto 170, 3) := by decide +kernel
theorem dm_X1_startCall_197 : mj_dec prog_3_method_18_code 197 = some (.return_, 1) := by decide +kernel
theorem m_callN {xt : mj_X} {d t : Nat} {h H : mj_H} {dp ca ou wk er pl lv : Int} {nw vx vy dg lf rt : Value} (hd : 3 ≤ d) (h16 : h[16]? = some (mcC (t : Int) dp ca ou wk er pl nw vx vy dg lv lf rt)) {n m : Nat} {kf jf : Nat → Int64} {vf of : Nat → Option Nat} (hN : NMS h n m kf jf vf of) {p : Nat} {od pp oa om ot : Int} {onm : Int64} {ovl onx oot : Value} (hp : h[p]? = some (opC od pp 0 onm oa om ot ovl onx oot)) (hp2 : 127 ≤ p) (hca : -2147483648 ≤ ca ∧ ca ≤ 2147483647) (hf : fndK jf m onm = m) (hH : h.set 16 (mcC (t : Int) dp ca ou wk 2 (if 0 < ca then ou else pp) nw vx vy .null lv lf rt) = H) : pgN xt d 80 [.ref 16, .ref p] h (fun h' => h' = H) := by
  refine x_enter pm_X1_startCall (L0 := [(0, .ref 16), (1, .ref p)]) rfl (Nat.le_of_ble_eq_true rfl) (by omega) ?_
  refine me1 (pc' := 1) (L' := [(0, .ref 16), (1, .ref p)]) (S' := [.ref 16]) dm_X1_startCall_0 rfl rfl rfl rfl ?_
  refine me0 (pc' := 2) (S' := [.null, .ref 16]) dm_X1_startCall_1 rfl rfl rfl rfl ?_
  refine me3 (pc' := 5) (S' := []) (h1 := (h).set 16 (cO 1 [.ref 4, .ref 17, .ref 26, .ref 32, ii (t : Int), .ref 33, ii dp, ii ca, ii ou, ii wk, ii er, ii pl, nw, vx, vy, .null, ii lv, lf, rt])) dm_X1_startCall_2 (g_put (fs' := [.ref 4, .ref 17, .ref 26, .ref 32, ii (t : Int), .ref 33, ii dp, ii ca, ii ou, ii wk, ii er, ii pl, nw, vx, vy, .null, ii lv, lf, rt]) h16 rfl rfl rfl (by simp) rfl (by decide) (fun z => by cases z) (by decide)) rfl rfl rfl ?_
  refine me1 (pc' := 6) (L' := [(0, .ref 16), (1, .ref p)]) (S' := [.ref 16]) dm_X1_startCall_5 rfl rfl rfl rfl ?_
  refine me3 (pc' := 9) (S' := [.ref 4]) dm_X1_startCall_6 (g_get (v := .ref 4) (hl_set (hl_lt h16)) rfl rfl (by decide)) rfl rfl rfl ?_
  refine me1 (pc' := 10) (L' := [(0, .ref 16), (1, .ref p)]) (S' := [.ref p, .ref 4]) dm_X1_startCall_9 rfl rfl rfl rfl ?_
  refine me3 (pc' := 13) (S' := [.long onm, .ref 4]) dm_X1_startCall_10 (g_get (v := .long onm) (hl_ne (by omega) hp) rfl rfl (by omega)) rfl rfl rfl ?_
  refine x_cp (pc' := 16) (v := .null) (rest := []) dm_X1_startCall_13 rfl (g_inv (As := [.long onm]) (S := []) (hl_ne (by decide) hN.1) rfl rfl rfl (by decide)) rfl rfl rfl (n_functionOfN (by omega) (hl_ne (by decide) hN.1) (hl_ne (by decide) hN.2.1) (hl_ne (by decide) hN.2.2.1) (hl_ne (by decide) hN.2.2.2.1) (hl_ne (by decide) hN.2.2.2.2.1) (by decide) hN.2.2.2.2.2.1 hN.2.2.2.2.2.2.1 hf) ?_
  refine me1 (pc' := 17) (L' := [(2, .null), (0, .ref 16), (1, .ref p)]) (S' := []) dm_X1_startCall_16 rfl rfl rfl rfl ?_
  refine me1 (pc' := 18) (L' := [(2, .null), (0, .ref 16), (1, .ref p)]) (S' := [.null]) dm_X1_startCall_17 rfl rfl rfl rfl ?_
  refine me2 (pc' := 21) (S' := []) dm_X1_startCall_18 rfl rfl rfl ?_
  refine me1 (pc' := 22) (L' := [(2, .null), (0, .ref 16), (1, .ref p)]) (S' := [.ref 16]) dm_X1_startCall_21 rfl rfl rfl rfl ?_
  refine me0 (pc' := 23) (S' := [ii 2, .ref 16]) dm_X1_startCall_22 rfl rfl rfl rfl ?_
  refine me1 (pc' := 24) (L' := [(2, .null), (0, .ref 16), (1, .ref p)]) (S' := [.ref p, ii 2, .ref 16]) dm_X1_startCall_23 rfl rfl rfl rfl ?_
  refine x_cn (pc' := 27) (rest := []) dm_X1_startCall_24 rfl (g_inv (As := [ii 2, .ref p]) (S := []) (hl_set (hl_lt h16)) rfl rfl rfl (by decide)) rfl rfl rfl (m_fail (c := 2) (by omega) (hl_set (hl_lt h16)) (hl_ne (by omega) hp) hp2 hca (by rw [List.set_set])) ?_
  rintro _ rfl
  refine me2 (pc' := 197) (S' := []) dm_X1_startCall_27 rfl rfl rfl ?_
  refine y_ret (r := none) dm_X1_startCall_197 rfl rfl rfl ?_
  exact ⟨rfl, hH⟩
theorem dm_X1_startCall_30 : mj_dec prog_3_method_18_code 30 = some (.aload_n 0, 1) := by decide +kernel
theorem dm_X1_startCall_31 : mj_dec prog_3_method_18_code 31 = some (.getfield 59, 3) := by decide +kernel
theorem dm_X1_startCall_34 : mj_dec prog_3_method_18_code 34 = some (.bipush 10, 2) := by decide +kernel
theorem dm_X1_startCall_36 : mj_dec prog_3_method_18_code 36 = some (.if_icmp .ge 15, 3) := by decide +kernel
theorem dm_X1_startCall_51 : mj_dec prog_3_method_18_code 51 = some (.aload_n 0, 1) := by decide +kernel
theorem dm_X1_startCall_52 : mj_dec prog_3_method_18_code 52 = some (.bipush 9, 2) := by decide +kernel
theorem dm_X1_startCall_54 : mj_dec prog_3_method_18_code 54 = some (.aload_n 1, 1) := by decide +kernel
theorem dm_X1_startCall_55 : mj_dec prog_3_method_18_code 55 = some (.invokevirtual 125, 3) := by decide +kernel
theorem dm_X1_startCall_58 : mj_dec prog_3_method_18_code 58 = some (.goto 139, 3) := by decide +kernel
theorem m_callD {xt : mj_X} {d t : Nat} {h H : mj_H} {dp ca ou wk er pl lv : Int} {nw vx vy dg lf rt : Value} (hd : 3 ≤ d) (h16 : h[16]? = some (mcC (t : Int) dp ca ou wk er pl nw vx vy dg lv lf rt)) {n m : Nat} {kf jf : Nat → Int64} {vf of : Nat → Option Nat} (hN : NMS h n m kf jf vf of) {p : Nat} {od pp oa om ot : Int} {onm : Int64} {ovl onx oot : Value} (hp : h[p]? = some (opC od pp 0 onm oa om ot ovl onx oot)) (hp2 : 127 ≤ p) (hca : -2147483648 ≤ ca ∧ ca ≤ 2147483647) {qf : Nat} (hf : fndK jf m onm < m) (hfq : of (fndK jf m onm) = some qf) (hca9 : 10 ≤ ca) (hH : h.set 16 (mcC (t : Int) dp ca ou wk 9 (if 0 < ca then ou else pp) nw vx vy .null lv lf rt) = H) : pgN xt d 80 [.ref 16, .ref p] h (fun h' => h' = H) := by
  refine x_enter pm_X1_startCall (L0 := [(0, .ref 16), (1, .ref p)]) rfl (Nat.le_of_ble_eq_true rfl) (by omega) ?_
  refine me1 (pc' := 1) (L' := [(0, .ref 16), (1, .ref p)]) (S' := [.ref 16]) dm_X1_startCall_0 rfl rfl rfl rfl ?_
  refine me0 (pc' := 2) (S' := [.null, .ref 16]) dm_X1_startCall_1 rfl rfl rfl rfl ?_
  refine me3 (pc' := 5) (S' := []) (h1 := (h).set 16 (cO 1 [.ref 4, .ref 17, .ref 26, .ref 32, ii (t : Int), .ref 33, ii dp, ii ca, ii ou, ii wk, ii er, ii pl, nw, vx, vy, .null, ii lv, lf, rt])) dm_X1_startCall_2 (g_put (fs' := [.ref 4, .ref 17, .ref 26, .ref 32, ii (t : Int), .ref 33, ii dp, ii ca, ii ou, ii wk, ii er, ii pl, nw, vx, vy, .null, ii lv, lf, rt]) h16 rfl rfl rfl (by simp) rfl (by decide) (fun z => by cases z) (by decide)) rfl rfl rfl ?_
  refine me1 (pc' := 6) (L' := [(0, .ref 16), (1, .ref p)]) (S' := [.ref 16]) dm_X1_startCall_5 rfl rfl rfl rfl ?_
  refine me3 (pc' := 9) (S' := [.ref 4]) dm_X1_startCall_6 (g_get (v := .ref 4) (hl_set (hl_lt h16)) rfl rfl (by decide)) rfl rfl rfl ?_
  refine me1 (pc' := 10) (L' := [(0, .ref 16), (1, .ref p)]) (S' := [.ref p, .ref 4]) dm_X1_startCall_9 rfl rfl rfl rfl ?_
  refine me3 (pc' := 13) (S' := [.long onm, .ref 4]) dm_X1_startCall_10 (g_get (v := .long onm) (hl_ne (by omega) hp) rfl rfl (by omega)) rfl rfl rfl ?_
  refine x_cp (pc' := 16) (v := .ref qf) (rest := []) dm_X1_startCall_13 rfl (g_inv (As := [.long onm]) (S := []) (hl_ne (by decide) hN.1) rfl rfl rfl (by decide)) rfl rfl rfl (n_functionOfY (by omega) (hl_ne (by decide) hN.1) (hl_ne (by decide) hN.2.1) (hl_ne (by decide) hN.2.2.1) (hl_ne (by decide) hN.2.2.2.1) (hl_ne (by decide) hN.2.2.2.2.1) (by decide) hN.2.2.2.2.2.1 hN.2.2.2.2.2.2.1 hf hfq) ?_
  refine me1 (pc' := 17) (L' := [(2, .ref qf), (0, .ref 16), (1, .ref p)]) (S' := []) dm_X1_startCall_16 rfl rfl rfl rfl ?_
  refine me1 (pc' := 18) (L' := [(2, .ref qf), (0, .ref 16), (1, .ref p)]) (S' := [.ref qf]) dm_X1_startCall_17 rfl rfl rfl rfl ?_
  refine me2 (pc' := 30) (S' := []) dm_X1_startCall_18 rfl rfl rfl ?_
  refine me1 (pc' := 31) (L' := [(2, .ref qf), (0, .ref 16), (1, .ref p)]) (S' := [.ref 16]) dm_X1_startCall_30 rfl rfl rfl rfl ?_
  refine me3 (pc' := 34) (S' := [ii ca]) dm_X1_startCall_31 (g_get (v := ii ca) (hl_set (hl_lt h16)) rfl rfl (by decide)) rfl rfl rfl ?_
  refine me0 (pc' := 36) (S' := [ii 10, ii ca]) dm_X1_startCall_34 rfl rfl rfl rfl ?_
  refine y_2ge (a := ca) (b := 10) (t := 51) (pc' := 39) dm_X1_startCall_36 rfl rfl (by omega) (fun hb1 => ?_) (fun hb1 => ?_)
  · refine me1 (pc' := 52) (L' := [(2, .ref qf), (0, .ref 16), (1, .ref p)]) (S' := [.ref 16]) dm_X1_startCall_51 rfl rfl rfl rfl ?_
    refine me0 (pc' := 54) (S' := [ii 9, .ref 16]) dm_X1_startCall_52 rfl rfl rfl rfl ?_
    refine me1 (pc' := 55) (L' := [(2, .ref qf), (0, .ref 16), (1, .ref p)]) (S' := [.ref p, ii 9, .ref 16]) dm_X1_startCall_54 rfl rfl rfl rfl ?_
    refine x_cn (pc' := 58) (rest := []) dm_X1_startCall_55 rfl (g_inv (As := [ii 9, .ref p]) (S := []) (hl_set (hl_lt h16)) rfl rfl rfl (by decide)) rfl rfl rfl (m_fail (c := 9) (by omega) (hl_set (hl_lt h16)) (hl_ne (by omega) hp) hp2 hca (by rw [List.set_set])) ?_
    rintro _ rfl
    refine me2 (pc' := 197) (S' := []) dm_X1_startCall_58 rfl rfl rfl ?_
    refine y_ret (r := none) dm_X1_startCall_197 rfl rfl rfl ?_
    exact ⟨rfl, hH⟩
  · exfalso; omega
theorem dm_X1_startCall_39 : mj_dec prog_3_method_18_code 39 = some (.aload_n 0, 1) := by decide +kernel
theorem dm_X1_startCall_40 : mj_dec prog_3_method_18_code 40 = some (.getfield 56, 3) := by decide +kernel
theorem dm_X1_startCall_43 : mj_dec prog_3_method_18_code 43 = some (.aload_n 0, 1) := by decide +kernel
theorem dm_X1_startCall_44 : mj_dec prog_3_method_18_code 44 = some (.getfield 33, 3) := by decide +kernel
theorem dm_X1_startCall_47 : mj_dec prog_3_method_18_code 47 = some (.arraylength, 1) := by decide +kernel
theorem dm_X1_startCall_48 : mj_dec prog_3_method_18_code 48 = some (.if_icmp .lt 13, 3) := by decide +kernel
theorem dm_X1_startCall_61 : mj_dec prog_3_method_18_code 61 = some (.aload_n 0, 1) := by decide +kernel
theorem dm_X1_startCall_62 : mj_dec prog_3_method_18_code 62 = some (.iconst 5, 1) := by decide +kernel
theorem dm_X1_startCall_63 : mj_dec prog_3_method_18_code 63 = some (.aload_n 1, 1) := by decide +kernel
theorem dm_X1_startCall_64 : mj_dec prog_3_method_18_code 64 = some (.invokevirtual 192, 3) := by decide +kernel
theorem dm_X1_startCall_67 : mj_dec prog_3_method_18_code 67 = some (.ifCond .eq 130, 3) := by decide +kernel
theorem m_callW {xt : mj_X} {d t : Nat} {h H : mj_H} {dp ca ou wk er pl lv : Int} {nw vx vy dg lf rt : Value} (hd : 3 ≤ d) (h16 : h[16]? = some (mcC (t : Int) dp ca ou wk er pl nw vx vy dg lv lf rt)) {n m : Nat} {kf jf : Nat → Int64} {vf of : Nat → Option Nat} (hN : NMS h n m kf jf vf of) {p : Nat} {od pp oa om ot : Int} {onm : Int64} {ovl onx oot : Value} (hp : h[p]? = some (opC od pp 0 onm oa om ot ovl onx oot)) (hp2 : 127 ≤ p) (hca : -2147483648 ≤ ca ∧ ca ≤ 2147483647) {qf : Nat} (hf : fndK jf m onm < m) (hfq : of (fndK jf m onm) = some qf) (hca9 : ca < 10) (hwk : 0 ≤ wk ∧ wk ≤ 1000000) (hle : wk < 5) (hdp : 0 ≤ dp ∧ dp < 64) {ff : Nat → Option Nat} (h33 : h[33]? = some (cA 7 64 ff)) (hH : h.set 16 (mcC (t : Int) dp ca ou wk 10 (if 0 < ca then ou else pp) nw vx vy .null lv lf rt) = H) : pgN xt d 80 [.ref 16, .ref p] h (fun h' => h' = H) := by
  refine x_enter pm_X1_startCall (L0 := [(0, .ref 16), (1, .ref p)]) rfl (Nat.le_of_ble_eq_true rfl) (by omega) ?_
  refine me1 (pc' := 1) (L' := [(0, .ref 16), (1, .ref p)]) (S' := [.ref 16]) dm_X1_startCall_0 rfl rfl rfl rfl ?_
  refine me0 (pc' := 2) (S' := [.null, .ref 16]) dm_X1_startCall_1 rfl rfl rfl rfl ?_
  refine me3 (pc' := 5) (S' := []) (h1 := (h).set 16 (cO 1 [.ref 4, .ref 17, .ref 26, .ref 32, ii (t : Int), .ref 33, ii dp, ii ca, ii ou, ii wk, ii er, ii pl, nw, vx, vy, .null, ii lv, lf, rt])) dm_X1_startCall_2 (g_put (fs' := [.ref 4, .ref 17, .ref 26, .ref 32, ii (t : Int), .ref 33, ii dp, ii ca, ii ou, ii wk, ii er, ii pl, nw, vx, vy, .null, ii lv, lf, rt]) h16 rfl rfl rfl (by simp) rfl (by decide) (fun z => by cases z) (by decide)) rfl rfl rfl ?_
  refine me1 (pc' := 6) (L' := [(0, .ref 16), (1, .ref p)]) (S' := [.ref 16]) dm_X1_startCall_5 rfl rfl rfl rfl ?_
  refine me3 (pc' := 9) (S' := [.ref 4]) dm_X1_startCall_6 (g_get (v := .ref 4) (hl_set (hl_lt h16)) rfl rfl (by decide)) rfl rfl rfl ?_
  refine me1 (pc' := 10) (L' := [(0, .ref 16), (1, .ref p)]) (S' := [.ref p, .ref 4]) dm_X1_startCall_9 rfl rfl rfl rfl ?_
  refine me3 (pc' := 13) (S' := [.long onm, .ref 4]) dm_X1_startCall_10 (g_get (v := .long onm) (hl_ne (by omega) hp) rfl rfl (by omega)) rfl rfl rfl ?_
  refine x_cp (pc' := 16) (v := .ref qf) (rest := []) dm_X1_startCall_13 rfl (g_inv (As := [.long onm]) (S := []) (hl_ne (by decide) hN.1) rfl rfl rfl (by decide)) rfl rfl rfl (n_functionOfY (by omega) (hl_ne (by decide) hN.1) (hl_ne (by decide) hN.2.1) (hl_ne (by decide) hN.2.2.1) (hl_ne (by decide) hN.2.2.2.1) (hl_ne (by decide) hN.2.2.2.2.1) (by decide) hN.2.2.2.2.2.1 hN.2.2.2.2.2.2.1 hf hfq) ?_
  refine me1 (pc' := 17) (L' := [(2, .ref qf), (0, .ref 16), (1, .ref p)]) (S' := []) dm_X1_startCall_16 rfl rfl rfl rfl ?_
  refine me1 (pc' := 18) (L' := [(2, .ref qf), (0, .ref 16), (1, .ref p)]) (S' := [.ref qf]) dm_X1_startCall_17 rfl rfl rfl rfl ?_
  refine me2 (pc' := 30) (S' := []) dm_X1_startCall_18 rfl rfl rfl ?_
  refine me1 (pc' := 31) (L' := [(2, .ref qf), (0, .ref 16), (1, .ref p)]) (S' := [.ref 16]) dm_X1_startCall_30 rfl rfl rfl rfl ?_
  refine me3 (pc' := 34) (S' := [ii ca]) dm_X1_startCall_31 (g_get (v := ii ca) (hl_set (hl_lt h16)) rfl rfl (by decide)) rfl rfl rfl ?_
  refine me0 (pc' := 36) (S' := [ii 10, ii ca]) dm_X1_startCall_34 rfl rfl rfl rfl ?_
  refine y_2ge (a := ca) (b := 10) (t := 51) (pc' := 39) dm_X1_startCall_36 rfl rfl (by omega) (fun hb1 => ?_) (fun hb1 => ?_)
  · exfalso; omega
  · refine me1 (pc' := 40) (L' := [(2, .ref qf), (0, .ref 16), (1, .ref p)]) (S' := [.ref 16]) dm_X1_startCall_39 rfl rfl rfl rfl ?_
    refine me3 (pc' := 43) (S' := [ii dp]) dm_X1_startCall_40 (g_get (v := ii dp) (hl_set (hl_lt h16)) rfl rfl (by decide)) rfl rfl rfl ?_
    refine me1 (pc' := 44) (L' := [(2, .ref qf), (0, .ref 16), (1, .ref p)]) (S' := [.ref 16, ii dp]) dm_X1_startCall_43 rfl rfl rfl rfl ?_
    refine me3 (pc' := 47) (S' := [.ref 33, ii dp]) dm_X1_startCall_44 (g_get (v := .ref 33) (hl_set (hl_lt h16)) rfl rfl (by decide)) rfl rfl rfl ?_
    refine me3 (pc' := 48) (S' := [ii 64, ii dp]) dm_X1_startCall_47 (yh_len (n := 64) rfl (hl_ne (by decide) h33) (by decide)) rfl rfl rfl ?_
    refine y_2lt (a := dp) (b := 64) (t := 61) (pc' := 51) dm_X1_startCall_48 rfl rfl (by omega) (fun hb2 => ?_) (fun hb2 => ?_)
    · refine me1 (pc' := 62) (L' := [(2, .ref qf), (0, .ref 16), (1, .ref p)]) (S' := [.ref 16]) dm_X1_startCall_61 rfl rfl rfl rfl ?_
      refine me0 (pc' := 63) (S' := [ii 5, .ref 16]) dm_X1_startCall_62 rfl rfl rfl rfl ?_
      refine me1 (pc' := 64) (L' := [(2, .ref qf), (0, .ref 16), (1, .ref p)]) (S' := [.ref p, ii 5, .ref 16]) dm_X1_startCall_63 rfl rfl rfl rfl ?_
      refine x_cv (pc' := 67) (rest := []) dm_X1_startCall_64 rfl (g_inv (As := [ii 5, .ref p]) (S := []) (hl_set (hl_lt h16)) rfl rfl rfl (by decide)) rfl rfl rfl (m_takeF (n := 5) (by omega) (hl_set (hl_lt h16)) (hl_ne (by omega) hp) hp2 hca (by decide) hwk hle (by rw [List.set_set])) ?_
      rintro _ _ ⟨rfl, rfl⟩
      refine me_1t (pc' := 197) dm_X1_startCall_67 rfl (by decide) ?_
      refine y_ret (r := none) dm_X1_startCall_197 rfl rfl rfl ?_
      exact ⟨rfl, hH⟩
    · exfalso; omega
theorem dm_X1_startCall_70 : mj_dec prog_3_method_18_code 70 = some (.aload_n 0, 1) := by decide +kernel
theorem dm_X1_startCall_71 : mj_dec prog_3_method_18_code 71 = some (.aload_n 0, 1) := by decide +kernel
theorem dm_X1_startCall_72 : mj_dec prog_3_method_18_code 72 = some (.getfield 59, 3) := by decide +kernel
theorem dm_X1_startCall_75 : mj_dec prog_3_method_18_code 75 = some (.ifCond .ne 10, 3) := by decide +kernel
theorem dm_X1_startCall_78 : mj_dec prog_3_method_18_code 78 = some (.aload_n 1, 1) := by decide +kernel
theorem dm_X1_startCall_79 : mj_dec prog_3_method_18_code 79 = some (.getfield 124, 3) := by decide +kernel
theorem dm_X1_startCall_82 : mj_dec prog_3_method_18_code 82 = some (.goto 7, 3) := by decide +kernel
theorem dm_X1_startCall_85 : mj_dec prog_3_method_18_code 85 = some (.aload_n 0, 1) := by decide +kernel
theorem dm_X1_startCall_86 : mj_dec prog_3_method_18_code 86 = some (.getfield 121, 3) := by decide +kernel
theorem dm_X1_startCall_89 : mj_dec prog_3_method_18_code 89 = some (.putfield 121, 3) := by decide +kernel
theorem dm_X1_startCall_92 : mj_dec prog_3_method_18_code 92 = some (.aload_n 0, 1) := by decide +kernel
theorem dm_X1_startCall_93 : mj_dec prog_3_method_18_code 93 = some (.dup, 1) := by decide +kernel
theorem dm_X1_startCall_94 : mj_dec prog_3_method_18_code 94 = some (.getfield 59, 3) := by decide +kernel
theorem dm_X1_startCall_97 : mj_dec prog_3_method_18_code 97 = some (.iconst 1, 1) := by decide +kernel
theorem dm_X1_startCall_98 : mj_dec prog_3_method_18_code 98 = some (.iadd, 1) := by decide +kernel
theorem dm_X1_startCall_99 : mj_dec prog_3_method_18_code 99 = some (.putfield 59, 3) := by decide +kernel
theorem dm_X1_startCall_102 : mj_dec prog_3_method_18_code 102 = some (.aload_n 0, 1) := by decide +kernel
theorem dm_X1_startCall_103 : mj_dec prog_3_method_18_code 103 = some (.getfield 33, 3) := by decide +kernel
theorem dm_X1_startCall_106 : mj_dec prog_3_method_18_code 106 = some (.aload_n 0, 1) := by decide +kernel
theorem dm_X1_startCall_107 : mj_dec prog_3_method_18_code 107 = some (.getfield 56, 3) := by decide +kernel
theorem dm_X1_startCall_110 : mj_dec prog_3_method_18_code 110 = some (.aaload, 1) := by decide +kernel
theorem dm_X1_startCall_111 : mj_dec prog_3_method_18_code 111 = some (.astore_n 3, 1) := by decide +kernel
theorem dm_X1_startCall_112 : mj_dec prog_3_method_18_code 112 = some (.aload_n 0, 1) := by decide +kernel
theorem dm_X1_startCall_113 : mj_dec prog_3_method_18_code 113 = some (.dup, 1) := by decide +kernel
theorem dm_X1_startCall_114 : mj_dec prog_3_method_18_code 114 = some (.getfield 56, 3) := by decide +kernel
theorem dm_X1_startCall_117 : mj_dec prog_3_method_18_code 117 = some (.iconst 1, 1) := by decide +kernel
theorem dm_X1_startCall_118 : mj_dec prog_3_method_18_code 118 = some (.iadd, 1) := by decide +kernel
theorem dm_X1_startCall_119 : mj_dec prog_3_method_18_code 119 = some (.putfield 56, 3) := by decide +kernel
theorem dm_X1_startCall_122 : mj_dec prog_3_method_18_code 122 = some (.aload_n 3, 1) := by decide +kernel
theorem dm_X1_startCall_123 : mj_dec prog_3_method_18_code 123 = some (.iconst 0, 1) := by decide +kernel
theorem dm_X1_startCall_124 : mj_dec prog_3_method_18_code 124 = some (.putfield 102, 3) := by decide +kernel
theorem dm_X1_startCall_127 : mj_dec prog_3_method_18_code 127 = some (.aload_n 3, 1) := by decide +kernel
theorem dm_X1_startCall_128 : mj_dec prog_3_method_18_code 128 = some (.aload_n 0, 1) := by decide +kernel
theorem dm_X1_startCall_129 : mj_dec prog_3_method_18_code 129 = some (.getfield 73, 3) := by decide +kernel
theorem dm_X1_startCall_132 : mj_dec prog_3_method_18_code 132 = some (.putfield 222, 3) := by decide +kernel
theorem dm_X1_startCall_135 : mj_dec prog_3_method_18_code 135 = some (.aload_n 3, 1) := by decide +kernel
theorem dm_X1_startCall_136 : mj_dec prog_3_method_18_code 136 = some (.aload_n 0, 1) := by decide +kernel
theorem dm_X1_startCall_137 : mj_dec prog_3_method_18_code 137 = some (.getfield 62, 3) := by decide +kernel
theorem dm_X1_startCall_140 : mj_dec prog_3_method_18_code 140 = some (.putfield 225, 3) := by decide +kernel
theorem dm_X1_startCall_143 : mj_dec prog_3_method_18_code 143 = some (.aload_n 3, 1) := by decide +kernel
theorem dm_X1_startCall_144 : mj_dec prog_3_method_18_code 144 = some (.aload_n 0, 1) := by decide +kernel
theorem dm_X1_startCall_145 : mj_dec prog_3_method_18_code 145 = some (.getfield 66, 3) := by decide +kernel
theorem dm_X1_startCall_148 : mj_dec prog_3_method_18_code 148 = some (.putfield 226, 3) := by decide +kernel
theorem dm_X1_startCall_151 : mj_dec prog_3_method_18_code 151 = some (.aload_n 0, 1) := by decide +kernel
theorem dm_X1_startCall_152 : mj_dec prog_3_method_18_code 152 = some (.aload_n 2, 1) := by decide +kernel
theorem dm_X1_startCall_153 : mj_dec prog_3_method_18_code 153 = some (.putfield 73, 3) := by decide +kernel
theorem dm_X1_startCall_156 : mj_dec prog_3_method_18_code 156 = some (.aload_n 0, 1) := by decide +kernel
theorem dm_X1_startCall_157 : mj_dec prog_3_method_18_code 157 = some (.aload_n 0, 1) := by decide +kernel
theorem dm_X1_startCall_158 : mj_dec prog_3_method_18_code 158 = some (.getfield 80, 3) := by decide +kernel
theorem dm_X1_startCall_161 : mj_dec prog_3_method_18_code 161 = some (.ifnonnull 10, 3) := by decide +kernel
theorem dm_X1_startCall_171 : mj_dec prog_3_method_18_code 171 = some (.aload_n 0, 1) := by decide +kernel
theorem dm_X1_startCall_172 : mj_dec prog_3_method_18_code 172 = some (.getfield 80, 3) := by decide +kernel
theorem dm_X1_startCall_175 : mj_dec prog_3_method_18_code 175 = some (.putfield 62, 3) := by decide +kernel
theorem dm_X1_startCall_178 : mj_dec prog_3_method_18_code 178 = some (.aload_n 0, 1) := by decide +kernel
theorem dm_X1_startCall_179 : mj_dec prog_3_method_18_code 179 = some (.aload_n 0, 1) := by decide +kernel
theorem dm_X1_startCall_180 : mj_dec prog_3_method_18_code 180 = some (.getfield 80, 3) := by decide +kernel
theorem dm_X1_startCall_183 : mj_dec prog_3_method_18_code 183 = some (.ifnonnull 7, 3) := by decide +kernel
theorem dm_X1_startCall_190 : mj_dec prog_3_method_18_code 190 = some (.aload_n 0, 1) := by decide +kernel
theorem dm_X1_startCall_191 : mj_dec prog_3_method_18_code 191 = some (.getfield 83, 3) := by decide +kernel
theorem dm_X1_startCall_194 : mj_dec prog_3_method_18_code 194 = some (.putfield 66, 3) := by decide +kernel
theorem m_callKT {xt : mj_X} {d t dq qw fr ql : Nat} {h H : mj_H} {ca ou wk er pl lv : Int} {dg : Value} {bn bx by_ : Option Nat} (hd : 3 ≤ d) (h16 : h[16]? = some (mcC (t : Int) (dq : Int) ca ou wk er pl (oV bn) (oV bx) (oV by_) dg lv (.ref ql) (.ref qw))) {n m : Nat} {kf jf : Nat → Int64} {vf of : Nat → Option Nat} (hN : NMS h n m kf jf vf of) {p : Nat} {od pp oa om ot : Int} {onm : Int64} {ovl onx oot : Value} (hp : h[p]? = some (opC od pp 0 onm oa om ot ovl onx oot)) (hp2 : 127 ≤ p) (hca : -2147483648 ≤ ca ∧ ca ≤ 2147483647) {qf : Nat} (hf : fndK jf m onm < m) (hfq : of (fndK jf m onm) = some qf) (hca9 : ca < 10) (hwk : 0 ≤ wk ∧ wk ≤ 1000000) (hle : 5 ≤ wk) (hdq : dq < 64) {ff : Nat → Option Nat} (h33 : h[33]? = some (cA 7 64 ff)) (hff : ff dq = some fr) (hfr2 : 34 ≤ fr ∧ fr ≤ 97) {fl fn fm fb : Int} {fo fx fy : Value} (hfr : h[fr]? = some (cO 0 [ii fl, fo, fx, fy, ii fn, ii fm, ii fb])) (hH : (h.set 16 (mcC (t : Int) ((dq : Int) + 1) (ca + 1) (if ca = 0 then pp else ou) (wk - 5) er pl (.ref qf) (.ref ql) (.ref qw) .null lv (.ref ql) (.ref qw))).set fr (cO 0 [ii 0, oV bn, oV bx, oV by_, ii fn, ii fm, ii fb]) = H) : pgN xt d 80 [.ref 16, .ref p] h (fun h' => h' = H) := by
  refine x_enter pm_X1_startCall (L0 := [(0, .ref 16), (1, .ref p)]) rfl (Nat.le_of_ble_eq_true rfl) (by omega) ?_
  refine me1 (pc' := 1) (L' := [(0, .ref 16), (1, .ref p)]) (S' := [.ref 16]) dm_X1_startCall_0 rfl rfl rfl rfl ?_
  refine me0 (pc' := 2) (S' := [.null, .ref 16]) dm_X1_startCall_1 rfl rfl rfl rfl ?_
  refine me3 (pc' := 5) (S' := []) (h1 := (h).set 16 (cO 1 [.ref 4, .ref 17, .ref 26, .ref 32, ii (t : Int), .ref 33, ii (dq : Int), ii ca, ii ou, ii wk, ii er, ii pl, oV bn, oV bx, oV by_, .null, ii lv, .ref ql, .ref qw])) dm_X1_startCall_2 (g_put (fs' := [.ref 4, .ref 17, .ref 26, .ref 32, ii (t : Int), .ref 33, ii (dq : Int), ii ca, ii ou, ii wk, ii er, ii pl, oV bn, oV bx, oV by_, .null, ii lv, .ref ql, .ref qw]) h16 rfl rfl rfl (by simp) rfl (by decide) (fun z => by cases z) (by decide)) rfl rfl rfl ?_
  refine me1 (pc' := 6) (L' := [(0, .ref 16), (1, .ref p)]) (S' := [.ref 16]) dm_X1_startCall_5 rfl rfl rfl rfl ?_
  refine me3 (pc' := 9) (S' := [.ref 4]) dm_X1_startCall_6 (g_get (v := .ref 4) (hl_set (hl_lt h16)) rfl rfl (by decide)) rfl rfl rfl ?_
  refine me1 (pc' := 10) (L' := [(0, .ref 16), (1, .ref p)]) (S' := [.ref p, .ref 4]) dm_X1_startCall_9 rfl rfl rfl rfl ?_
  refine me3 (pc' := 13) (S' := [.long onm, .ref 4]) dm_X1_startCall_10 (g_get (v := .long onm) (hl_ne (by omega) hp) rfl rfl (by omega)) rfl rfl rfl ?_
  refine x_cp (pc' := 16) (v := .ref qf) (rest := []) dm_X1_startCall_13 rfl (g_inv (As := [.long onm]) (S := []) (hl_ne (by decide) hN.1) rfl rfl rfl (by decide)) rfl rfl rfl (n_functionOfY (by omega) (hl_ne (by decide) hN.1) (hl_ne (by decide) hN.2.1) (hl_ne (by decide) hN.2.2.1) (hl_ne (by decide) hN.2.2.2.1) (hl_ne (by decide) hN.2.2.2.2.1) (by decide) hN.2.2.2.2.2.1 hN.2.2.2.2.2.2.1 hf hfq) ?_
  refine me1 (pc' := 17) (L' := [(2, .ref qf), (0, .ref 16), (1, .ref p)]) (S' := []) dm_X1_startCall_16 rfl rfl rfl rfl ?_
  refine me1 (pc' := 18) (L' := [(2, .ref qf), (0, .ref 16), (1, .ref p)]) (S' := [.ref qf]) dm_X1_startCall_17 rfl rfl rfl rfl ?_
  refine me2 (pc' := 30) (S' := []) dm_X1_startCall_18 rfl rfl rfl ?_
  refine me1 (pc' := 31) (L' := [(2, .ref qf), (0, .ref 16), (1, .ref p)]) (S' := [.ref 16]) dm_X1_startCall_30 rfl rfl rfl rfl ?_
  refine me3 (pc' := 34) (S' := [ii ca]) dm_X1_startCall_31 (g_get (v := ii ca) (hl_set (hl_lt h16)) rfl rfl (by decide)) rfl rfl rfl ?_
  refine me0 (pc' := 36) (S' := [ii 10, ii ca]) dm_X1_startCall_34 rfl rfl rfl rfl ?_
  refine y_2ge (a := ca) (b := 10) (t := 51) (pc' := 39) dm_X1_startCall_36 rfl rfl (by omega) (fun hb1 => ?_) (fun hb1 => ?_)
  · exfalso; omega
  · refine me1 (pc' := 40) (L' := [(2, .ref qf), (0, .ref 16), (1, .ref p)]) (S' := [.ref 16]) dm_X1_startCall_39 rfl rfl rfl rfl ?_
    refine me3 (pc' := 43) (S' := [ii (dq : Int)]) dm_X1_startCall_40 (g_get (v := ii (dq : Int)) (hl_set (hl_lt h16)) rfl rfl (by decide)) rfl rfl rfl ?_
    refine me1 (pc' := 44) (L' := [(2, .ref qf), (0, .ref 16), (1, .ref p)]) (S' := [.ref 16, ii (dq : Int)]) dm_X1_startCall_43 rfl rfl rfl rfl ?_
    refine me3 (pc' := 47) (S' := [.ref 33, ii (dq : Int)]) dm_X1_startCall_44 (g_get (v := .ref 33) (hl_set (hl_lt h16)) rfl rfl (by decide)) rfl rfl rfl ?_
    refine me3 (pc' := 48) (S' := [ii 64, ii (dq : Int)]) dm_X1_startCall_47 (yh_len (n := 64) rfl (hl_ne (by decide) h33) (by decide)) rfl rfl rfl ?_
    refine y_2lt (a := (dq : Int)) (b := 64) (t := 61) (pc' := 51) dm_X1_startCall_48 rfl rfl (by omega) (fun hb2 => ?_) (fun hb2 => ?_)
    · refine me1 (pc' := 62) (L' := [(2, .ref qf), (0, .ref 16), (1, .ref p)]) (S' := [.ref 16]) dm_X1_startCall_61 rfl rfl rfl rfl ?_
      refine me0 (pc' := 63) (S' := [ii 5, .ref 16]) dm_X1_startCall_62 rfl rfl rfl rfl ?_
      refine me1 (pc' := 64) (L' := [(2, .ref qf), (0, .ref 16), (1, .ref p)]) (S' := [.ref p, ii 5, .ref 16]) dm_X1_startCall_63 rfl rfl rfl rfl ?_
      refine x_cv (pc' := 67) (rest := []) dm_X1_startCall_64 rfl (g_inv (As := [ii 5, .ref p]) (S := []) (hl_set (hl_lt h16)) rfl rfl rfl (by decide)) rfl rfl rfl (m_takeT (n := 5) (by omega) (hl_set (hl_lt h16)) (hl_ne (by omega) hp) hp2 hca (by decide) hwk hle (by rw [List.set_set])) ?_
      rintro _ _ ⟨rfl, rfl⟩
      refine me_1f (pc' := 70) dm_X1_startCall_67 rfl (by decide) rfl ?_
      refine me1 (pc' := 71) (L' := [(2, .ref qf), (0, .ref 16), (1, .ref p)]) (S' := [.ref 16]) dm_X1_startCall_70 rfl rfl rfl rfl ?_
      refine me1 (pc' := 72) (L' := [(2, .ref qf), (0, .ref 16), (1, .ref p)]) (S' := [.ref 16, .ref 16]) dm_X1_startCall_71 rfl rfl rfl rfl ?_
      refine me3 (pc' := 75) (S' := [ii ca, .ref 16]) dm_X1_startCall_72 (g_get (v := ii ca) (hl_set (hl_lt h16)) rfl rfl (by decide)) rfl rfl rfl ?_
      refine y_1ne (a := ca) (t := 85) (pc' := 78) dm_X1_startCall_75 rfl rfl (by omega) (fun hb3 => ?_) (fun hb3 => ?_)
      · refine me1 (pc' := 86) (L' := [(2, .ref qf), (0, .ref 16), (1, .ref p)]) (S' := [.ref 16, .ref 16]) dm_X1_startCall_85 rfl rfl rfl rfl ?_
        refine me3 (pc' := 89) (S' := [ii ou, .ref 16]) dm_X1_startCall_86 (g_get (v := ii ou) (hl_set (hl_lt h16)) rfl rfl (by decide)) rfl rfl rfl ?_
        refine me3 (pc' := 92) (S' := []) (h1 := (h).set 16 (cO 1 [.ref 4, .ref 17, .ref 26, .ref 32, ii (t : Int), .ref 33, ii (dq : Int), ii ca, ii ou, ii (wk - 5), ii er, ii pl, oV bn, oV bx, oV by_, .null, ii lv, .ref ql, .ref qw])) dm_X1_startCall_89 (g_put (fs' := [.ref 4, .ref 17, .ref 26, .ref 32, ii (t : Int), .ref 33, ii (dq : Int), ii ca, ii ou, ii (wk - 5), ii er, ii pl, oV bn, oV bx, oV by_, .null, ii lv, .ref ql, .ref qw]) (hl_set (hl_lt h16)) rfl (by rw [List.set_set]) rfl (by simp) rfl (by decide) (fun z => by cases z) (by decide)) rfl rfl rfl ?_
        refine me1 (pc' := 93) (L' := [(2, .ref qf), (0, .ref 16), (1, .ref p)]) (S' := [.ref 16]) dm_X1_startCall_92 rfl rfl rfl rfl ?_
        refine me0 (pc' := 94) (S' := [.ref 16, .ref 16]) dm_X1_startCall_93 rfl rfl rfl rfl ?_
        refine me3 (pc' := 97) (S' := [ii ca, .ref 16]) dm_X1_startCall_94 (g_get (v := ii ca) (hl_set (hl_lt h16)) rfl rfl (by decide)) rfl rfl rfl ?_
        refine me0 (pc' := 98) (S' := [ii 1, ii ca, .ref 16]) dm_X1_startCall_97 rfl rfl rfl rfl ?_
        refine y_iadd (a := ca) (b := 1) dm_X1_startCall_98 (pc' := 99) rfl ?_
        refine me3 (pc' := 102) (S' := []) (h1 := (h).set 16 (cO 1 [.ref 4, .ref 17, .ref 26, .ref 32, ii (t : Int), .ref 33, ii (dq : Int), ii (ca + 1), ii ou, ii (wk - 5), ii er, ii pl, oV bn, oV bx, oV by_, .null, ii lv, .ref ql, .ref qw])) dm_X1_startCall_99 (g_put (fs' := [.ref 4, .ref 17, .ref 26, .ref 32, ii (t : Int), .ref 33, ii (dq : Int), ii (ca + 1), ii ou, ii (wk - 5), ii er, ii pl, oV bn, oV bx, oV by_, .null, ii lv, .ref ql, .ref qw]) (hl_set (hl_lt h16)) rfl (by rw [List.set_set]) rfl (by simp) rfl (by decide) (fun z => by cases z) (by decide)) rfl rfl rfl ?_
        refine me1 (pc' := 103) (L' := [(2, .ref qf), (0, .ref 16), (1, .ref p)]) (S' := [.ref 16]) dm_X1_startCall_102 rfl rfl rfl rfl ?_
        refine me3 (pc' := 106) (S' := [.ref 33]) dm_X1_startCall_103 (g_get (v := .ref 33) (hl_set (hl_lt h16)) rfl rfl (by decide)) rfl rfl rfl ?_
        refine me1 (pc' := 107) (L' := [(2, .ref qf), (0, .ref 16), (1, .ref p)]) (S' := [.ref 16, .ref 33]) dm_X1_startCall_106 rfl rfl rfl rfl ?_
        refine me3 (pc' := 110) (S' := [ii (dq : Int), .ref 33]) dm_X1_startCall_107 (g_get (v := ii (dq : Int)) (hl_set (hl_lt h16)) rfl rfl (by decide)) rfl rfl rfl ?_
        refine me3 (pc' := 111) (S' := [.ref fr]) dm_X1_startCall_110 (yh_aald (w := some fr) rfl (hl_ne (by decide) h33) (by omega) (by omega) (by omega) (by decide) hff) rfl rfl rfl ?_
        refine me1 (pc' := 112) (L' := [(3, .ref fr), (2, .ref qf), (0, .ref 16), (1, .ref p)]) (S' := []) dm_X1_startCall_111 rfl rfl rfl rfl ?_
        refine me1 (pc' := 113) (L' := [(3, .ref fr), (2, .ref qf), (0, .ref 16), (1, .ref p)]) (S' := [.ref 16]) dm_X1_startCall_112 rfl rfl rfl rfl ?_
        refine me0 (pc' := 114) (S' := [.ref 16, .ref 16]) dm_X1_startCall_113 rfl rfl rfl rfl ?_
        refine me3 (pc' := 117) (S' := [ii (dq : Int), .ref 16]) dm_X1_startCall_114 (g_get (v := ii (dq : Int)) (hl_set (hl_lt h16)) rfl rfl (by decide)) rfl rfl rfl ?_
        refine me0 (pc' := 118) (S' := [ii 1, ii (dq : Int), .ref 16]) dm_X1_startCall_117 rfl rfl rfl rfl ?_
        refine y_iadd (a := (dq : Int)) (b := 1) dm_X1_startCall_118 (pc' := 119) rfl ?_
        refine me3 (pc' := 122) (S' := []) (h1 := (h).set 16 (cO 1 [.ref 4, .ref 17, .ref 26, .ref 32, ii (t : Int), .ref 33, ii ((dq : Int) + 1), ii (ca + 1), ii ou, ii (wk - 5), ii er, ii pl, oV bn, oV bx, oV by_, .null, ii lv, .ref ql, .ref qw])) dm_X1_startCall_119 (g_put (fs' := [.ref 4, .ref 17, .ref 26, .ref 32, ii (t : Int), .ref 33, ii ((dq : Int) + 1), ii (ca + 1), ii ou, ii (wk - 5), ii er, ii pl, oV bn, oV bx, oV by_, .null, ii lv, .ref ql, .ref qw]) (hl_set (hl_lt h16)) rfl (by rw [List.set_set]) rfl (by simp) rfl (by decide) (fun z => by cases z) (by decide)) rfl rfl rfl ?_
        refine me1 (pc' := 123) (L' := [(3, .ref fr), (2, .ref qf), (0, .ref 16), (1, .ref p)]) (S' := [.ref fr]) dm_X1_startCall_122 rfl rfl rfl rfl ?_
        refine me0 (pc' := 124) (S' := [ii 0, .ref fr]) dm_X1_startCall_123 rfl rfl rfl rfl ?_
        refine me3 (pc' := 127) (S' := []) (h1 := ((h).set 16 (cO 1 [.ref 4, .ref 17, .ref 26, .ref 32, ii (t : Int), .ref 33, ii ((dq : Int) + 1), ii (ca + 1), ii ou, ii (wk - 5), ii er, ii pl, oV bn, oV bx, oV by_, .null, ii lv, .ref ql, .ref qw])).set fr (cO 0 [ii 0, fo, fx, fy, ii fn, ii fm, ii fb])) dm_X1_startCall_124 (g_put (fs' := [ii 0, fo, fx, fy, ii fn, ii fm, ii fb]) (hl_ne (by omega) hfr) rfl rfl rfl (by simp) rfl (by decide) (fun z => by cases z) (by omega)) rfl rfl rfl ?_
        refine me1 (pc' := 128) (L' := [(3, .ref fr), (2, .ref qf), (0, .ref 16), (1, .ref p)]) (S' := [.ref fr]) dm_X1_startCall_127 rfl rfl rfl rfl ?_
        refine me1 (pc' := 129) (L' := [(3, .ref fr), (2, .ref qf), (0, .ref 16), (1, .ref p)]) (S' := [.ref 16, .ref fr]) dm_X1_startCall_128 rfl rfl rfl rfl ?_
        refine me3 (pc' := 132) (S' := [oV bn, .ref fr]) dm_X1_startCall_129 (g_get (v := oV bn) (hl_ne (by omega) (hl_set (hl_lt h16))) rfl rfl (by decide)) rfl rfl rfl ?_
        refine me3 (pc' := 135) (S' := []) (h1 := ((h).set 16 (cO 1 [.ref 4, .ref 17, .ref 26, .ref 32, ii (t : Int), .ref 33, ii ((dq : Int) + 1), ii (ca + 1), ii ou, ii (wk - 5), ii er, ii pl, oV bn, oV bx, oV by_, .null, ii lv, .ref ql, .ref qw])).set fr (cO 0 [ii 0, oV bn, fx, fy, ii fn, ii fm, ii fb])) dm_X1_startCall_132 (g_put (fs' := [ii 0, oV bn, fx, fy, ii fn, ii fm, ii fb]) (hl_set (hl_lt (hl_ne (by omega) hfr))) rfl (by rw [List.set_set]) rfl (by simp) (oV_fit _ _) (by decide) (fun z => by cases z) (by omega)) rfl rfl rfl ?_
        refine me1 (pc' := 136) (L' := [(3, .ref fr), (2, .ref qf), (0, .ref 16), (1, .ref p)]) (S' := [.ref fr]) dm_X1_startCall_135 rfl rfl rfl rfl ?_
        refine me1 (pc' := 137) (L' := [(3, .ref fr), (2, .ref qf), (0, .ref 16), (1, .ref p)]) (S' := [.ref 16, .ref fr]) dm_X1_startCall_136 rfl rfl rfl rfl ?_
        refine me3 (pc' := 140) (S' := [oV bx, .ref fr]) dm_X1_startCall_137 (g_get (v := oV bx) (hl_ne (by omega) (hl_set (hl_lt h16))) rfl rfl (by decide)) rfl rfl rfl ?_
        refine me3 (pc' := 143) (S' := []) (h1 := ((h).set 16 (cO 1 [.ref 4, .ref 17, .ref 26, .ref 32, ii (t : Int), .ref 33, ii ((dq : Int) + 1), ii (ca + 1), ii ou, ii (wk - 5), ii er, ii pl, oV bn, oV bx, oV by_, .null, ii lv, .ref ql, .ref qw])).set fr (cO 0 [ii 0, oV bn, oV bx, fy, ii fn, ii fm, ii fb])) dm_X1_startCall_140 (g_put (fs' := [ii 0, oV bn, oV bx, fy, ii fn, ii fm, ii fb]) (hl_set (hl_lt (hl_ne (by omega) hfr))) rfl (by rw [List.set_set]) rfl (by simp) (oV_fit _ _) (by decide) (fun z => by cases z) (by omega)) rfl rfl rfl ?_
        refine me1 (pc' := 144) (L' := [(3, .ref fr), (2, .ref qf), (0, .ref 16), (1, .ref p)]) (S' := [.ref fr]) dm_X1_startCall_143 rfl rfl rfl rfl ?_
        refine me1 (pc' := 145) (L' := [(3, .ref fr), (2, .ref qf), (0, .ref 16), (1, .ref p)]) (S' := [.ref 16, .ref fr]) dm_X1_startCall_144 rfl rfl rfl rfl ?_
        refine me3 (pc' := 148) (S' := [oV by_, .ref fr]) dm_X1_startCall_145 (g_get (v := oV by_) (hl_ne (by omega) (hl_set (hl_lt h16))) rfl rfl (by decide)) rfl rfl rfl ?_
        refine me3 (pc' := 151) (S' := []) (h1 := ((h).set 16 (cO 1 [.ref 4, .ref 17, .ref 26, .ref 32, ii (t : Int), .ref 33, ii ((dq : Int) + 1), ii (ca + 1), ii ou, ii (wk - 5), ii er, ii pl, oV bn, oV bx, oV by_, .null, ii lv, .ref ql, .ref qw])).set fr (cO 0 [ii 0, oV bn, oV bx, oV by_, ii fn, ii fm, ii fb])) dm_X1_startCall_148 (g_put (fs' := [ii 0, oV bn, oV bx, oV by_, ii fn, ii fm, ii fb]) (hl_set (hl_lt (hl_ne (by omega) hfr))) rfl (by rw [List.set_set]) rfl (by simp) (oV_fit _ _) (by decide) (fun z => by cases z) (by omega)) rfl rfl rfl ?_
        refine me1 (pc' := 152) (L' := [(3, .ref fr), (2, .ref qf), (0, .ref 16), (1, .ref p)]) (S' := [.ref 16]) dm_X1_startCall_151 rfl rfl rfl rfl ?_
        refine me1 (pc' := 153) (L' := [(3, .ref fr), (2, .ref qf), (0, .ref 16), (1, .ref p)]) (S' := [.ref qf, .ref 16]) dm_X1_startCall_152 rfl rfl rfl rfl ?_
        refine me3 (pc' := 156) (S' := []) (h1 := (((h).set 16 (cO 1 [.ref 4, .ref 17, .ref 26, .ref 32, ii (t : Int), .ref 33, ii ((dq : Int) + 1), ii (ca + 1), ii ou, ii (wk - 5), ii er, ii pl, oV bn, oV bx, oV by_, .null, ii lv, .ref ql, .ref qw])).set fr (cO 0 [ii 0, oV bn, oV bx, oV by_, ii fn, ii fm, ii fb])).set 16 (cO 1 [.ref 4, .ref 17, .ref 26, .ref 32, ii (t : Int), .ref 33, ii ((dq : Int) + 1), ii (ca + 1), ii ou, ii (wk - 5), ii er, ii pl, .ref qf, oV bx, oV by_, .null, ii lv, .ref ql, .ref qw])) dm_X1_startCall_153 (g_put (fs' := [.ref 4, .ref 17, .ref 26, .ref 32, ii (t : Int), .ref 33, ii ((dq : Int) + 1), ii (ca + 1), ii ou, ii (wk - 5), ii er, ii pl, .ref qf, oV bx, oV by_, .null, ii lv, .ref ql, .ref qw]) (hl_ne (by omega) (hl_set (hl_lt h16))) rfl rfl rfl (by simp) rfl (by decide) (fun z => by cases z) (by decide)) rfl rfl rfl ?_
        refine me1 (pc' := 157) (L' := [(3, .ref fr), (2, .ref qf), (0, .ref 16), (1, .ref p)]) (S' := [.ref 16]) dm_X1_startCall_156 rfl rfl rfl rfl ?_
        refine me1 (pc' := 158) (L' := [(3, .ref fr), (2, .ref qf), (0, .ref 16), (1, .ref p)]) (S' := [.ref 16, .ref 16]) dm_X1_startCall_157 rfl rfl rfl rfl ?_
        refine me3 (pc' := 161) (S' := [.ref ql, .ref 16]) dm_X1_startCall_158 (g_get (v := .ref ql) (hl_set (hl_lt (hl_ne (by omega) (hl_set (hl_lt h16))))) rfl rfl (by decide)) rfl rfl rfl ?_
        refine me2 (pc' := 171) (S' := [.ref 16]) dm_X1_startCall_161 rfl rfl rfl ?_
        refine me1 (pc' := 172) (L' := [(3, .ref fr), (2, .ref qf), (0, .ref 16), (1, .ref p)]) (S' := [.ref 16, .ref 16]) dm_X1_startCall_171 rfl rfl rfl rfl ?_
        refine me3 (pc' := 175) (S' := [.ref ql, .ref 16]) dm_X1_startCall_172 (g_get (v := .ref ql) (hl_set (hl_lt (hl_ne (by omega) (hl_set (hl_lt h16))))) rfl rfl (by decide)) rfl rfl rfl ?_
        refine me3 (pc' := 178) (S' := []) (h1 := (((h).set 16 (cO 1 [.ref 4, .ref 17, .ref 26, .ref 32, ii (t : Int), .ref 33, ii ((dq : Int) + 1), ii (ca + 1), ii ou, ii (wk - 5), ii er, ii pl, oV bn, oV bx, oV by_, .null, ii lv, .ref ql, .ref qw])).set fr (cO 0 [ii 0, oV bn, oV bx, oV by_, ii fn, ii fm, ii fb])).set 16 (cO 1 [.ref 4, .ref 17, .ref 26, .ref 32, ii (t : Int), .ref 33, ii ((dq : Int) + 1), ii (ca + 1), ii ou, ii (wk - 5), ii er, ii pl, .ref qf, .ref ql, oV by_, .null, ii lv, .ref ql, .ref qw])) dm_X1_startCall_175 (g_put (fs' := [.ref 4, .ref 17, .ref 26, .ref 32, ii (t : Int), .ref 33, ii ((dq : Int) + 1), ii (ca + 1), ii ou, ii (wk - 5), ii er, ii pl, .ref qf, .ref ql, oV by_, .null, ii lv, .ref ql, .ref qw]) (hl_set (hl_lt (hl_ne (by omega) (hl_set (hl_lt h16))))) rfl (by rw [List.set_set]) rfl (by simp) rfl (by decide) (fun z => by cases z) (by decide)) rfl rfl rfl ?_
        refine me1 (pc' := 179) (L' := [(3, .ref fr), (2, .ref qf), (0, .ref 16), (1, .ref p)]) (S' := [.ref 16]) dm_X1_startCall_178 rfl rfl rfl rfl ?_
        refine me1 (pc' := 180) (L' := [(3, .ref fr), (2, .ref qf), (0, .ref 16), (1, .ref p)]) (S' := [.ref 16, .ref 16]) dm_X1_startCall_179 rfl rfl rfl rfl ?_
        refine me3 (pc' := 183) (S' := [.ref ql, .ref 16]) dm_X1_startCall_180 (g_get (v := .ref ql) (hl_set (hl_lt (hl_ne (by omega) (hl_set (hl_lt h16))))) rfl rfl (by decide)) rfl rfl rfl ?_
        refine me2 (pc' := 190) (S' := [.ref 16]) dm_X1_startCall_183 rfl rfl rfl ?_
        refine me1 (pc' := 191) (L' := [(3, .ref fr), (2, .ref qf), (0, .ref 16), (1, .ref p)]) (S' := [.ref 16, .ref 16]) dm_X1_startCall_190 rfl rfl rfl rfl ?_
        refine me3 (pc' := 194) (S' := [.ref qw, .ref 16]) dm_X1_startCall_191 (g_get (v := .ref qw) (hl_set (hl_lt (hl_ne (by omega) (hl_set (hl_lt h16))))) rfl rfl (by decide)) rfl rfl rfl ?_
        refine me3 (pc' := 197) (S' := []) (h1 := (((h).set 16 (cO 1 [.ref 4, .ref 17, .ref 26, .ref 32, ii (t : Int), .ref 33, ii ((dq : Int) + 1), ii (ca + 1), ii ou, ii (wk - 5), ii er, ii pl, oV bn, oV bx, oV by_, .null, ii lv, .ref ql, .ref qw])).set fr (cO 0 [ii 0, oV bn, oV bx, oV by_, ii fn, ii fm, ii fb])).set 16 (cO 1 [.ref 4, .ref 17, .ref 26, .ref 32, ii (t : Int), .ref 33, ii ((dq : Int) + 1), ii (ca + 1), ii ou, ii (wk - 5), ii er, ii pl, .ref qf, .ref ql, .ref qw, .null, ii lv, .ref ql, .ref qw])) dm_X1_startCall_194 (g_put (fs' := [.ref 4, .ref 17, .ref 26, .ref 32, ii (t : Int), .ref 33, ii ((dq : Int) + 1), ii (ca + 1), ii ou, ii (wk - 5), ii er, ii pl, .ref qf, .ref ql, .ref qw, .null, ii lv, .ref ql, .ref qw]) (hl_set (hl_lt (hl_ne (by omega) (hl_set (hl_lt h16))))) rfl (by rw [List.set_set]) rfl (by simp) rfl (by decide) (fun z => by cases z) (by decide)) rfl rfl rfl ?_
        refine y_ret (r := none) dm_X1_startCall_197 rfl rfl rfl ?_
        refine ⟨rfl, ?_⟩
        rw [← hH, List.set_comm _ _ (show fr ≠ 16 by omega), List.set_set]
        first | rw [if_pos (by omega)] | rw [if_neg (by omega)]
      · refine me1 (pc' := 79) (L' := [(2, .ref qf), (0, .ref 16), (1, .ref p)]) (S' := [.ref p, .ref 16]) dm_X1_startCall_78 rfl rfl rfl rfl ?_
        refine me3 (pc' := 82) (S' := [ii pp, .ref 16]) dm_X1_startCall_79 (g_get (v := ii pp) (hl_ne (by omega) hp) rfl rfl (by omega)) rfl rfl rfl ?_
        refine me2 (pc' := 89) (S' := [ii pp, .ref 16]) dm_X1_startCall_82 rfl rfl rfl ?_
        refine me3 (pc' := 92) (S' := []) (h1 := (h).set 16 (cO 1 [.ref 4, .ref 17, .ref 26, .ref 32, ii (t : Int), .ref 33, ii (dq : Int), ii ca, ii pp, ii (wk - 5), ii er, ii pl, oV bn, oV bx, oV by_, .null, ii lv, .ref ql, .ref qw])) dm_X1_startCall_89 (g_put (fs' := [.ref 4, .ref 17, .ref 26, .ref 32, ii (t : Int), .ref 33, ii (dq : Int), ii ca, ii pp, ii (wk - 5), ii er, ii pl, oV bn, oV bx, oV by_, .null, ii lv, .ref ql, .ref qw]) (hl_set (hl_lt h16)) rfl (by rw [List.set_set]) rfl (by simp) rfl (by decide) (fun z => by cases z) (by decide)) rfl rfl rfl ?_
        refine me1 (pc' := 93) (L' := [(2, .ref qf), (0, .ref 16), (1, .ref p)]) (S' := [.ref 16]) dm_X1_startCall_92 rfl rfl rfl rfl ?_
        refine me0 (pc' := 94) (S' := [.ref 16, .ref 16]) dm_X1_startCall_93 rfl rfl rfl rfl ?_
        refine me3 (pc' := 97) (S' := [ii ca, .ref 16]) dm_X1_startCall_94 (g_get (v := ii ca) (hl_set (hl_lt h16)) rfl rfl (by decide)) rfl rfl rfl ?_
        refine me0 (pc' := 98) (S' := [ii 1, ii ca, .ref 16]) dm_X1_startCall_97 rfl rfl rfl rfl ?_
        refine y_iadd (a := ca) (b := 1) dm_X1_startCall_98 (pc' := 99) rfl ?_
        refine me3 (pc' := 102) (S' := []) (h1 := (h).set 16 (cO 1 [.ref 4, .ref 17, .ref 26, .ref 32, ii (t : Int), .ref 33, ii (dq : Int), ii (ca + 1), ii pp, ii (wk - 5), ii er, ii pl, oV bn, oV bx, oV by_, .null, ii lv, .ref ql, .ref qw])) dm_X1_startCall_99 (g_put (fs' := [.ref 4, .ref 17, .ref 26, .ref 32, ii (t : Int), .ref 33, ii (dq : Int), ii (ca + 1), ii pp, ii (wk - 5), ii er, ii pl, oV bn, oV bx, oV by_, .null, ii lv, .ref ql, .ref qw]) (hl_set (hl_lt h16)) rfl (by rw [List.set_set]) rfl (by simp) rfl (by decide) (fun z => by cases z) (by decide)) rfl rfl rfl ?_
        refine me1 (pc' := 103) (L' := [(2, .ref qf), (0, .ref 16), (1, .ref p)]) (S' := [.ref 16]) dm_X1_startCall_102 rfl rfl rfl rfl ?_
        refine me3 (pc' := 106) (S' := [.ref 33]) dm_X1_startCall_103 (g_get (v := .ref 33) (hl_set (hl_lt h16)) rfl rfl (by decide)) rfl rfl rfl ?_
        refine me1 (pc' := 107) (L' := [(2, .ref qf), (0, .ref 16), (1, .ref p)]) (S' := [.ref 16, .ref 33]) dm_X1_startCall_106 rfl rfl rfl rfl ?_
        refine me3 (pc' := 110) (S' := [ii (dq : Int), .ref 33]) dm_X1_startCall_107 (g_get (v := ii (dq : Int)) (hl_set (hl_lt h16)) rfl rfl (by decide)) rfl rfl rfl ?_
        refine me3 (pc' := 111) (S' := [.ref fr]) dm_X1_startCall_110 (yh_aald (w := some fr) rfl (hl_ne (by decide) h33) (by omega) (by omega) (by omega) (by decide) hff) rfl rfl rfl ?_
        refine me1 (pc' := 112) (L' := [(3, .ref fr), (2, .ref qf), (0, .ref 16), (1, .ref p)]) (S' := []) dm_X1_startCall_111 rfl rfl rfl rfl ?_
        refine me1 (pc' := 113) (L' := [(3, .ref fr), (2, .ref qf), (0, .ref 16), (1, .ref p)]) (S' := [.ref 16]) dm_X1_startCall_112 rfl rfl rfl rfl ?_
        refine me0 (pc' := 114) (S' := [.ref 16, .ref 16]) dm_X1_startCall_113 rfl rfl rfl rfl ?_
        refine me3 (pc' := 117) (S' := [ii (dq : Int), .ref 16]) dm_X1_startCall_114 (g_get (v := ii (dq : Int)) (hl_set (hl_lt h16)) rfl rfl (by decide)) rfl rfl rfl ?_
        refine me0 (pc' := 118) (S' := [ii 1, ii (dq : Int), .ref 16]) dm_X1_startCall_117 rfl rfl rfl rfl ?_
        refine y_iadd (a := (dq : Int)) (b := 1) dm_X1_startCall_118 (pc' := 119) rfl ?_
        refine me3 (pc' := 122) (S' := []) (h1 := (h).set 16 (cO 1 [.ref 4, .ref 17, .ref 26, .ref 32, ii (t : Int), .ref 33, ii ((dq : Int) + 1), ii (ca + 1), ii pp, ii (wk - 5), ii er, ii pl, oV bn, oV bx, oV by_, .null, ii lv, .ref ql, .ref qw])) dm_X1_startCall_119 (g_put (fs' := [.ref 4, .ref 17, .ref 26, .ref 32, ii (t : Int), .ref 33, ii ((dq : Int) + 1), ii (ca + 1), ii pp, ii (wk - 5), ii er, ii pl, oV bn, oV bx, oV by_, .null, ii lv, .ref ql, .ref qw]) (hl_set (hl_lt h16)) rfl (by rw [List.set_set]) rfl (by simp) rfl (by decide) (fun z => by cases z) (by decide)) rfl rfl rfl ?_
        refine me1 (pc' := 123) (L' := [(3, .ref fr), (2, .ref qf), (0, .ref 16), (1, .ref p)]) (S' := [.ref fr]) dm_X1_startCall_122 rfl rfl rfl rfl ?_
        refine me0 (pc' := 124) (S' := [ii 0, .ref fr]) dm_X1_startCall_123 rfl rfl rfl rfl ?_
        refine me3 (pc' := 127) (S' := []) (h1 := ((h).set 16 (cO 1 [.ref 4, .ref 17, .ref 26, .ref 32, ii (t : Int), .ref 33, ii ((dq : Int) + 1), ii (ca + 1), ii pp, ii (wk - 5), ii er, ii pl, oV bn, oV bx, oV by_, .null, ii lv, .ref ql, .ref qw])).set fr (cO 0 [ii 0, fo, fx, fy, ii fn, ii fm, ii fb])) dm_X1_startCall_124 (g_put (fs' := [ii 0, fo, fx, fy, ii fn, ii fm, ii fb]) (hl_ne (by omega) hfr) rfl rfl rfl (by simp) rfl (by decide) (fun z => by cases z) (by omega)) rfl rfl rfl ?_
        refine me1 (pc' := 128) (L' := [(3, .ref fr), (2, .ref qf), (0, .ref 16), (1, .ref p)]) (S' := [.ref fr]) dm_X1_startCall_127 rfl rfl rfl rfl ?_
        refine me1 (pc' := 129) (L' := [(3, .ref fr), (2, .ref qf), (0, .ref 16), (1, .ref p)]) (S' := [.ref 16, .ref fr]) dm_X1_startCall_128 rfl rfl rfl rfl ?_
        refine me3 (pc' := 132) (S' := [oV bn, .ref fr]) dm_X1_startCall_129 (g_get (v := oV bn) (hl_ne (by omega) (hl_set (hl_lt h16))) rfl rfl (by decide)) rfl rfl rfl ?_
        refine me3 (pc' := 135) (S' := []) (h1 := ((h).set 16 (cO 1 [.ref 4, .ref 17, .ref 26, .ref 32, ii (t : Int), .ref 33, ii ((dq : Int) + 1), ii (ca + 1), ii pp, ii (wk - 5), ii er, ii pl, oV bn, oV bx, oV by_, .null, ii lv, .ref ql, .ref qw])).set fr (cO 0 [ii 0, oV bn, fx, fy, ii fn, ii fm, ii fb])) dm_X1_startCall_132 (g_put (fs' := [ii 0, oV bn, fx, fy, ii fn, ii fm, ii fb]) (hl_set (hl_lt (hl_ne (by omega) hfr))) rfl (by rw [List.set_set]) rfl (by simp) (oV_fit _ _) (by decide) (fun z => by cases z) (by omega)) rfl rfl rfl ?_
        refine me1 (pc' := 136) (L' := [(3, .ref fr), (2, .ref qf), (0, .ref 16), (1, .ref p)]) (S' := [.ref fr]) dm_X1_startCall_135 rfl rfl rfl rfl ?_
        refine me1 (pc' := 137) (L' := [(3, .ref fr), (2, .ref qf), (0, .ref 16), (1, .ref p)]) (S' := [.ref 16, .ref fr]) dm_X1_startCall_136 rfl rfl rfl rfl ?_
        refine me3 (pc' := 140) (S' := [oV bx, .ref fr]) dm_X1_startCall_137 (g_get (v := oV bx) (hl_ne (by omega) (hl_set (hl_lt h16))) rfl rfl (by decide)) rfl rfl rfl ?_
        refine me3 (pc' := 143) (S' := []) (h1 := ((h).set 16 (cO 1 [.ref 4, .ref 17, .ref 26, .ref 32, ii (t : Int), .ref 33, ii ((dq : Int) + 1), ii (ca + 1), ii pp, ii (wk - 5), ii er, ii pl, oV bn, oV bx, oV by_, .null, ii lv, .ref ql, .ref qw])).set fr (cO 0 [ii 0, oV bn, oV bx, fy, ii fn, ii fm, ii fb])) dm_X1_startCall_140 (g_put (fs' := [ii 0, oV bn, oV bx, fy, ii fn, ii fm, ii fb]) (hl_set (hl_lt (hl_ne (by omega) hfr))) rfl (by rw [List.set_set]) rfl (by simp) (oV_fit _ _) (by decide) (fun z => by cases z) (by omega)) rfl rfl rfl ?_
        refine me1 (pc' := 144) (L' := [(3, .ref fr), (2, .ref qf), (0, .ref 16), (1, .ref p)]) (S' := [.ref fr]) dm_X1_startCall_143 rfl rfl rfl rfl ?_
        refine me1 (pc' := 145) (L' := [(3, .ref fr), (2, .ref qf), (0, .ref 16), (1, .ref p)]) (S' := [.ref 16, .ref fr]) dm_X1_startCall_144 rfl rfl rfl rfl ?_
        refine me3 (pc' := 148) (S' := [oV by_, .ref fr]) dm_X1_startCall_145 (g_get (v := oV by_) (hl_ne (by omega) (hl_set (hl_lt h16))) rfl rfl (by decide)) rfl rfl rfl ?_
        refine me3 (pc' := 151) (S' := []) (h1 := ((h).set 16 (cO 1 [.ref 4, .ref 17, .ref 26, .ref 32, ii (t : Int), .ref 33, ii ((dq : Int) + 1), ii (ca + 1), ii pp, ii (wk - 5), ii er, ii pl, oV bn, oV bx, oV by_, .null, ii lv, .ref ql, .ref qw])).set fr (cO 0 [ii 0, oV bn, oV bx, oV by_, ii fn, ii fm, ii fb])) dm_X1_startCall_148 (g_put (fs' := [ii 0, oV bn, oV bx, oV by_, ii fn, ii fm, ii fb]) (hl_set (hl_lt (hl_ne (by omega) hfr))) rfl (by rw [List.set_set]) rfl (by simp) (oV_fit _ _) (by decide) (fun z => by cases z) (by omega)) rfl rfl rfl ?_
        refine me1 (pc' := 152) (L' := [(3, .ref fr), (2, .ref qf), (0, .ref 16), (1, .ref p)]) (S' := [.ref 16]) dm_X1_startCall_151 rfl rfl rfl rfl ?_
        refine me1 (pc' := 153) (L' := [(3, .ref fr), (2, .ref qf), (0, .ref 16), (1, .ref p)]) (S' := [.ref qf, .ref 16]) dm_X1_startCall_152 rfl rfl rfl rfl ?_
        refine me3 (pc' := 156) (S' := []) (h1 := (((h).set 16 (cO 1 [.ref 4, .ref 17, .ref 26, .ref 32, ii (t : Int), .ref 33, ii ((dq : Int) + 1), ii (ca + 1), ii pp, ii (wk - 5), ii er, ii pl, oV bn, oV bx, oV by_, .null, ii lv, .ref ql, .ref qw])).set fr (cO 0 [ii 0, oV bn, oV bx, oV by_, ii fn, ii fm, ii fb])).set 16 (cO 1 [.ref 4, .ref 17, .ref 26, .ref 32, ii (t : Int), .ref 33, ii ((dq : Int) + 1), ii (ca + 1), ii pp, ii (wk - 5), ii er, ii pl, .ref qf, oV bx, oV by_, .null, ii lv, .ref ql, .ref qw])) dm_X1_startCall_153 (g_put (fs' := [.ref 4, .ref 17, .ref 26, .ref 32, ii (t : Int), .ref 33, ii ((dq : Int) + 1), ii (ca + 1), ii pp, ii (wk - 5), ii er, ii pl, .ref qf, oV bx, oV by_, .null, ii lv, .ref ql, .ref qw]) (hl_ne (by omega) (hl_set (hl_lt h16))) rfl rfl rfl (by simp) rfl (by decide) (fun z => by cases z) (by decide)) rfl rfl rfl ?_
        refine me1 (pc' := 157) (L' := [(3, .ref fr), (2, .ref qf), (0, .ref 16), (1, .ref p)]) (S' := [.ref 16]) dm_X1_startCall_156 rfl rfl rfl rfl ?_
        refine me1 (pc' := 158) (L' := [(3, .ref fr), (2, .ref qf), (0, .ref 16), (1, .ref p)]) (S' := [.ref 16, .ref 16]) dm_X1_startCall_157 rfl rfl rfl rfl ?_
        refine me3 (pc' := 161) (S' := [.ref ql, .ref 16]) dm_X1_startCall_158 (g_get (v := .ref ql) (hl_set (hl_lt (hl_ne (by omega) (hl_set (hl_lt h16))))) rfl rfl (by decide)) rfl rfl rfl ?_
        refine me2 (pc' := 171) (S' := [.ref 16]) dm_X1_startCall_161 rfl rfl rfl ?_
        refine me1 (pc' := 172) (L' := [(3, .ref fr), (2, .ref qf), (0, .ref 16), (1, .ref p)]) (S' := [.ref 16, .ref 16]) dm_X1_startCall_171 rfl rfl rfl rfl ?_
        refine me3 (pc' := 175) (S' := [.ref ql, .ref 16]) dm_X1_startCall_172 (g_get (v := .ref ql) (hl_set (hl_lt (hl_ne (by omega) (hl_set (hl_lt h16))))) rfl rfl (by decide)) rfl rfl rfl ?_
        refine me3 (pc' := 178) (S' := []) (h1 := (((h).set 16 (cO 1 [.ref 4, .ref 17, .ref 26, .ref 32, ii (t : Int), .ref 33, ii ((dq : Int) + 1), ii (ca + 1), ii pp, ii (wk - 5), ii er, ii pl, oV bn, oV bx, oV by_, .null, ii lv, .ref ql, .ref qw])).set fr (cO 0 [ii 0, oV bn, oV bx, oV by_, ii fn, ii fm, ii fb])).set 16 (cO 1 [.ref 4, .ref 17, .ref 26, .ref 32, ii (t : Int), .ref 33, ii ((dq : Int) + 1), ii (ca + 1), ii pp, ii (wk - 5), ii er, ii pl, .ref qf, .ref ql, oV by_, .null, ii lv, .ref ql, .ref qw])) dm_X1_startCall_175 (g_put (fs' := [.ref 4, .ref 17, .ref 26, .ref 32, ii (t : Int), .ref 33, ii ((dq : Int) + 1), ii (ca + 1), ii pp, ii (wk - 5), ii er, ii pl, .ref qf, .ref ql, oV by_, .null, ii lv, .ref ql, .ref qw]) (hl_set (hl_lt (hl_ne (by omega) (hl_set (hl_lt h16))))) rfl (by rw [List.set_set]) rfl (by simp) rfl (by decide) (fun z => by cases z) (by decide)) rfl rfl rfl ?_
        refine me1 (pc' := 179) (L' := [(3, .ref fr), (2, .ref qf), (0, .ref 16), (1, .ref p)]) (S' := [.ref 16]) dm_X1_startCall_178 rfl rfl rfl rfl ?_
        refine me1 (pc' := 180) (L' := [(3, .ref fr), (2, .ref qf), (0, .ref 16), (1, .ref p)]) (S' := [.ref 16, .ref 16]) dm_X1_startCall_179 rfl rfl rfl rfl ?_
        refine me3 (pc' := 183) (S' := [.ref ql, .ref 16]) dm_X1_startCall_180 (g_get (v := .ref ql) (hl_set (hl_lt (hl_ne (by omega) (hl_set (hl_lt h16))))) rfl rfl (by decide)) rfl rfl rfl ?_
        refine me2 (pc' := 190) (S' := [.ref 16]) dm_X1_startCall_183 rfl rfl rfl ?_
        refine me1 (pc' := 191) (L' := [(3, .ref fr), (2, .ref qf), (0, .ref 16), (1, .ref p)]) (S' := [.ref 16, .ref 16]) dm_X1_startCall_190 rfl rfl rfl rfl ?_
        refine me3 (pc' := 194) (S' := [.ref qw, .ref 16]) dm_X1_startCall_191 (g_get (v := .ref qw) (hl_set (hl_lt (hl_ne (by omega) (hl_set (hl_lt h16))))) rfl rfl (by decide)) rfl rfl rfl ?_
        refine me3 (pc' := 197) (S' := []) (h1 := (((h).set 16 (cO 1 [.ref 4, .ref 17, .ref 26, .ref 32, ii (t : Int), .ref 33, ii ((dq : Int) + 1), ii (ca + 1), ii pp, ii (wk - 5), ii er, ii pl, oV bn, oV bx, oV by_, .null, ii lv, .ref ql, .ref qw])).set fr (cO 0 [ii 0, oV bn, oV bx, oV by_, ii fn, ii fm, ii fb])).set 16 (cO 1 [.ref 4, .ref 17, .ref 26, .ref 32, ii (t : Int), .ref 33, ii ((dq : Int) + 1), ii (ca + 1), ii pp, ii (wk - 5), ii er, ii pl, .ref qf, .ref ql, .ref qw, .null, ii lv, .ref ql, .ref qw])) dm_X1_startCall_194 (g_put (fs' := [.ref 4, .ref 17, .ref 26, .ref 32, ii (t : Int), .ref 33, ii ((dq : Int) + 1), ii (ca + 1), ii pp, ii (wk - 5), ii er, ii pl, .ref qf, .ref ql, .ref qw, .null, ii lv, .ref ql, .ref qw]) (hl_set (hl_lt (hl_ne (by omega) (hl_set (hl_lt h16))))) rfl (by rw [List.set_set]) rfl (by simp) rfl (by decide) (fun z => by cases z) (by decide)) rfl rfl rfl ?_
        refine y_ret (r := none) dm_X1_startCall_197 rfl rfl rfl ?_
        refine ⟨rfl, ?_⟩
        rw [← hH, List.set_comm _ _ (show fr ≠ 16 by omega), List.set_set]
        first | rw [if_pos (by omega)] | rw [if_neg (by omega)]
    · exfalso; omega
theorem dm_X1_startCall_164 : mj_dec prog_3_method_18_code 164 = some (.aload_n 0, 1) := by decide +kernel
theorem dm_X1_startCall_165 : mj_dec prog_3_method_18_code 165 = some (.getfield 83, 3) := by decide +kernel
theorem dm_X1_startCall_168 : mj_dec prog_3_method_18_code 168 = some (.goto 7, 3) := by decide +kernel
theorem dm_X1_startCall_186 : mj_dec prog_3_method_18_code 186 = some (.aconst_null, 1) := by decide +kernel
theorem dm_X1_startCall_187 : mj_dec prog_3_method_18_code 187 = some (.goto 7, 3) := by decide +kernel
theorem m_callKO {xt : mj_X} {d t dq qw fr : Nat} {h H : mj_H} {ca ou wk er pl lv : Int} {dg : Value} {bn bx by_ : Option Nat} (hd : 3 ≤ d) (h16 : h[16]? = some (mcC (t : Int) (dq : Int) ca ou wk er pl (oV bn) (oV bx) (oV by_) dg lv .null (.ref qw))) {n m : Nat} {kf jf : Nat → Int64} {vf of : Nat → Option Nat} (hN : NMS h n m kf jf vf of) {p : Nat} {od pp oa om ot : Int} {onm : Int64} {ovl onx oot : Value} (hp : h[p]? = some (opC od pp 0 onm oa om ot ovl onx oot)) (hp2 : 127 ≤ p) (hca : -2147483648 ≤ ca ∧ ca ≤ 2147483647) {qf : Nat} (hf : fndK jf m onm < m) (hfq : of (fndK jf m onm) = some qf) (hca9 : ca < 10) (hwk : 0 ≤ wk ∧ wk ≤ 1000000) (hle : 5 ≤ wk) (hdq : dq < 64) {ff : Nat → Option Nat} (h33 : h[33]? = some (cA 7 64 ff)) (hff : ff dq = some fr) (hfr2 : 34 ≤ fr ∧ fr ≤ 97) {fl fn fm fb : Int} {fo fx fy : Value} (hfr : h[fr]? = some (cO 0 [ii fl, fo, fx, fy, ii fn, ii fm, ii fb])) (hH : (h.set 16 (mcC (t : Int) ((dq : Int) + 1) (ca + 1) (if ca = 0 then pp else ou) (wk - 5) er pl (.ref qf) (.ref qw) .null .null lv .null (.ref qw))).set fr (cO 0 [ii 0, oV bn, oV bx, oV by_, ii fn, ii fm, ii fb]) = H) : pgN xt d 80 [.ref 16, .ref p] h (fun h' => h' = H) := by
  refine x_enter pm_X1_startCall (L0 := [(0, .ref 16), (1, .ref p)]) rfl (Nat.le_of_ble_eq_true rfl) (by omega) ?_
  refine me1 (pc' := 1) (L' := [(0, .ref 16), (1, .ref p)]) (S' := [.ref 16]) dm_X1_startCall_0 rfl rfl rfl rfl ?_
  refine me0 (pc' := 2) (S' := [.null, .ref 16]) dm_X1_startCall_1 rfl rfl rfl rfl ?_
  refine me3 (pc' := 5) (S' := []) (h1 := (h).set 16 (cO 1 [.ref 4, .ref 17, .ref 26, .ref 32, ii (t : Int), .ref 33, ii (dq : Int), ii ca, ii ou, ii wk, ii er, ii pl, oV bn, oV bx, oV by_, .null, ii lv, .null, .ref qw])) dm_X1_startCall_2 (g_put (fs' := [.ref 4, .ref 17, .ref 26, .ref 32, ii (t : Int), .ref 33, ii (dq : Int), ii ca, ii ou, ii wk, ii er, ii pl, oV bn, oV bx, oV by_, .null, ii lv, .null, .ref qw]) h16 rfl rfl rfl (by simp) rfl (by decide) (fun z => by cases z) (by decide)) rfl rfl rfl ?_
  refine me1 (pc' := 6) (L' := [(0, .ref 16), (1, .ref p)]) (S' := [.ref 16]) dm_X1_startCall_5 rfl rfl rfl rfl ?_
  refine me3 (pc' := 9) (S' := [.ref 4]) dm_X1_startCall_6 (g_get (v := .ref 4) (hl_set (hl_lt h16)) rfl rfl (by decide)) rfl rfl rfl ?_
  refine me1 (pc' := 10) (L' := [(0, .ref 16), (1, .ref p)]) (S' := [.ref p, .ref 4]) dm_X1_startCall_9 rfl rfl rfl rfl ?_
  refine me3 (pc' := 13) (S' := [.long onm, .ref 4]) dm_X1_startCall_10 (g_get (v := .long onm) (hl_ne (by omega) hp) rfl rfl (by omega)) rfl rfl rfl ?_
  refine x_cp (pc' := 16) (v := .ref qf) (rest := []) dm_X1_startCall_13 rfl (g_inv (As := [.long onm]) (S := []) (hl_ne (by decide) hN.1) rfl rfl rfl (by decide)) rfl rfl rfl (n_functionOfY (by omega) (hl_ne (by decide) hN.1) (hl_ne (by decide) hN.2.1) (hl_ne (by decide) hN.2.2.1) (hl_ne (by decide) hN.2.2.2.1) (hl_ne (by decide) hN.2.2.2.2.1) (by decide) hN.2.2.2.2.2.1 hN.2.2.2.2.2.2.1 hf hfq) ?_
  refine me1 (pc' := 17) (L' := [(2, .ref qf), (0, .ref 16), (1, .ref p)]) (S' := []) dm_X1_startCall_16 rfl rfl rfl rfl ?_
  refine me1 (pc' := 18) (L' := [(2, .ref qf), (0, .ref 16), (1, .ref p)]) (S' := [.ref qf]) dm_X1_startCall_17 rfl rfl rfl rfl ?_
  refine me2 (pc' := 30) (S' := []) dm_X1_startCall_18 rfl rfl rfl ?_
  refine me1 (pc' := 31) (L' := [(2, .ref qf), (0, .ref 16), (1, .ref p)]) (S' := [.ref 16]) dm_X1_startCall_30 rfl rfl rfl rfl ?_
  refine me3 (pc' := 34) (S' := [ii ca]) dm_X1_startCall_31 (g_get (v := ii ca) (hl_set (hl_lt h16)) rfl rfl (by decide)) rfl rfl rfl ?_
  refine me0 (pc' := 36) (S' := [ii 10, ii ca]) dm_X1_startCall_34 rfl rfl rfl rfl ?_
  refine y_2ge (a := ca) (b := 10) (t := 51) (pc' := 39) dm_X1_startCall_36 rfl rfl (by omega) (fun hb1 => ?_) (fun hb1 => ?_)
  · exfalso; omega
  · refine me1 (pc' := 40) (L' := [(2, .ref qf), (0, .ref 16), (1, .ref p)]) (S' := [.ref 16]) dm_X1_startCall_39 rfl rfl rfl rfl ?_
    refine me3 (pc' := 43) (S' := [ii (dq : Int)]) dm_X1_startCall_40 (g_get (v := ii (dq : Int)) (hl_set (hl_lt h16)) rfl rfl (by decide)) rfl rfl rfl ?_
    refine me1 (pc' := 44) (L' := [(2, .ref qf), (0, .ref 16), (1, .ref p)]) (S' := [.ref 16, ii (dq : Int)]) dm_X1_startCall_43 rfl rfl rfl rfl ?_
    refine me3 (pc' := 47) (S' := [.ref 33, ii (dq : Int)]) dm_X1_startCall_44 (g_get (v := .ref 33) (hl_set (hl_lt h16)) rfl rfl (by decide)) rfl rfl rfl ?_
    refine me3 (pc' := 48) (S' := [ii 64, ii (dq : Int)]) dm_X1_startCall_47 (yh_len (n := 64) rfl (hl_ne (by decide) h33) (by decide)) rfl rfl rfl ?_
    refine y_2lt (a := (dq : Int)) (b := 64) (t := 61) (pc' := 51) dm_X1_startCall_48 rfl rfl (by omega) (fun hb2 => ?_) (fun hb2 => ?_)
    · refine me1 (pc' := 62) (L' := [(2, .ref qf), (0, .ref 16), (1, .ref p)]) (S' := [.ref 16]) dm_X1_startCall_61 rfl rfl rfl rfl ?_
      refine me0 (pc' := 63) (S' := [ii 5, .ref 16]) dm_X1_startCall_62 rfl rfl rfl rfl ?_
      refine me1 (pc' := 64) (L' := [(2, .ref qf), (0, .ref 16), (1, .ref p)]) (S' := [.ref p, ii 5, .ref 16]) dm_X1_startCall_63 rfl rfl rfl rfl ?_
      refine x_cv (pc' := 67) (rest := []) dm_X1_startCall_64 rfl (g_inv (As := [ii 5, .ref p]) (S := []) (hl_set (hl_lt h16)) rfl rfl rfl (by decide)) rfl rfl rfl (m_takeT (n := 5) (by omega) (hl_set (hl_lt h16)) (hl_ne (by omega) hp) hp2 hca (by decide) hwk hle (by rw [List.set_set])) ?_
      rintro _ _ ⟨rfl, rfl⟩
      refine me_1f (pc' := 70) dm_X1_startCall_67 rfl (by decide) rfl ?_
      refine me1 (pc' := 71) (L' := [(2, .ref qf), (0, .ref 16), (1, .ref p)]) (S' := [.ref 16]) dm_X1_startCall_70 rfl rfl rfl rfl ?_
      refine me1 (pc' := 72) (L' := [(2, .ref qf), (0, .ref 16), (1, .ref p)]) (S' := [.ref 16, .ref 16]) dm_X1_startCall_71 rfl rfl rfl rfl ?_
      refine me3 (pc' := 75) (S' := [ii ca, .ref 16]) dm_X1_startCall_72 (g_get (v := ii ca) (hl_set (hl_lt h16)) rfl rfl (by decide)) rfl rfl rfl ?_
      refine y_1ne (a := ca) (t := 85) (pc' := 78) dm_X1_startCall_75 rfl rfl (by omega) (fun hb3 => ?_) (fun hb3 => ?_)
      · refine me1 (pc' := 86) (L' := [(2, .ref qf), (0, .ref 16), (1, .ref p)]) (S' := [.ref 16, .ref 16]) dm_X1_startCall_85 rfl rfl rfl rfl ?_
        refine me3 (pc' := 89) (S' := [ii ou, .ref 16]) dm_X1_startCall_86 (g_get (v := ii ou) (hl_set (hl_lt h16)) rfl rfl (by decide)) rfl rfl rfl ?_
        refine me3 (pc' := 92) (S' := []) (h1 := (h).set 16 (cO 1 [.ref 4, .ref 17, .ref 26, .ref 32, ii (t : Int), .ref 33, ii (dq : Int), ii ca, ii ou, ii (wk - 5), ii er, ii pl, oV bn, oV bx, oV by_, .null, ii lv, .null, .ref qw])) dm_X1_startCall_89 (g_put (fs' := [.ref 4, .ref 17, .ref 26, .ref 32, ii (t : Int), .ref 33, ii (dq : Int), ii ca, ii ou, ii (wk - 5), ii er, ii pl, oV bn, oV bx, oV by_, .null, ii lv, .null, .ref qw]) (hl_set (hl_lt h16)) rfl (by rw [List.set_set]) rfl (by simp) rfl (by decide) (fun z => by cases z) (by decide)) rfl rfl rfl ?_
        refine me1 (pc' := 93) (L' := [(2, .ref qf), (0, .ref 16), (1, .ref p)]) (S' := [.ref 16]) dm_X1_startCall_92 rfl rfl rfl rfl ?_
        refine me0 (pc' := 94) (S' := [.ref 16, .ref 16]) dm_X1_startCall_93 rfl rfl rfl rfl ?_
        refine me3 (pc' := 97) (S' := [ii ca, .ref 16]) dm_X1_startCall_94 (g_get (v := ii ca) (hl_set (hl_lt h16)) rfl rfl (by decide)) rfl rfl rfl ?_
        refine me0 (pc' := 98) (S' := [ii 1, ii ca, .ref 16]) dm_X1_startCall_97 rfl rfl rfl rfl ?_
        refine y_iadd (a := ca) (b := 1) dm_X1_startCall_98 (pc' := 99) rfl ?_
        refine me3 (pc' := 102) (S' := []) (h1 := (h).set 16 (cO 1 [.ref 4, .ref 17, .ref 26, .ref 32, ii (t : Int), .ref 33, ii (dq : Int), ii (ca + 1), ii ou, ii (wk - 5), ii er, ii pl, oV bn, oV bx, oV by_, .null, ii lv, .null, .ref qw])) dm_X1_startCall_99 (g_put (fs' := [.ref 4, .ref 17, .ref 26, .ref 32, ii (t : Int), .ref 33, ii (dq : Int), ii (ca + 1), ii ou, ii (wk - 5), ii er, ii pl, oV bn, oV bx, oV by_, .null, ii lv, .null, .ref qw]) (hl_set (hl_lt h16)) rfl (by rw [List.set_set]) rfl (by simp) rfl (by decide) (fun z => by cases z) (by decide)) rfl rfl rfl ?_
        refine me1 (pc' := 103) (L' := [(2, .ref qf), (0, .ref 16), (1, .ref p)]) (S' := [.ref 16]) dm_X1_startCall_102 rfl rfl rfl rfl ?_
        refine me3 (pc' := 106) (S' := [.ref 33]) dm_X1_startCall_103 (g_get (v := .ref 33) (hl_set (hl_lt h16)) rfl rfl (by decide)) rfl rfl rfl ?_
        refine me1 (pc' := 107) (L' := [(2, .ref qf), (0, .ref 16), (1, .ref p)]) (S' := [.ref 16, .ref 33]) dm_X1_startCall_106 rfl rfl rfl rfl ?_
        refine me3 (pc' := 110) (S' := [ii (dq : Int), .ref 33]) dm_X1_startCall_107 (g_get (v := ii (dq : Int)) (hl_set (hl_lt h16)) rfl rfl (by decide)) rfl rfl rfl ?_
        refine me3 (pc' := 111) (S' := [.ref fr]) dm_X1_startCall_110 (yh_aald (w := some fr) rfl (hl_ne (by decide) h33) (by omega) (by omega) (by omega) (by decide) hff) rfl rfl rfl ?_
        refine me1 (pc' := 112) (L' := [(3, .ref fr), (2, .ref qf), (0, .ref 16), (1, .ref p)]) (S' := []) dm_X1_startCall_111 rfl rfl rfl rfl ?_
        refine me1 (pc' := 113) (L' := [(3, .ref fr), (2, .ref qf), (0, .ref 16), (1, .ref p)]) (S' := [.ref 16]) dm_X1_startCall_112 rfl rfl rfl rfl ?_
        refine me0 (pc' := 114) (S' := [.ref 16, .ref 16]) dm_X1_startCall_113 rfl rfl rfl rfl ?_
        refine me3 (pc' := 117) (S' := [ii (dq : Int), .ref 16]) dm_X1_startCall_114 (g_get (v := ii (dq : Int)) (hl_set (hl_lt h16)) rfl rfl (by decide)) rfl rfl rfl ?_
        refine me0 (pc' := 118) (S' := [ii 1, ii (dq : Int), .ref 16]) dm_X1_startCall_117 rfl rfl rfl rfl ?_
        refine y_iadd (a := (dq : Int)) (b := 1) dm_X1_startCall_118 (pc' := 119) rfl ?_
        refine me3 (pc' := 122) (S' := []) (h1 := (h).set 16 (cO 1 [.ref 4, .ref 17, .ref 26, .ref 32, ii (t : Int), .ref 33, ii ((dq : Int) + 1), ii (ca + 1), ii ou, ii (wk - 5), ii er, ii pl, oV bn, oV bx, oV by_, .null, ii lv, .null, .ref qw])) dm_X1_startCall_119 (g_put (fs' := [.ref 4, .ref 17, .ref 26, .ref 32, ii (t : Int), .ref 33, ii ((dq : Int) + 1), ii (ca + 1), ii ou, ii (wk - 5), ii er, ii pl, oV bn, oV bx, oV by_, .null, ii lv, .null, .ref qw]) (hl_set (hl_lt h16)) rfl (by rw [List.set_set]) rfl (by simp) rfl (by decide) (fun z => by cases z) (by decide)) rfl rfl rfl ?_
        refine me1 (pc' := 123) (L' := [(3, .ref fr), (2, .ref qf), (0, .ref 16), (1, .ref p)]) (S' := [.ref fr]) dm_X1_startCall_122 rfl rfl rfl rfl ?_
        refine me0 (pc' := 124) (S' := [ii 0, .ref fr]) dm_X1_startCall_123 rfl rfl rfl rfl ?_
        refine me3 (pc' := 127) (S' := []) (h1 := ((h).set 16 (cO 1 [.ref 4, .ref 17, .ref 26, .ref 32, ii (t : Int), .ref 33, ii ((dq : Int) + 1), ii (ca + 1), ii ou, ii (wk - 5), ii er, ii pl, oV bn, oV bx, oV by_, .null, ii lv, .null, .ref qw])).set fr (cO 0 [ii 0, fo, fx, fy, ii fn, ii fm, ii fb])) dm_X1_startCall_124 (g_put (fs' := [ii 0, fo, fx, fy, ii fn, ii fm, ii fb]) (hl_ne (by omega) hfr) rfl rfl rfl (by simp) rfl (by decide) (fun z => by cases z) (by omega)) rfl rfl rfl ?_
        refine me1 (pc' := 128) (L' := [(3, .ref fr), (2, .ref qf), (0, .ref 16), (1, .ref p)]) (S' := [.ref fr]) dm_X1_startCall_127 rfl rfl rfl rfl ?_
        refine me1 (pc' := 129) (L' := [(3, .ref fr), (2, .ref qf), (0, .ref 16), (1, .ref p)]) (S' := [.ref 16, .ref fr]) dm_X1_startCall_128 rfl rfl rfl rfl ?_
        refine me3 (pc' := 132) (S' := [oV bn, .ref fr]) dm_X1_startCall_129 (g_get (v := oV bn) (hl_ne (by omega) (hl_set (hl_lt h16))) rfl rfl (by decide)) rfl rfl rfl ?_
        refine me3 (pc' := 135) (S' := []) (h1 := ((h).set 16 (cO 1 [.ref 4, .ref 17, .ref 26, .ref 32, ii (t : Int), .ref 33, ii ((dq : Int) + 1), ii (ca + 1), ii ou, ii (wk - 5), ii er, ii pl, oV bn, oV bx, oV by_, .null, ii lv, .null, .ref qw])).set fr (cO 0 [ii 0, oV bn, fx, fy, ii fn, ii fm, ii fb])) dm_X1_startCall_132 (g_put (fs' := [ii 0, oV bn, fx, fy, ii fn, ii fm, ii fb]) (hl_set (hl_lt (hl_ne (by omega) hfr))) rfl (by rw [List.set_set]) rfl (by simp) (oV_fit _ _) (by decide) (fun z => by cases z) (by omega)) rfl rfl rfl ?_
        refine me1 (pc' := 136) (L' := [(3, .ref fr), (2, .ref qf), (0, .ref 16), (1, .ref p)]) (S' := [.ref fr]) dm_X1_startCall_135 rfl rfl rfl rfl ?_
        refine me1 (pc' := 137) (L' := [(3, .ref fr), (2, .ref qf), (0, .ref 16), (1, .ref p)]) (S' := [.ref 16, .ref fr]) dm_X1_startCall_136 rfl rfl rfl rfl ?_
        refine me3 (pc' := 140) (S' := [oV bx, .ref fr]) dm_X1_startCall_137 (g_get (v := oV bx) (hl_ne (by omega) (hl_set (hl_lt h16))) rfl rfl (by decide)) rfl rfl rfl ?_
        refine me3 (pc' := 143) (S' := []) (h1 := ((h).set 16 (cO 1 [.ref 4, .ref 17, .ref 26, .ref 32, ii (t : Int), .ref 33, ii ((dq : Int) + 1), ii (ca + 1), ii ou, ii (wk - 5), ii er, ii pl, oV bn, oV bx, oV by_, .null, ii lv, .null, .ref qw])).set fr (cO 0 [ii 0, oV bn, oV bx, fy, ii fn, ii fm, ii fb])) dm_X1_startCall_140 (g_put (fs' := [ii 0, oV bn, oV bx, fy, ii fn, ii fm, ii fb]) (hl_set (hl_lt (hl_ne (by omega) hfr))) rfl (by rw [List.set_set]) rfl (by simp) (oV_fit _ _) (by decide) (fun z => by cases z) (by omega)) rfl rfl rfl ?_
        refine me1 (pc' := 144) (L' := [(3, .ref fr), (2, .ref qf), (0, .ref 16), (1, .ref p)]) (S' := [.ref fr]) dm_X1_startCall_143 rfl rfl rfl rfl ?_
        refine me1 (pc' := 145) (L' := [(3, .ref fr), (2, .ref qf), (0, .ref 16), (1, .ref p)]) (S' := [.ref 16, .ref fr]) dm_X1_startCall_144 rfl rfl rfl rfl ?_
        refine me3 (pc' := 148) (S' := [oV by_, .ref fr]) dm_X1_startCall_145 (g_get (v := oV by_) (hl_ne (by omega) (hl_set (hl_lt h16))) rfl rfl (by decide)) rfl rfl rfl ?_
        refine me3 (pc' := 151) (S' := []) (h1 := ((h).set 16 (cO 1 [.ref 4, .ref 17, .ref 26, .ref 32, ii (t : Int), .ref 33, ii ((dq : Int) + 1), ii (ca + 1), ii ou, ii (wk - 5), ii er, ii pl, oV bn, oV bx, oV by_, .null, ii lv, .null, .ref qw])).set fr (cO 0 [ii 0, oV bn, oV bx, oV by_, ii fn, ii fm, ii fb])) dm_X1_startCall_148 (g_put (fs' := [ii 0, oV bn, oV bx, oV by_, ii fn, ii fm, ii fb]) (hl_set (hl_lt (hl_ne (by omega) hfr))) rfl (by rw [List.set_set]) rfl (by simp) (oV_fit _ _) (by decide) (fun z => by cases z) (by omega)) rfl rfl rfl ?_
        refine me1 (pc' := 152) (L' := [(3, .ref fr), (2, .ref qf), (0, .ref 16), (1, .ref p)]) (S' := [.ref 16]) dm_X1_startCall_151 rfl rfl rfl rfl ?_
        refine me1 (pc' := 153) (L' := [(3, .ref fr), (2, .ref qf), (0, .ref 16), (1, .ref p)]) (S' := [.ref qf, .ref 16]) dm_X1_startCall_152 rfl rfl rfl rfl ?_
        refine me3 (pc' := 156) (S' := []) (h1 := (((h).set 16 (cO 1 [.ref 4, .ref 17, .ref 26, .ref 32, ii (t : Int), .ref 33, ii ((dq : Int) + 1), ii (ca + 1), ii ou, ii (wk - 5), ii er, ii pl, oV bn, oV bx, oV by_, .null, ii lv, .null, .ref qw])).set fr (cO 0 [ii 0, oV bn, oV bx, oV by_, ii fn, ii fm, ii fb])).set 16 (cO 1 [.ref 4, .ref 17, .ref 26, .ref 32, ii (t : Int), .ref 33, ii ((dq : Int) + 1), ii (ca + 1), ii ou, ii (wk - 5), ii er, ii pl, .ref qf, oV bx, oV by_, .null, ii lv, .null, .ref qw])) dm_X1_startCall_153 (g_put (fs' := [.ref 4, .ref 17, .ref 26, .ref 32, ii (t : Int), .ref 33, ii ((dq : Int) + 1), ii (ca + 1), ii ou, ii (wk - 5), ii er, ii pl, .ref qf, oV bx, oV by_, .null, ii lv, .null, .ref qw]) (hl_ne (by omega) (hl_set (hl_lt h16))) rfl rfl rfl (by simp) rfl (by decide) (fun z => by cases z) (by decide)) rfl rfl rfl ?_
        refine me1 (pc' := 157) (L' := [(3, .ref fr), (2, .ref qf), (0, .ref 16), (1, .ref p)]) (S' := [.ref 16]) dm_X1_startCall_156 rfl rfl rfl rfl ?_
        refine me1 (pc' := 158) (L' := [(3, .ref fr), (2, .ref qf), (0, .ref 16), (1, .ref p)]) (S' := [.ref 16, .ref 16]) dm_X1_startCall_157 rfl rfl rfl rfl ?_
        refine me3 (pc' := 161) (S' := [.null, .ref 16]) dm_X1_startCall_158 (g_get (v := .null) (hl_set (hl_lt (hl_ne (by omega) (hl_set (hl_lt h16))))) rfl rfl (by decide)) rfl rfl rfl ?_
        refine me2 (pc' := 164) (S' := [.ref 16]) dm_X1_startCall_161 rfl rfl rfl ?_
        refine me1 (pc' := 165) (L' := [(3, .ref fr), (2, .ref qf), (0, .ref 16), (1, .ref p)]) (S' := [.ref 16, .ref 16]) dm_X1_startCall_164 rfl rfl rfl rfl ?_
        refine me3 (pc' := 168) (S' := [.ref qw, .ref 16]) dm_X1_startCall_165 (g_get (v := .ref qw) (hl_set (hl_lt (hl_ne (by omega) (hl_set (hl_lt h16))))) rfl rfl (by decide)) rfl rfl rfl ?_
        refine me2 (pc' := 175) (S' := [.ref qw, .ref 16]) dm_X1_startCall_168 rfl rfl rfl ?_
        refine me3 (pc' := 178) (S' := []) (h1 := (((h).set 16 (cO 1 [.ref 4, .ref 17, .ref 26, .ref 32, ii (t : Int), .ref 33, ii ((dq : Int) + 1), ii (ca + 1), ii ou, ii (wk - 5), ii er, ii pl, oV bn, oV bx, oV by_, .null, ii lv, .null, .ref qw])).set fr (cO 0 [ii 0, oV bn, oV bx, oV by_, ii fn, ii fm, ii fb])).set 16 (cO 1 [.ref 4, .ref 17, .ref 26, .ref 32, ii (t : Int), .ref 33, ii ((dq : Int) + 1), ii (ca + 1), ii ou, ii (wk - 5), ii er, ii pl, .ref qf, .ref qw, oV by_, .null, ii lv, .null, .ref qw])) dm_X1_startCall_175 (g_put (fs' := [.ref 4, .ref 17, .ref 26, .ref 32, ii (t : Int), .ref 33, ii ((dq : Int) + 1), ii (ca + 1), ii ou, ii (wk - 5), ii er, ii pl, .ref qf, .ref qw, oV by_, .null, ii lv, .null, .ref qw]) (hl_set (hl_lt (hl_ne (by omega) (hl_set (hl_lt h16))))) rfl (by rw [List.set_set]) rfl (by simp) rfl (by decide) (fun z => by cases z) (by decide)) rfl rfl rfl ?_
        refine me1 (pc' := 179) (L' := [(3, .ref fr), (2, .ref qf), (0, .ref 16), (1, .ref p)]) (S' := [.ref 16]) dm_X1_startCall_178 rfl rfl rfl rfl ?_
        refine me1 (pc' := 180) (L' := [(3, .ref fr), (2, .ref qf), (0, .ref 16), (1, .ref p)]) (S' := [.ref 16, .ref 16]) dm_X1_startCall_179 rfl rfl rfl rfl ?_
        refine me3 (pc' := 183) (S' := [.null, .ref 16]) dm_X1_startCall_180 (g_get (v := .null) (hl_set (hl_lt (hl_ne (by omega) (hl_set (hl_lt h16))))) rfl rfl (by decide)) rfl rfl rfl ?_
        refine me2 (pc' := 186) (S' := [.ref 16]) dm_X1_startCall_183 rfl rfl rfl ?_
        refine me0 (pc' := 187) (S' := [.null, .ref 16]) dm_X1_startCall_186 rfl rfl rfl rfl ?_
        refine me2 (pc' := 194) (S' := [.null, .ref 16]) dm_X1_startCall_187 rfl rfl rfl ?_
        refine me3 (pc' := 197) (S' := []) (h1 := (((h).set 16 (cO 1 [.ref 4, .ref 17, .ref 26, .ref 32, ii (t : Int), .ref 33, ii ((dq : Int) + 1), ii (ca + 1), ii ou, ii (wk - 5), ii er, ii pl, oV bn, oV bx, oV by_, .null, ii lv, .null, .ref qw])).set fr (cO 0 [ii 0, oV bn, oV bx, oV by_, ii fn, ii fm, ii fb])).set 16 (cO 1 [.ref 4, .ref 17, .ref 26, .ref 32, ii (t : Int), .ref 33, ii ((dq : Int) + 1), ii (ca + 1), ii ou, ii (wk - 5), ii er, ii pl, .ref qf, .ref qw, .null, .null, ii lv, .null, .ref qw])) dm_X1_startCall_194 (g_put (fs' := [.ref 4, .ref 17, .ref 26, .ref 32, ii (t : Int), .ref 33, ii ((dq : Int) + 1), ii (ca + 1), ii ou, ii (wk - 5), ii er, ii pl, .ref qf, .ref qw, .null, .null, ii lv, .null, .ref qw]) (hl_set (hl_lt (hl_ne (by omega) (hl_set (hl_lt h16))))) rfl (by rw [List.set_set]) rfl (by simp) rfl (by decide) (fun z => by cases z) (by decide)) rfl rfl rfl ?_
        refine y_ret (r := none) dm_X1_startCall_197 rfl rfl rfl ?_
        refine ⟨rfl, ?_⟩
        rw [← hH, List.set_comm _ _ (show fr ≠ 16 by omega), List.set_set]
        first | rw [if_pos (by omega)] | rw [if_neg (by omega)]
      · refine me1 (pc' := 79) (L' := [(2, .ref qf), (0, .ref 16), (1, .ref p)]) (S' := [.ref p, .ref 16]) dm_X1_startCall_78 rfl rfl rfl rfl ?_
        refine me3 (pc' := 82) (S' := [ii pp, .ref 16]) dm_X1_startCall_79 (g_get (v := ii pp) (hl_ne (by omega) hp) rfl rfl (by omega)) rfl rfl rfl ?_
        refine me2 (pc' := 89) (S' := [ii pp, .ref 16]) dm_X1_startCall_82 rfl rfl rfl ?_
        refine me3 (pc' := 92) (S' := []) (h1 := (h).set 16 (cO 1 [.ref 4, .ref 17, .ref 26, .ref 32, ii (t : Int), .ref 33, ii (dq : Int), ii ca, ii pp, ii (wk - 5), ii er, ii pl, oV bn, oV bx, oV by_, .null, ii lv, .null, .ref qw])) dm_X1_startCall_89 (g_put (fs' := [.ref 4, .ref 17, .ref 26, .ref 32, ii (t : Int), .ref 33, ii (dq : Int), ii ca, ii pp, ii (wk - 5), ii er, ii pl, oV bn, oV bx, oV by_, .null, ii lv, .null, .ref qw]) (hl_set (hl_lt h16)) rfl (by rw [List.set_set]) rfl (by simp) rfl (by decide) (fun z => by cases z) (by decide)) rfl rfl rfl ?_
        refine me1 (pc' := 93) (L' := [(2, .ref qf), (0, .ref 16), (1, .ref p)]) (S' := [.ref 16]) dm_X1_startCall_92 rfl rfl rfl rfl ?_
        refine me0 (pc' := 94) (S' := [.ref 16, .ref 16]) dm_X1_startCall_93 rfl rfl rfl rfl ?_
        refine me3 (pc' := 97) (S' := [ii ca, .ref 16]) dm_X1_startCall_94 (g_get (v := ii ca) (hl_set (hl_lt h16)) rfl rfl (by decide)) rfl rfl rfl ?_
        refine me0 (pc' := 98) (S' := [ii 1, ii ca, .ref 16]) dm_X1_startCall_97 rfl rfl rfl rfl ?_
        refine y_iadd (a := ca) (b := 1) dm_X1_startCall_98 (pc' := 99) rfl ?_
        refine me3 (pc' := 102) (S' := []) (h1 := (h).set 16 (cO 1 [.ref 4, .ref 17, .ref 26, .ref 32, ii (t : Int), .ref 33, ii (dq : Int), ii (ca + 1), ii pp, ii (wk - 5), ii er, ii pl, oV bn, oV bx, oV by_, .null, ii lv, .null, .ref qw])) dm_X1_startCall_99 (g_put (fs' := [.ref 4, .ref 17, .ref 26, .ref 32, ii (t : Int), .ref 33, ii (dq : Int), ii (ca + 1), ii pp, ii (wk - 5), ii er, ii pl, oV bn, oV bx, oV by_, .null, ii lv, .null, .ref qw]) (hl_set (hl_lt h16)) rfl (by rw [List.set_set]) rfl (by simp) rfl (by decide) (fun z => by cases z) (by decide)) rfl rfl rfl ?_
        refine me1 (pc' := 103) (L' := [(2, .ref qf), (0, .ref 16), (1, .ref p)]) (S' := [.ref 16]) dm_X1_startCall_102 rfl rfl rfl rfl ?_
        refine me3 (pc' := 106) (S' := [.ref 33]) dm_X1_startCall_103 (g_get (v := .ref 33) (hl_set (hl_lt h16)) rfl rfl (by decide)) rfl rfl rfl ?_
        refine me1 (pc' := 107) (L' := [(2, .ref qf), (0, .ref 16), (1, .ref p)]) (S' := [.ref 16, .ref 33]) dm_X1_startCall_106 rfl rfl rfl rfl ?_
        refine me3 (pc' := 110) (S' := [ii (dq : Int), .ref 33]) dm_X1_startCall_107 (g_get (v := ii (dq : Int)) (hl_set (hl_lt h16)) rfl rfl (by decide)) rfl rfl rfl ?_
        refine me3 (pc' := 111) (S' := [.ref fr]) dm_X1_startCall_110 (yh_aald (w := some fr) rfl (hl_ne (by decide) h33) (by omega) (by omega) (by omega) (by decide) hff) rfl rfl rfl ?_
        refine me1 (pc' := 112) (L' := [(3, .ref fr), (2, .ref qf), (0, .ref 16), (1, .ref p)]) (S' := []) dm_X1_startCall_111 rfl rfl rfl rfl ?_
        refine me1 (pc' := 113) (L' := [(3, .ref fr), (2, .ref qf), (0, .ref 16), (1, .ref p)]) (S' := [.ref 16]) dm_X1_startCall_112 rfl rfl rfl rfl ?_
        refine me0 (pc' := 114) (S' := [.ref 16, .ref 16]) dm_X1_startCall_113 rfl rfl rfl rfl ?_
        refine me3 (pc' := 117) (S' := [ii (dq : Int), .ref 16]) dm_X1_startCall_114 (g_get (v := ii (dq : Int)) (hl_set (hl_lt h16)) rfl rfl (by decide)) rfl rfl rfl ?_
        refine me0 (pc' := 118) (S' := [ii 1, ii (dq : Int), .ref 16]) dm_X1_startCall_117 rfl rfl rfl rfl ?_
        refine y_iadd (a := (dq : Int)) (b := 1) dm_X1_startCall_118 (pc' := 119) rfl ?_
        refine me3 (pc' := 122) (S' := []) (h1 := (h).set 16 (cO 1 [.ref 4, .ref 17, .ref 26, .ref 32, ii (t : Int), .ref 33, ii ((dq : Int) + 1), ii (ca + 1), ii pp, ii (wk - 5), ii er, ii pl, oV bn, oV bx, oV by_, .null, ii lv, .null, .ref qw])) dm_X1_startCall_119 (g_put (fs' := [.ref 4, .ref 17, .ref 26, .ref 32, ii (t : Int), .ref 33, ii ((dq : Int) + 1), ii (ca + 1), ii pp, ii (wk - 5), ii er, ii pl, oV bn, oV bx, oV by_, .null, ii lv, .null, .ref qw]) (hl_set (hl_lt h16)) rfl (by rw [List.set_set]) rfl (by simp) rfl (by decide) (fun z => by cases z) (by decide)) rfl rfl rfl ?_
        refine me1 (pc' := 123) (L' := [(3, .ref fr), (2, .ref qf), (0, .ref 16), (1, .ref p)]) (S' := [.ref fr]) dm_X1_startCall_122 rfl rfl rfl rfl ?_
        refine me0 (pc' := 124) (S' := [ii 0, .ref fr]) dm_X1_startCall_123 rfl rfl rfl rfl ?_
        refine me3 (pc' := 127) (S' := []) (h1 := ((h).set 16 (cO 1 [.ref 4, .ref 17, .ref 26, .ref 32, ii (t : Int), .ref 33, ii ((dq : Int) + 1), ii (ca + 1), ii pp, ii (wk - 5), ii er, ii pl, oV bn, oV bx, oV by_, .null, ii lv, .null, .ref qw])).set fr (cO 0 [ii 0, fo, fx, fy, ii fn, ii fm, ii fb])) dm_X1_startCall_124 (g_put (fs' := [ii 0, fo, fx, fy, ii fn, ii fm, ii fb]) (hl_ne (by omega) hfr) rfl rfl rfl (by simp) rfl (by decide) (fun z => by cases z) (by omega)) rfl rfl rfl ?_
        refine me1 (pc' := 128) (L' := [(3, .ref fr), (2, .ref qf), (0, .ref 16), (1, .ref p)]) (S' := [.ref fr]) dm_X1_startCall_127 rfl rfl rfl rfl ?_
        refine me1 (pc' := 129) (L' := [(3, .ref fr), (2, .ref qf), (0, .ref 16), (1, .ref p)]) (S' := [.ref 16, .ref fr]) dm_X1_startCall_128 rfl rfl rfl rfl ?_
        refine me3 (pc' := 132) (S' := [oV bn, .ref fr]) dm_X1_startCall_129 (g_get (v := oV bn) (hl_ne (by omega) (hl_set (hl_lt h16))) rfl rfl (by decide)) rfl rfl rfl ?_
        refine me3 (pc' := 135) (S' := []) (h1 := ((h).set 16 (cO 1 [.ref 4, .ref 17, .ref 26, .ref 32, ii (t : Int), .ref 33, ii ((dq : Int) + 1), ii (ca + 1), ii pp, ii (wk - 5), ii er, ii pl, oV bn, oV bx, oV by_, .null, ii lv, .null, .ref qw])).set fr (cO 0 [ii 0, oV bn, fx, fy, ii fn, ii fm, ii fb])) dm_X1_startCall_132 (g_put (fs' := [ii 0, oV bn, fx, fy, ii fn, ii fm, ii fb]) (hl_set (hl_lt (hl_ne (by omega) hfr))) rfl (by rw [List.set_set]) rfl (by simp) (oV_fit _ _) (by decide) (fun z => by cases z) (by omega)) rfl rfl rfl ?_
        refine me1 (pc' := 136) (L' := [(3, .ref fr), (2, .ref qf), (0, .ref 16), (1, .ref p)]) (S' := [.ref fr]) dm_X1_startCall_135 rfl rfl rfl rfl ?_
        refine me1 (pc' := 137) (L' := [(3, .ref fr), (2, .ref qf), (0, .ref 16), (1, .ref p)]) (S' := [.ref 16, .ref fr]) dm_X1_startCall_136 rfl rfl rfl rfl ?_
        refine me3 (pc' := 140) (S' := [oV bx, .ref fr]) dm_X1_startCall_137 (g_get (v := oV bx) (hl_ne (by omega) (hl_set (hl_lt h16))) rfl rfl (by decide)) rfl rfl rfl ?_
        refine me3 (pc' := 143) (S' := []) (h1 := ((h).set 16 (cO 1 [.ref 4, .ref 17, .ref 26, .ref 32, ii (t : Int), .ref 33, ii ((dq : Int) + 1), ii (ca + 1), ii pp, ii (wk - 5), ii er, ii pl, oV bn, oV bx, oV by_, .null, ii lv, .null, .ref qw])).set fr (cO 0 [ii 0, oV bn, oV bx, fy, ii fn, ii fm, ii fb])) dm_X1_startCall_140 (g_put (fs' := [ii 0, oV bn, oV bx, fy, ii fn, ii fm, ii fb]) (hl_set (hl_lt (hl_ne (by omega) hfr))) rfl (by rw [List.set_set]) rfl (by simp) (oV_fit _ _) (by decide) (fun z => by cases z) (by omega)) rfl rfl rfl ?_
        refine me1 (pc' := 144) (L' := [(3, .ref fr), (2, .ref qf), (0, .ref 16), (1, .ref p)]) (S' := [.ref fr]) dm_X1_startCall_143 rfl rfl rfl rfl ?_
        refine me1 (pc' := 145) (L' := [(3, .ref fr), (2, .ref qf), (0, .ref 16), (1, .ref p)]) (S' := [.ref 16, .ref fr]) dm_X1_startCall_144 rfl rfl rfl rfl ?_
        refine me3 (pc' := 148) (S' := [oV by_, .ref fr]) dm_X1_startCall_145 (g_get (v := oV by_) (hl_ne (by omega) (hl_set (hl_lt h16))) rfl rfl (by decide)) rfl rfl rfl ?_
        refine me3 (pc' := 151) (S' := []) (h1 := ((h).set 16 (cO 1 [.ref 4, .ref 17, .ref 26, .ref 32, ii (t : Int), .ref 33, ii ((dq : Int) + 1), ii (ca + 1), ii pp, ii (wk - 5), ii er, ii pl, oV bn, oV bx, oV by_, .null, ii lv, .null, .ref qw])).set fr (cO 0 [ii 0, oV bn, oV bx, oV by_, ii fn, ii fm, ii fb])) dm_X1_startCall_148 (g_put (fs' := [ii 0, oV bn, oV bx, oV by_, ii fn, ii fm, ii fb]) (hl_set (hl_lt (hl_ne (by omega) hfr))) rfl (by rw [List.set_set]) rfl (by simp) (oV_fit _ _) (by decide) (fun z => by cases z) (by omega)) rfl rfl rfl ?_
        refine me1 (pc' := 152) (L' := [(3, .ref fr), (2, .ref qf), (0, .ref 16), (1, .ref p)]) (S' := [.ref 16]) dm_X1_startCall_151 rfl rfl rfl rfl ?_
        refine me1 (pc' := 153) (L' := [(3, .ref fr), (2, .ref qf), (0, .ref 16), (1, .ref p)]) (S' := [.ref qf, .ref 16]) dm_X1_startCall_152 rfl rfl rfl rfl ?_
        refine me3 (pc' := 156) (S' := []) (h1 := (((h).set 16 (cO 1 [.ref 4, .ref 17, .ref 26, .ref 32, ii (t : Int), .ref 33, ii ((dq : Int) + 1), ii (ca + 1), ii pp, ii (wk - 5), ii er, ii pl, oV bn, oV bx, oV by_, .null, ii lv, .null, .ref qw])).set fr (cO 0 [ii 0, oV bn, oV bx, oV by_, ii fn, ii fm, ii fb])).set 16 (cO 1 [.ref 4, .ref 17, .ref 26, .ref 32, ii (t : Int), .ref 33, ii ((dq : Int) + 1), ii (ca + 1), ii pp, ii (wk - 5), ii er, ii pl, .ref qf, oV bx, oV by_, .null, ii lv, .null, .ref qw])) dm_X1_startCall_153 (g_put (fs' := [.ref 4, .ref 17, .ref 26, .ref 32, ii (t : Int), .ref 33, ii ((dq : Int) + 1), ii (ca + 1), ii pp, ii (wk - 5), ii er, ii pl, .ref qf, oV bx, oV by_, .null, ii lv, .null, .ref qw]) (hl_ne (by omega) (hl_set (hl_lt h16))) rfl rfl rfl (by simp) rfl (by decide) (fun z => by cases z) (by decide)) rfl rfl rfl ?_
        refine me1 (pc' := 157) (L' := [(3, .ref fr), (2, .ref qf), (0, .ref 16), (1, .ref p)]) (S' := [.ref 16]) dm_X1_startCall_156 rfl rfl rfl rfl ?_
        refine me1 (pc' := 158) (L' := [(3, .ref fr), (2, .ref qf), (0, .ref 16), (1, .ref p)]) (S' := [.ref 16, .ref 16]) dm_X1_startCall_157 rfl rfl rfl rfl ?_
        refine me3 (pc' := 161) (S' := [.null, .ref 16]) dm_X1_startCall_158 (g_get (v := .null) (hl_set (hl_lt (hl_ne (by omega) (hl_set (hl_lt h16))))) rfl rfl (by decide)) rfl rfl rfl ?_
        refine me2 (pc' := 164) (S' := [.ref 16]) dm_X1_startCall_161 rfl rfl rfl ?_
        refine me1 (pc' := 165) (L' := [(3, .ref fr), (2, .ref qf), (0, .ref 16), (1, .ref p)]) (S' := [.ref 16, .ref 16]) dm_X1_startCall_164 rfl rfl rfl rfl ?_
        refine me3 (pc' := 168) (S' := [.ref qw, .ref 16]) dm_X1_startCall_165 (g_get (v := .ref qw) (hl_set (hl_lt (hl_ne (by omega) (hl_set (hl_lt h16))))) rfl rfl (by decide)) rfl rfl rfl ?_
        refine me2 (pc' := 175) (S' := [.ref qw, .ref 16]) dm_X1_startCall_168 rfl rfl rfl ?_
        refine me3 (pc' := 178) (S' := []) (h1 := (((h).set 16 (cO 1 [.ref 4, .ref 17, .ref 26, .ref 32, ii (t : Int), .ref 33, ii ((dq : Int) + 1), ii (ca + 1), ii pp, ii (wk - 5), ii er, ii pl, oV bn, oV bx, oV by_, .null, ii lv, .null, .ref qw])).set fr (cO 0 [ii 0, oV bn, oV bx, oV by_, ii fn, ii fm, ii fb])).set 16 (cO 1 [.ref 4, .ref 17, .ref 26, .ref 32, ii (t : Int), .ref 33, ii ((dq : Int) + 1), ii (ca + 1), ii pp, ii (wk - 5), ii er, ii pl, .ref qf, .ref qw, oV by_, .null, ii lv, .null, .ref qw])) dm_X1_startCall_175 (g_put (fs' := [.ref 4, .ref 17, .ref 26, .ref 32, ii (t : Int), .ref 33, ii ((dq : Int) + 1), ii (ca + 1), ii pp, ii (wk - 5), ii er, ii pl, .ref qf, .ref qw, oV by_, .null, ii lv, .null, .ref qw]) (hl_set (hl_lt (hl_ne (by omega) (hl_set (hl_lt h16))))) rfl (by rw [List.set_set]) rfl (by simp) rfl (by decide) (fun z => by cases z) (by decide)) rfl rfl rfl ?_
        refine me1 (pc' := 179) (L' := [(3, .ref fr), (2, .ref qf), (0, .ref 16), (1, .ref p)]) (S' := [.ref 16]) dm_X1_startCall_178 rfl rfl rfl rfl ?_
        refine me1 (pc' := 180) (L' := [(3, .ref fr), (2, .ref qf), (0, .ref 16), (1, .ref p)]) (S' := [.ref 16, .ref 16]) dm_X1_startCall_179 rfl rfl rfl rfl ?_
        refine me3 (pc' := 183) (S' := [.null, .ref 16]) dm_X1_startCall_180 (g_get (v := .null) (hl_set (hl_lt (hl_ne (by omega) (hl_set (hl_lt h16))))) rfl rfl (by decide)) rfl rfl rfl ?_
        refine me2 (pc' := 186) (S' := [.ref 16]) dm_X1_startCall_183 rfl rfl rfl ?_
        refine me0 (pc' := 187) (S' := [.null, .ref 16]) dm_X1_startCall_186 rfl rfl rfl rfl ?_
        refine me2 (pc' := 194) (S' := [.null, .ref 16]) dm_X1_startCall_187 rfl rfl rfl ?_
        refine me3 (pc' := 197) (S' := []) (h1 := (((h).set 16 (cO 1 [.ref 4, .ref 17, .ref 26, .ref 32, ii (t : Int), .ref 33, ii ((dq : Int) + 1), ii (ca + 1), ii pp, ii (wk - 5), ii er, ii pl, oV bn, oV bx, oV by_, .null, ii lv, .null, .ref qw])).set fr (cO 0 [ii 0, oV bn, oV bx, oV by_, ii fn, ii fm, ii fb])).set 16 (cO 1 [.ref 4, .ref 17, .ref 26, .ref 32, ii (t : Int), .ref 33, ii ((dq : Int) + 1), ii (ca + 1), ii pp, ii (wk - 5), ii er, ii pl, .ref qf, .ref qw, .null, .null, ii lv, .null, .ref qw])) dm_X1_startCall_194 (g_put (fs' := [.ref 4, .ref 17, .ref 26, .ref 32, ii (t : Int), .ref 33, ii ((dq : Int) + 1), ii (ca + 1), ii pp, ii (wk - 5), ii er, ii pl, .ref qf, .ref qw, .null, .null, ii lv, .null, .ref qw]) (hl_set (hl_lt (hl_ne (by omega) (hl_set (hl_lt h16))))) rfl (by rw [List.set_set]) rfl (by simp) rfl (by decide) (fun z => by cases z) (by decide)) rfl rfl rfl ?_
        refine y_ret (r := none) dm_X1_startCall_197 rfl rfl rfl ?_
        refine ⟨rfl, ?_⟩
        rw [← hH, List.set_comm _ _ (show fr ≠ 16 by omega), List.set_set]
        first | rw [if_pos (by omega)] | rw [if_neg (by omega)]
    · exfalso; omega
