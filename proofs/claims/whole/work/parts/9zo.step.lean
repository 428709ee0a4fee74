set_option maxRecDepth 20000 in
theorem pm_X1_step : mj_mmof pg_ms 166 = some ((⟨"ArrayCalculator$Machine", "step", "(LArrayCalculator$Op;)V"⟩, prog_3_method_12_code, 3, (Option.none : Option Jvm.ClassFile.FieldType)), 1, false, mj_dec prog_3_method_12_code) := rfl
theorem dm_X1_step_0 : mj_dec prog_3_method_12_code 0 = some (.aload_n 0, 1) := by decide +kernel
theorem dm_X1_step_1 : mj_dec prog_3_method_12_code 1 = some (.aload_n 1, 1) := by decide +kernel
theorem dm_X1_step_2 : mj_dec prog_3_method_12_code 2 = some (.getfield 129, 3) := by decide +kernel
theorem dm_X1_step_5 : mj_dec prog_3_method_12_code 5 = some (.putfield 73, 3) := by decide +kernel
theorem dm_X1_step_8 : mj_dec prog_3_method_12_code 8 = some (.aload_n 1, 1) := by decide +kernel
theorem dm_X1_step_9 : mj_dec prog_3_method_12_code 9 = some (.getfield 132, 3) := by decide +kernel
theorem dm_X1_step_12 : mj_dec prog_3_method_12_code 12 = some (.tableswitch 141 1 7 #[44, 55, 63, 80, 102, 121, 133], 44) := by decide +kernel
theorem dm_X1_step_153 : mj_dec prog_3_method_12_code 153 = some (.return_, 1) := by decide +kernel
theorem m_st0 {xt : mj_X} {d t p : Nat} {h : mj_H} {dp ca ou wk pl lv : Int} {nw vx vy lf rt : Value} {pp ov oa om ot : Int} {onm : Int64} {ovl oot : Value} {onx : Option Nat} (hd : 4 ≤ d) (h16 : h[16]? = some (cO 1 [.ref 4, .ref 17, .ref 26, .ref 32, ii (t : Int), .ref 33, ii dp, ii ca, ii ou, ii wk, ii 0, ii pl, nw, vx, vy, .null, ii lv, lf, rt])) (hp : h[p]? = some (cO 4 [ii 0, ii pp, ii ov, .long onm, ii oa, ii om, ii ot, ovl, oV onx, oot])) (hp2 : 127 ≤ p) {H : mj_H} (hH : h.set 16 (mcC (t : Int) dp ca ou wk 0 pl (oV onx) vx vy .null lv lf rt) = H) : pgN xt d 166 [.ref 16, .ref p] h (fun h' => h' = H) := by
  refine x_enter pm_X1_step (L0 := [(0, .ref 16), (1, .ref p)]) rfl (Nat.le_of_ble_eq_true rfl) (by omega) ?_
  refine me1 (pc' := 1) (L' := [(0, .ref 16), (1, .ref p)]) (S' := [.ref 16]) dm_X1_step_0 rfl rfl rfl rfl ?_
  refine me1 (pc' := 2) (L' := [(0, .ref 16), (1, .ref p)]) (S' := [.ref p, .ref 16]) dm_X1_step_1 rfl rfl rfl rfl ?_
  refine me3 (pc' := 5) (S' := [oV onx, .ref 16]) dm_X1_step_2 (g_get (v := oV onx) hp rfl rfl (by omega)) rfl rfl rfl ?_
  refine me3 (pc' := 8) (S' := []) (h1 := (h).set 16 (cO 1 [.ref 4, .ref 17, .ref 26, .ref 32, ii (t : Int), .ref 33, ii dp, ii ca, ii ou, ii wk, ii 0, ii pl, oV onx, vx, vy, .null, ii lv, lf, rt])) dm_X1_step_5 (g_put (fs' := [.ref 4, .ref 17, .ref 26, .ref 32, ii (t : Int), .ref 33, ii dp, ii ca, ii ou, ii wk, ii 0, ii pl, oV onx, vx, vy, .null, ii lv, lf, rt]) h16 rfl rfl rfl (by simp) (oV_fit _ _) (by decide) (fun z => by cases z) (by decide)) rfl rfl rfl ?_
  refine me1 (pc' := 9) (L' := [(0, .ref 16), (1, .ref p)]) (S' := [.ref p]) dm_X1_step_8 rfl rfl rfl rfl ?_
  refine me3 (pc' := 12) (S' := [ii 0]) dm_X1_step_9 (g_get (v := ii 0) (hl_ne (by omega) hp) rfl rfl (by omega)) rfl rfl rfl ?_
  refine y_sw (a := 0) (1) (t := 56) (i := .tableswitch 141 1 7 #[44, 55, 63, 80, 102, 121, 133]) (len := 44) dm_X1_step_12 rfl rfl rfl (by omega) (by decide) (fun hb1 => ?_) (fun hb1 => ?_)
  · exfalso; omega
  refine y_sw (a := 0) (2) (t := 67) (i := .tableswitch 141 1 7 #[44, 55, 63, 80, 102, 121, 133]) (len := 44) dm_X1_step_12 rfl rfl rfl (by omega) (by decide) (fun hb2 => ?_) (fun hb2 => ?_)
  · exfalso; omega
  refine y_sw (a := 0) (3) (t := 75) (i := .tableswitch 141 1 7 #[44, 55, 63, 80, 102, 121, 133]) (len := 44) dm_X1_step_12 rfl rfl rfl (by omega) (by decide) (fun hb3 => ?_) (fun hb3 => ?_)
  · exfalso; omega
  refine y_sw (a := 0) (4) (t := 92) (i := .tableswitch 141 1 7 #[44, 55, 63, 80, 102, 121, 133]) (len := 44) dm_X1_step_12 rfl rfl rfl (by omega) (by decide) (fun hb4 => ?_) (fun hb4 => ?_)
  · exfalso; omega
  refine y_sw (a := 0) (5) (t := 114) (i := .tableswitch 141 1 7 #[44, 55, 63, 80, 102, 121, 133]) (len := 44) dm_X1_step_12 rfl rfl rfl (by omega) (by decide) (fun hb5 => ?_) (fun hb5 => ?_)
  · exfalso; omega
  refine y_sw (a := 0) (6) (t := 133) (i := .tableswitch 141 1 7 #[44, 55, 63, 80, 102, 121, 133]) (len := 44) dm_X1_step_12 rfl rfl rfl (by omega) (by decide) (fun hb6 => ?_) (fun hb6 => ?_)
  · exfalso; omega
  refine y_sw (a := 0) (7) (t := 145) (i := .tableswitch 141 1 7 #[44, 55, 63, 80, 102, 121, 133]) (len := 44) dm_X1_step_12 rfl rfl rfl (by omega) (by decide) (fun hb7 => ?_) (fun hb7 => ?_)
  · exfalso; omega
  refine me2 (pc' := 153) (S' := []) dm_X1_step_12 (sw_tdef [Int32.ofInt 1, Int32.ofInt 2, Int32.ofInt 3, Int32.ofInt 4, Int32.ofInt 5, Int32.ofInt 6, Int32.ofInt 7] rfl rfl rfl ⟨y_no (by omega) (by decide) hb1, y_no (by omega) (by decide) hb2, y_no (by omega) (by decide) hb3, y_no (by omega) (by decide) hb4, y_no (by omega) (by decide) hb5, y_no (by omega) (by decide) hb6, y_no (by omega) (by decide) hb7, trivial⟩) rfl rfl ?_
  refine y_ret (r := none) dm_X1_step_153 rfl rfl rfl ?_
  exact ⟨rfl, hH⟩
theorem dm_X1_step_56 : mj_dec prog_3_method_12_code 56 = some (.aload_n 0, 1) := by decide +kernel
theorem dm_X1_step_57 : mj_dec prog_3_method_12_code 57 = some (.aload_n 1, 1) := by decide +kernel
theorem dm_X1_step_58 : mj_dec prog_3_method_12_code 58 = some (.getfield 135, 3) := by decide +kernel
theorem dm_X1_step_61 : mj_dec prog_3_method_12_code 61 = some (.invokevirtual 138, 3) := by decide +kernel
theorem dm_X1_step_64 : mj_dec prog_3_method_12_code 64 = some (.goto 89, 3) := by decide +kernel
theorem m_st1 {xt : mj_X} {d t p : Nat} {h : mj_H} {dp ca ou wk pl lv : Int} {nw vx vy lf rt : Value} {pp ov oa om ot : Int} {onm : Int64} {ovl oot : Value} {onx : Option Nat} {q : Nat} {sf : Nat → Option Nat} {v0 v1 v2 v3 v4 v5 v6 v7 v8 : Value} (hd : 4 ≤ d) (h16 : h[16]? = some (cO 1 [.ref 4, .ref 17, .ref 26, .ref 32, ii (t : Int), .ref 33, ii dp, ii ca, ii ou, ii wk, ii 0, ii pl, nw, vx, vy, .null, ii lv, lf, rt])) (hp : h[p]? = some (cO 4 [ii 1, ii pp, ii ov, .long onm, ii oa, ii om, ii ot, .ref q, oV onx, oot])) (hp2 : 127 ≤ p) (h32 : h[32]? = some (cA 4 8192 sf)) (ht : t < 8192) (hq : h[q]? = some (cO 10 [v0, v1, v2, v3, v4, v5, v6, v7, v8])) (hq2 : q = 25 ∨ q = 101 ∨ 127 ≤ q) {H : mj_H} (hH : (h.set 32 (cA 4 8192 (va_up sf t (some q)))).set 16 (mcC ((t + 1 : Nat) : Int) dp ca ou wk 0 pl (oV onx) vx vy .null lv lf rt) = H) : pgN xt d 166 [.ref 16, .ref p] h (fun h' => h' = H) := by
  refine x_enter pm_X1_step (L0 := [(0, .ref 16), (1, .ref p)]) rfl (Nat.le_of_ble_eq_true rfl) (by omega) ?_
  refine me1 (pc' := 1) (L' := [(0, .ref 16), (1, .ref p)]) (S' := [.ref 16]) dm_X1_step_0 rfl rfl rfl rfl ?_
  refine me1 (pc' := 2) (L' := [(0, .ref 16), (1, .ref p)]) (S' := [.ref p, .ref 16]) dm_X1_step_1 rfl rfl rfl rfl ?_
  refine me3 (pc' := 5) (S' := [oV onx, .ref 16]) dm_X1_step_2 (g_get (v := oV onx) hp rfl rfl (by omega)) rfl rfl rfl ?_
  refine me3 (pc' := 8) (S' := []) (h1 := (h).set 16 (cO 1 [.ref 4, .ref 17, .ref 26, .ref 32, ii (t : Int), .ref 33, ii dp, ii ca, ii ou, ii wk, ii 0, ii pl, oV onx, vx, vy, .null, ii lv, lf, rt])) dm_X1_step_5 (g_put (fs' := [.ref 4, .ref 17, .ref 26, .ref 32, ii (t : Int), .ref 33, ii dp, ii ca, ii ou, ii wk, ii 0, ii pl, oV onx, vx, vy, .null, ii lv, lf, rt]) h16 rfl rfl rfl (by simp) (oV_fit _ _) (by decide) (fun z => by cases z) (by decide)) rfl rfl rfl ?_
  refine me1 (pc' := 9) (L' := [(0, .ref 16), (1, .ref p)]) (S' := [.ref p]) dm_X1_step_8 rfl rfl rfl rfl ?_
  refine me3 (pc' := 12) (S' := [ii 1]) dm_X1_step_9 (g_get (v := ii 1) (hl_ne (by omega) hp) rfl rfl (by omega)) rfl rfl rfl ?_
  refine y_sw (a := 1) (1) (t := 56) (i := .tableswitch 141 1 7 #[44, 55, 63, 80, 102, 121, 133]) (len := 44) dm_X1_step_12 rfl rfl rfl (by omega) (by decide) (fun hb1 => ?_) (fun hb1 => ?_)
  · refine me1 (pc' := 57) (L' := [(0, .ref 16), (1, .ref p)]) (S' := [.ref 16]) dm_X1_step_56 rfl rfl rfl rfl ?_
    refine me1 (pc' := 58) (L' := [(0, .ref 16), (1, .ref p)]) (S' := [.ref p, .ref 16]) dm_X1_step_57 rfl rfl rfl rfl ?_
    refine me3 (pc' := 61) (S' := [.ref q, .ref 16]) dm_X1_step_58 (g_get (v := .ref q) (hl_ne (by omega) hp) rfl rfl (by omega)) rfl rfl rfl ?_
    refine x_cn (pc' := 64) (rest := []) dm_X1_step_61 rfl (g_inv (As := [.ref q]) (S := []) (hl_set (hl_lt h16)) rfl rfl rfl (by decide)) rfl rfl rfl (m_push (t := t) (by omega) (hl_ne (by omega) hq) (by omega) (hl_set (hl_lt h16)) (hl_ne (by decide) h32) ht rfl) ?_
    rintro _ rfl
    refine me2 (pc' := 153) (S' := []) dm_X1_step_64 rfl rfl rfl ?_
    refine y_ret (r := none) dm_X1_step_153 rfl rfl rfl ?_
    refine ⟨rfl, ?_⟩
    rw [← hH, List.set_comm _ _ (show (16 : Nat) ≠ 32 by decide), List.set_set]
  refine y_sw (a := 1) (2) (t := 67) (i := .tableswitch 141 1 7 #[44, 55, 63, 80, 102, 121, 133]) (len := 44) dm_X1_step_12 rfl rfl rfl (by omega) (by decide) (fun hb2 => ?_) (fun hb2 => ?_)
  · exfalso; omega
  refine y_sw (a := 1) (3) (t := 75) (i := .tableswitch 141 1 7 #[44, 55, 63, 80, 102, 121, 133]) (len := 44) dm_X1_step_12 rfl rfl rfl (by omega) (by decide) (fun hb3 => ?_) (fun hb3 => ?_)
  · exfalso; omega
  refine y_sw (a := 1) (4) (t := 92) (i := .tableswitch 141 1 7 #[44, 55, 63, 80, 102, 121, 133]) (len := 44) dm_X1_step_12 rfl rfl rfl (by omega) (by decide) (fun hb4 => ?_) (fun hb4 => ?_)
  · exfalso; omega
  refine y_sw (a := 1) (5) (t := 114) (i := .tableswitch 141 1 7 #[44, 55, 63, 80, 102, 121, 133]) (len := 44) dm_X1_step_12 rfl rfl rfl (by omega) (by decide) (fun hb5 => ?_) (fun hb5 => ?_)
  · exfalso; omega
  refine y_sw (a := 1) (6) (t := 133) (i := .tableswitch 141 1 7 #[44, 55, 63, 80, 102, 121, 133]) (len := 44) dm_X1_step_12 rfl rfl rfl (by omega) (by decide) (fun hb6 => ?_) (fun hb6 => ?_)
  · exfalso; omega
  refine y_sw (a := 1) (7) (t := 145) (i := .tableswitch 141 1 7 #[44, 55, 63, 80, 102, 121, 133]) (len := 44) dm_X1_step_12 rfl rfl rfl (by omega) (by decide) (fun hb7 => ?_) (fun hb7 => ?_)
  · exfalso; omega
  exfalso; omega
theorem dm_X1_step_67 : mj_dec prog_3_method_12_code 67 = some (.aload_n 0, 1) := by decide +kernel
theorem dm_X1_step_68 : mj_dec prog_3_method_12_code 68 = some (.aload_n 1, 1) := by decide +kernel
theorem dm_X1_step_69 : mj_dec prog_3_method_12_code 69 = some (.invokevirtual 142, 3) := by decide +kernel
theorem dm_X1_step_72 : mj_dec prog_3_method_12_code 72 = some (.goto 81, 3) := by decide +kernel
theorem m_st2 {xt : mj_X} {d t p : Nat} {h : mj_H} {dp ca ou wk pl lv : Int} {nw vx vy lf rt : Value} {pp ov oa om ot : Int} {onm : Int64} {ovl oot : Value} {onx : Option Nat} (hd : 5 ≤ d) (h16 : h[16]? = some (cO 1 [.ref 4, .ref 17, .ref 26, .ref 32, ii (t : Int), .ref 33, ii dp, ii ca, ii ou, ii wk, ii 0, ii pl, nw, vx, vy, .null, ii lv, lf, rt])) (hp : h[p]? = some (cO 4 [ii 2, ii pp, ii ov, .long onm, ii oa, ii om, ii ot, ovl, oV onx, oot])) (hp2 : 127 ≤ p) {Q : mj_H → Prop} (hcall : pgN xt (d - 1) 167 [.ref 16, .ref p] (h.set 16 (mcC (t : Int) dp ca ou wk 0 pl (oV onx) vx vy .null lv lf rt)) Q) : pgN xt d 166 [.ref 16, .ref p] h Q := by
  refine x_enter pm_X1_step (L0 := [(0, .ref 16), (1, .ref p)]) rfl (Nat.le_of_ble_eq_true rfl) (by omega) ?_
  refine me1 (pc' := 1) (L' := [(0, .ref 16), (1, .ref p)]) (S' := [.ref 16]) dm_X1_step_0 rfl rfl rfl rfl ?_
  refine me1 (pc' := 2) (L' := [(0, .ref 16), (1, .ref p)]) (S' := [.ref p, .ref 16]) dm_X1_step_1 rfl rfl rfl rfl ?_
  refine me3 (pc' := 5) (S' := [oV onx, .ref 16]) dm_X1_step_2 (g_get (v := oV onx) hp rfl rfl (by omega)) rfl rfl rfl ?_
  refine me3 (pc' := 8) (S' := []) (h1 := (h).set 16 (cO 1 [.ref 4, .ref 17, .ref 26, .ref 32, ii (t : Int), .ref 33, ii dp, ii ca, ii ou, ii wk, ii 0, ii pl, oV onx, vx, vy, .null, ii lv, lf, rt])) dm_X1_step_5 (g_put (fs' := [.ref 4, .ref 17, .ref 26, .ref 32, ii (t : Int), .ref 33, ii dp, ii ca, ii ou, ii wk, ii 0, ii pl, oV onx, vx, vy, .null, ii lv, lf, rt]) h16 rfl rfl rfl (by simp) (oV_fit _ _) (by decide) (fun z => by cases z) (by decide)) rfl rfl rfl ?_
  refine me1 (pc' := 9) (L' := [(0, .ref 16), (1, .ref p)]) (S' := [.ref p]) dm_X1_step_8 rfl rfl rfl rfl ?_
  refine me3 (pc' := 12) (S' := [ii 2]) dm_X1_step_9 (g_get (v := ii 2) (hl_ne (by omega) hp) rfl rfl (by omega)) rfl rfl rfl ?_
  refine y_sw (a := 2) (1) (t := 56) (i := .tableswitch 141 1 7 #[44, 55, 63, 80, 102, 121, 133]) (len := 44) dm_X1_step_12 rfl rfl rfl (by omega) (by decide) (fun hb1 => ?_) (fun hb1 => ?_)
  · exfalso; omega
  refine y_sw (a := 2) (2) (t := 67) (i := .tableswitch 141 1 7 #[44, 55, 63, 80, 102, 121, 133]) (len := 44) dm_X1_step_12 rfl rfl rfl (by omega) (by decide) (fun hb2 => ?_) (fun hb2 => ?_)
  · refine me1 (pc' := 68) (L' := [(0, .ref 16), (1, .ref p)]) (S' := [.ref 16]) dm_X1_step_67 rfl rfl rfl rfl ?_
    refine me1 (pc' := 69) (L' := [(0, .ref 16), (1, .ref p)]) (S' := [.ref p, .ref 16]) dm_X1_step_68 rfl rfl rfl rfl ?_
    refine x_cn (pc' := 72) (rest := []) dm_X1_step_69 rfl (g_inv (As := [.ref p]) (S := []) (hl_set (hl_lt h16)) rfl rfl rfl (by decide)) rfl rfl rfl (hcall) ?_
    rintro h1 hQ
    refine me2 (pc' := 153) (S' := []) dm_X1_step_72 rfl rfl rfl ?_
    refine y_ret (r := none) dm_X1_step_153 rfl rfl rfl ?_
    exact ⟨rfl, hQ⟩
  refine y_sw (a := 2) (3) (t := 75) (i := .tableswitch 141 1 7 #[44, 55, 63, 80, 102, 121, 133]) (len := 44) dm_X1_step_12 rfl rfl rfl (by omega) (by decide) (fun hb3 => ?_) (fun hb3 => ?_)
  · exfalso; omega
  refine y_sw (a := 2) (4) (t := 92) (i := .tableswitch 141 1 7 #[44, 55, 63, 80, 102, 121, 133]) (len := 44) dm_X1_step_12 rfl rfl rfl (by omega) (by decide) (fun hb4 => ?_) (fun hb4 => ?_)
  · exfalso; omega
  refine y_sw (a := 2) (5) (t := 114) (i := .tableswitch 141 1 7 #[44, 55, 63, 80, 102, 121, 133]) (len := 44) dm_X1_step_12 rfl rfl rfl (by omega) (by decide) (fun hb5 => ?_) (fun hb5 => ?_)
  · exfalso; omega
  refine y_sw (a := 2) (6) (t := 133) (i := .tableswitch 141 1 7 #[44, 55, 63, 80, 102, 121, 133]) (len := 44) dm_X1_step_12 rfl rfl rfl (by omega) (by decide) (fun hb6 => ?_) (fun hb6 => ?_)
  · exfalso; omega
  refine y_sw (a := 2) (7) (t := 145) (i := .tableswitch 141 1 7 #[44, 55, 63, 80, 102, 121, 133]) (len := 44) dm_X1_step_12 rfl rfl rfl (by omega) (by decide) (fun hb7 => ?_) (fun hb7 => ?_)
  · exfalso; omega
  exfalso; omega
theorem dm_X1_step_145 : mj_dec prog_3_method_12_code 145 = some (.aload_n 0, 1) := by decide +kernel
theorem dm_X1_step_146 : mj_dec prog_3_method_12_code 146 = some (.aload_n 1, 1) := by decide +kernel
theorem dm_X1_step_147 : mj_dec prog_3_method_12_code 147 = some (.invokevirtual 163, 3) := by decide +kernel
theorem dm_X1_step_150 : mj_dec prog_3_method_12_code 150 = some (.goto 3, 3) := by decide +kernel
theorem m_st7 {xt : mj_X} {d t p : Nat} {h : mj_H} {dp ca ou wk pl lv : Int} {nw vx vy lf rt : Value} {pp ov oa om ot : Int} {onm : Int64} {ovl oot : Value} {onx : Option Nat} (hd : 5 ≤ d) (h16 : h[16]? = some (cO 1 [.ref 4, .ref 17, .ref 26, .ref 32, ii (t : Int), .ref 33, ii dp, ii ca, ii ou, ii wk, ii 0, ii pl, nw, vx, vy, .null, ii lv, lf, rt])) (hp : h[p]? = some (cO 4 [ii 7, ii pp, ii ov, .long onm, ii oa, ii om, ii ot, ovl, oV onx, oot])) (hp2 : 127 ≤ p) {Q : mj_H → Prop} (hcall : pgN xt (d - 1) 169 [.ref 16, .ref p] (h.set 16 (mcC (t : Int) dp ca ou wk 0 pl (oV onx) vx vy .null lv lf rt)) Q) : pgN xt d 166 [.ref 16, .ref p] h Q := by
  refine x_enter pm_X1_step (L0 := [(0, .ref 16), (1, .ref p)]) rfl (Nat.le_of_ble_eq_true rfl) (by omega) ?_
  refine me1 (pc' := 1) (L' := [(0, .ref 16), (1, .ref p)]) (S' := [.ref 16]) dm_X1_step_0 rfl rfl rfl rfl ?_
  refine me1 (pc' := 2) (L' := [(0, .ref 16), (1, .ref p)]) (S' := [.ref p, .ref 16]) dm_X1_step_1 rfl rfl rfl rfl ?_
  refine me3 (pc' := 5) (S' := [oV onx, .ref 16]) dm_X1_step_2 (g_get (v := oV onx) hp rfl rfl (by omega)) rfl rfl rfl ?_
  refine me3 (pc' := 8) (S' := []) (h1 := (h).set 16 (cO 1 [.ref 4, .ref 17, .ref 26, .ref 32, ii (t : Int), .ref 33, ii dp, ii ca, ii ou, ii wk, ii 0, ii pl, oV onx, vx, vy, .null, ii lv, lf, rt])) dm_X1_step_5 (g_put (fs' := [.ref 4, .ref 17, .ref 26, .ref 32, ii (t : Int), .ref 33, ii dp, ii ca, ii ou, ii wk, ii 0, ii pl, oV onx, vx, vy, .null, ii lv, lf, rt]) h16 rfl rfl rfl (by simp) (oV_fit _ _) (by decide) (fun z => by cases z) (by decide)) rfl rfl rfl ?_
  refine me1 (pc' := 9) (L' := [(0, .ref 16), (1, .ref p)]) (S' := [.ref p]) dm_X1_step_8 rfl rfl rfl rfl ?_
  refine me3 (pc' := 12) (S' := [ii 7]) dm_X1_step_9 (g_get (v := ii 7) (hl_ne (by omega) hp) rfl rfl (by omega)) rfl rfl rfl ?_
  refine y_sw (a := 7) (1) (t := 56) (i := .tableswitch 141 1 7 #[44, 55, 63, 80, 102, 121, 133]) (len := 44) dm_X1_step_12 rfl rfl rfl (by omega) (by decide) (fun hb1 => ?_) (fun hb1 => ?_)
  · exfalso; omega
  refine y_sw (a := 7) (2) (t := 67) (i := .tableswitch 141 1 7 #[44, 55, 63, 80, 102, 121, 133]) (len := 44) dm_X1_step_12 rfl rfl rfl (by omega) (by decide) (fun hb2 => ?_) (fun hb2 => ?_)
  · exfalso; omega
  refine y_sw (a := 7) (3) (t := 75) (i := .tableswitch 141 1 7 #[44, 55, 63, 80, 102, 121, 133]) (len := 44) dm_X1_step_12 rfl rfl rfl (by omega) (by decide) (fun hb3 => ?_) (fun hb3 => ?_)
  · exfalso; omega
  refine y_sw (a := 7) (4) (t := 92) (i := .tableswitch 141 1 7 #[44, 55, 63, 80, 102, 121, 133]) (len := 44) dm_X1_step_12 rfl rfl rfl (by omega) (by decide) (fun hb4 => ?_) (fun hb4 => ?_)
  · exfalso; omega
  refine y_sw (a := 7) (5) (t := 114) (i := .tableswitch 141 1 7 #[44, 55, 63, 80, 102, 121, 133]) (len := 44) dm_X1_step_12 rfl rfl rfl (by omega) (by decide) (fun hb5 => ?_) (fun hb5 => ?_)
  · exfalso; omega
  refine y_sw (a := 7) (6) (t := 133) (i := .tableswitch 141 1 7 #[44, 55, 63, 80, 102, 121, 133]) (len := 44) dm_X1_step_12 rfl rfl rfl (by omega) (by decide) (fun hb6 => ?_) (fun hb6 => ?_)
  · exfalso; omega
  refine y_sw (a := 7) (7) (t := 145) (i := .tableswitch 141 1 7 #[44, 55, 63, 80, 102, 121, 133]) (len := 44) dm_X1_step_12 rfl rfl rfl (by omega) (by decide) (fun hb7 => ?_) (fun hb7 => ?_)
  · refine me1 (pc' := 146) (L' := [(0, .ref 16), (1, .ref p)]) (S' := [.ref 16]) dm_X1_step_145 rfl rfl rfl rfl ?_
    refine me1 (pc' := 147) (L' := [(0, .ref 16), (1, .ref p)]) (S' := [.ref p, .ref 16]) dm_X1_step_146 rfl rfl rfl rfl ?_
    refine x_cn (pc' := 150) (rest := []) dm_X1_step_147 rfl (g_inv (As := [.ref p]) (S := []) (hl_set (hl_lt h16)) rfl rfl rfl (by decide)) rfl rfl rfl (hcall) ?_
    rintro h1 hQ
    refine me2 (pc' := 153) (S' := []) dm_X1_step_150 rfl rfl rfl ?_
    refine y_ret (r := none) dm_X1_step_153 rfl rfl rfl ?_
    exact ⟨rfl, hQ⟩
  exfalso; omega
theorem dm_X1_step_75 : mj_dec prog_3_method_12_code 75 = some (.aload_n 0, 1) := by decide +kernel
theorem dm_X1_step_76 : mj_dec prog_3_method_12_code 76 = some (.aload_n 1, 1) := by decide +kernel
theorem dm_X1_step_77 : mj_dec prog_3_method_12_code 77 = some (.aload_n 1, 1) := by decide +kernel
theorem dm_X1_step_78 : mj_dec prog_3_method_12_code 78 = some (.getfield 145, 3) := by decide +kernel
theorem dm_X1_step_81 : mj_dec prog_3_method_12_code 81 = some (.aconst_null, 1) := by decide +kernel
theorem dm_X1_step_82 : mj_dec prog_3_method_12_code 82 = some (.aload_n 0, 1) := by decide +kernel
theorem dm_X1_step_83 : mj_dec prog_3_method_12_code 83 = some (.invokevirtual 113, 3) := by decide +kernel
theorem dm_X1_step_86 : mj_dec prog_3_method_12_code 86 = some (.invokevirtual 148, 3) := by decide +kernel
theorem dm_X1_step_89 : mj_dec prog_3_method_12_code 89 = some (.goto 64, 3) := by decide +kernel
theorem m_st3 {xt : mj_X} {d t p : Nat} {h : mj_H} {dp ca ou wk pl lv : Int} {nw vx vy lf rt : Value} {pp ov oa om ot : Int} {onm : Int64} {ovl oot : Value} {onx : Option Nat} {qw : Nat} {sf : Nat → Option Nat} (hd : 4 ≤ d) (h16 : h[16]? = some (cO 1 [.ref 4, .ref 17, .ref 26, .ref 32, ii ((t + 1 : Nat) : Int), .ref 33, ii dp, ii ca, ii ou, ii wk, ii 0, ii pl, nw, vx, vy, .null, ii lv, lf, rt])) (hp : h[p]? = some (cO 4 [ii 3, ii pp, ii ov, .long onm, ii oa, ii om, ii ot, ovl, oV onx, oot])) (hp2 : 127 ≤ p) (h32 : h[32]? = some (cA 4 8192 sf)) (ht : t + 1 < 8192) (hs1 : sf t = some qw) {H : mj_H} (hH : h.set 16 (mcC (t : Int) dp ca ou wk 0 pl (oV onx) vx vy (.ref p) om .null (.ref qw)) = H) : pgN xt d 166 [.ref 16, .ref p] h (fun h' => h' = H) := by
  refine x_enter pm_X1_step (L0 := [(0, .ref 16), (1, .ref p)]) rfl (Nat.le_of_ble_eq_true rfl) (by omega) ?_
  refine me1 (pc' := 1) (L' := [(0, .ref 16), (1, .ref p)]) (S' := [.ref 16]) dm_X1_step_0 rfl rfl rfl rfl ?_
  refine me1 (pc' := 2) (L' := [(0, .ref 16), (1, .ref p)]) (S' := [.ref p, .ref 16]) dm_X1_step_1 rfl rfl rfl rfl ?_
  refine me3 (pc' := 5) (S' := [oV onx, .ref 16]) dm_X1_step_2 (g_get (v := oV onx) hp rfl rfl (by omega)) rfl rfl rfl ?_
  refine me3 (pc' := 8) (S' := []) (h1 := (h).set 16 (cO 1 [.ref 4, .ref 17, .ref 26, .ref 32, ii ((t + 1 : Nat) : Int), .ref 33, ii dp, ii ca, ii ou, ii wk, ii 0, ii pl, oV onx, vx, vy, .null, ii lv, lf, rt])) dm_X1_step_5 (g_put (fs' := [.ref 4, .ref 17, .ref 26, .ref 32, ii ((t + 1 : Nat) : Int), .ref 33, ii dp, ii ca, ii ou, ii wk, ii 0, ii pl, oV onx, vx, vy, .null, ii lv, lf, rt]) h16 rfl rfl rfl (by simp) (oV_fit _ _) (by decide) (fun z => by cases z) (by decide)) rfl rfl rfl ?_
  refine me1 (pc' := 9) (L' := [(0, .ref 16), (1, .ref p)]) (S' := [.ref p]) dm_X1_step_8 rfl rfl rfl rfl ?_
  refine me3 (pc' := 12) (S' := [ii 3]) dm_X1_step_9 (g_get (v := ii 3) (hl_ne (by omega) hp) rfl rfl (by omega)) rfl rfl rfl ?_
  refine y_sw (a := 3) (1) (t := 56) (i := .tableswitch 141 1 7 #[44, 55, 63, 80, 102, 121, 133]) (len := 44) dm_X1_step_12 rfl rfl rfl (by omega) (by decide) (fun hb1 => ?_) (fun hb1 => ?_)
  · exfalso; omega
  refine y_sw (a := 3) (2) (t := 67) (i := .tableswitch 141 1 7 #[44, 55, 63, 80, 102, 121, 133]) (len := 44) dm_X1_step_12 rfl rfl rfl (by omega) (by decide) (fun hb2 => ?_) (fun hb2 => ?_)
  · exfalso; omega
  refine y_sw (a := 3) (3) (t := 75) (i := .tableswitch 141 1 7 #[44, 55, 63, 80, 102, 121, 133]) (len := 44) dm_X1_step_12 rfl rfl rfl (by omega) (by decide) (fun hb3 => ?_) (fun hb3 => ?_)
  · refine me1 (pc' := 76) (L' := [(0, .ref 16), (1, .ref p)]) (S' := [.ref 16]) dm_X1_step_75 rfl rfl rfl rfl ?_
    refine me1 (pc' := 77) (L' := [(0, .ref 16), (1, .ref p)]) (S' := [.ref p, .ref 16]) dm_X1_step_76 rfl rfl rfl rfl ?_
    refine me1 (pc' := 78) (L' := [(0, .ref 16), (1, .ref p)]) (S' := [.ref p, .ref p, .ref 16]) dm_X1_step_77 rfl rfl rfl rfl ?_
    refine me3 (pc' := 81) (S' := [ii om, .ref p, .ref 16]) dm_X1_step_78 (g_get (v := ii om) (hl_ne (by omega) hp) rfl rfl (by omega)) rfl rfl rfl ?_
    refine me0 (pc' := 82) (S' := [.null, ii om, .ref p, .ref 16]) dm_X1_step_81 rfl rfl rfl rfl ?_
    refine me1 (pc' := 83) (L' := [(0, .ref 16), (1, .ref p)]) (S' := [.ref 16, .null, ii om, .ref p, .ref 16]) dm_X1_step_82 rfl rfl rfl rfl ?_
    refine x_cv (pc' := 86) (rest := [.null, ii om, .ref p, .ref 16]) dm_X1_step_83 rfl (g_inv (As := []) (S := [.null, ii om, .ref p, .ref 16]) (hl_set (hl_lt h16)) rfl rfl rfl (by decide)) rfl rfl rfl (m_pop (t := t) (by omega) (hl_set (hl_lt h16)) (hl_ne (by decide) h32) (by omega) hs1 (by rw [List.set_set])) ?_
    rintro _ _ ⟨rfl, rfl⟩
    refine x_cn (pc' := 89) (rest := []) dm_X1_step_86 rfl (g_inv (As := [.ref p, ii om, .null, .ref qw]) (S := []) (hl_set (hl_lt h16)) rfl rfl rfl (by decide)) rfl rfl rfl (m_pend (bl := none) (bw := (some qw)) (by omega) (hl_set (hl_lt h16)) (by rw [List.set_set])) ?_
    rintro _ rfl
    refine me2 (pc' := 153) (S' := []) dm_X1_step_89 rfl rfl rfl ?_
    refine y_ret (r := none) dm_X1_step_153 rfl rfl rfl ?_
    exact ⟨rfl, hH⟩
  refine y_sw (a := 3) (4) (t := 92) (i := .tableswitch 141 1 7 #[44, 55, 63, 80, 102, 121, 133]) (len := 44) dm_X1_step_12 rfl rfl rfl (by omega) (by decide) (fun hb4 => ?_) (fun hb4 => ?_)
  · exfalso; omega
  refine y_sw (a := 3) (5) (t := 114) (i := .tableswitch 141 1 7 #[44, 55, 63, 80, 102, 121, 133]) (len := 44) dm_X1_step_12 rfl rfl rfl (by omega) (by decide) (fun hb5 => ?_) (fun hb5 => ?_)
  · exfalso; omega
  refine y_sw (a := 3) (6) (t := 133) (i := .tableswitch 141 1 7 #[44, 55, 63, 80, 102, 121, 133]) (len := 44) dm_X1_step_12 rfl rfl rfl (by omega) (by decide) (fun hb6 => ?_) (fun hb6 => ?_)
  · exfalso; omega
  refine y_sw (a := 3) (7) (t := 145) (i := .tableswitch 141 1 7 #[44, 55, 63, 80, 102, 121, 133]) (len := 44) dm_X1_step_12 rfl rfl rfl (by omega) (by decide) (fun hb7 => ?_) (fun hb7 => ?_)
  · exfalso; omega
  exfalso; omega
theorem dm_X1_step_92 : mj_dec prog_3_method_12_code 92 = some (.aload_n 0, 1) := by decide +kernel
theorem dm_X1_step_93 : mj_dec prog_3_method_12_code 93 = some (.invokevirtual 113, 3) := by decide +kernel
theorem dm_X1_step_96 : mj_dec prog_3_method_12_code 96 = some (.astore_n 2, 1) := by decide +kernel
theorem dm_X1_step_97 : mj_dec prog_3_method_12_code 97 = some (.aload_n 0, 1) := by decide +kernel
theorem dm_X1_step_98 : mj_dec prog_3_method_12_code 98 = some (.aload_n 1, 1) := by decide +kernel
theorem dm_X1_step_99 : mj_dec prog_3_method_12_code 99 = some (.aload_n 1, 1) := by decide +kernel
theorem dm_X1_step_100 : mj_dec prog_3_method_12_code 100 = some (.getfield 145, 3) := by decide +kernel
theorem dm_X1_step_103 : mj_dec prog_3_method_12_code 103 = some (.aload_n 2, 1) := by decide +kernel
theorem dm_X1_step_104 : mj_dec prog_3_method_12_code 104 = some (.aload_n 0, 1) := by decide +kernel
theorem dm_X1_step_105 : mj_dec prog_3_method_12_code 105 = some (.invokevirtual 113, 3) := by decide +kernel
theorem dm_X1_step_108 : mj_dec prog_3_method_12_code 108 = some (.invokevirtual 148, 3) := by decide +kernel
theorem dm_X1_step_111 : mj_dec prog_3_method_12_code 111 = some (.goto 42, 3) := by decide +kernel
theorem m_st4 {xt : mj_X} {d t p : Nat} {h : mj_H} {dp ca ou wk pl lv : Int} {nw vx vy lf rt : Value} {pp ov oa om ot : Int} {onm : Int64} {ovl oot : Value} {onx : Option Nat} {qw ql : Nat} {sf : Nat → Option Nat} (hd : 4 ≤ d) (h16 : h[16]? = some (cO 1 [.ref 4, .ref 17, .ref 26, .ref 32, ii ((t + 1 + 1 : Nat) : Int), .ref 33, ii dp, ii ca, ii ou, ii wk, ii 0, ii pl, nw, vx, vy, .null, ii lv, lf, rt])) (hp : h[p]? = some (cO 4 [ii 4, ii pp, ii ov, .long onm, ii oa, ii om, ii ot, ovl, oV onx, oot])) (hp2 : 127 ≤ p) (h32 : h[32]? = some (cA 4 8192 sf)) (ht : t + 2 < 8192) (hs1 : sf t = some qw) (hs2 : sf (t + 1) = some ql) {H : mj_H} (hH : h.set 16 (mcC (t : Int) dp ca ou wk 0 pl (oV onx) vx vy (.ref p) om (.ref ql) (.ref qw)) = H) : pgN xt d 166 [.ref 16, .ref p] h (fun h' => h' = H) := by
  refine x_enter pm_X1_step (L0 := [(0, .ref 16), (1, .ref p)]) rfl (Nat.le_of_ble_eq_true rfl) (by omega) ?_
  refine me1 (pc' := 1) (L' := [(0, .ref 16), (1, .ref p)]) (S' := [.ref 16]) dm_X1_step_0 rfl rfl rfl rfl ?_
  refine me1 (pc' := 2) (L' := [(0, .ref 16), (1, .ref p)]) (S' := [.ref p, .ref 16]) dm_X1_step_1 rfl rfl rfl rfl ?_
  refine me3 (pc' := 5) (S' := [oV onx, .ref 16]) dm_X1_step_2 (g_get (v := oV onx) hp rfl rfl (by omega)) rfl rfl rfl ?_
  refine me3 (pc' := 8) (S' := []) (h1 := (h).set 16 (cO 1 [.ref 4, .ref 17, .ref 26, .ref 32, ii ((t + 1 + 1 : Nat) : Int), .ref 33, ii dp, ii ca, ii ou, ii wk, ii 0, ii pl, oV onx, vx, vy, .null, ii lv, lf, rt])) dm_X1_step_5 (g_put (fs' := [.ref 4, .ref 17, .ref 26, .ref 32, ii ((t + 1 + 1 : Nat) : Int), .ref 33, ii dp, ii ca, ii ou, ii wk, ii 0, ii pl, oV onx, vx, vy, .null, ii lv, lf, rt]) h16 rfl rfl rfl (by simp) (oV_fit _ _) (by decide) (fun z => by cases z) (by decide)) rfl rfl rfl ?_
  refine me1 (pc' := 9) (L' := [(0, .ref 16), (1, .ref p)]) (S' := [.ref p]) dm_X1_step_8 rfl rfl rfl rfl ?_
  refine me3 (pc' := 12) (S' := [ii 4]) dm_X1_step_9 (g_get (v := ii 4) (hl_ne (by omega) hp) rfl rfl (by omega)) rfl rfl rfl ?_
  refine y_sw (a := 4) (1) (t := 56) (i := .tableswitch 141 1 7 #[44, 55, 63, 80, 102, 121, 133]) (len := 44) dm_X1_step_12 rfl rfl rfl (by omega) (by decide) (fun hb1 => ?_) (fun hb1 => ?_)
  · exfalso; omega
  refine y_sw (a := 4) (2) (t := 67) (i := .tableswitch 141 1 7 #[44, 55, 63, 80, 102, 121, 133]) (len := 44) dm_X1_step_12 rfl rfl rfl (by omega) (by decide) (fun hb2 => ?_) (fun hb2 => ?_)
  · exfalso; omega
  refine y_sw (a := 4) (3) (t := 75) (i := .tableswitch 141 1 7 #[44, 55, 63, 80, 102, 121, 133]) (len := 44) dm_X1_step_12 rfl rfl rfl (by omega) (by decide) (fun hb3 => ?_) (fun hb3 => ?_)
  · exfalso; omega
  refine y_sw (a := 4) (4) (t := 92) (i := .tableswitch 141 1 7 #[44, 55, 63, 80, 102, 121, 133]) (len := 44) dm_X1_step_12 rfl rfl rfl (by omega) (by decide) (fun hb4 => ?_) (fun hb4 => ?_)
  · refine me1 (pc' := 93) (L' := [(0, .ref 16), (1, .ref p)]) (S' := [.ref 16]) dm_X1_step_92 rfl rfl rfl rfl ?_
    refine x_cv (pc' := 96) (rest := []) dm_X1_step_93 rfl (g_inv (As := []) (S := []) (hl_set (hl_lt h16)) rfl rfl rfl (by decide)) rfl rfl rfl (m_pop (t := t + 1) (by omega) (hl_set (hl_lt h16)) (hl_ne (by decide) h32) (by omega) hs2 (by rw [List.set_set])) ?_
    rintro _ _ ⟨rfl, rfl⟩
    refine me1 (pc' := 97) (L' := [(2, .ref ql), (0, .ref 16), (1, .ref p)]) (S' := []) dm_X1_step_96 rfl rfl rfl rfl ?_
    refine me1 (pc' := 98) (L' := [(2, .ref ql), (0, .ref 16), (1, .ref p)]) (S' := [.ref 16]) dm_X1_step_97 rfl rfl rfl rfl ?_
    refine me1 (pc' := 99) (L' := [(2, .ref ql), (0, .ref 16), (1, .ref p)]) (S' := [.ref p, .ref 16]) dm_X1_step_98 rfl rfl rfl rfl ?_
    refine me1 (pc' := 100) (L' := [(2, .ref ql), (0, .ref 16), (1, .ref p)]) (S' := [.ref p, .ref p, .ref 16]) dm_X1_step_99 rfl rfl rfl rfl ?_
    refine me3 (pc' := 103) (S' := [ii om, .ref p, .ref 16]) dm_X1_step_100 (g_get (v := ii om) (hl_ne (by omega) hp) rfl rfl (by omega)) rfl rfl rfl ?_
    refine me1 (pc' := 104) (L' := [(2, .ref ql), (0, .ref 16), (1, .ref p)]) (S' := [.ref ql, ii om, .ref p, .ref 16]) dm_X1_step_103 rfl rfl rfl rfl ?_
    refine me1 (pc' := 105) (L' := [(2, .ref ql), (0, .ref 16), (1, .ref p)]) (S' := [.ref 16, .ref ql, ii om, .ref p, .ref 16]) dm_X1_step_104 rfl rfl rfl rfl ?_
    refine x_cv (pc' := 108) (rest := [.ref ql, ii om, .ref p, .ref 16]) dm_X1_step_105 rfl (g_inv (As := []) (S := [.ref ql, ii om, .ref p, .ref 16]) (hl_set (hl_lt h16)) rfl rfl rfl (by decide)) rfl rfl rfl (m_pop (t := t) (by omega) (hl_set (hl_lt h16)) (hl_ne (by decide) h32) (by omega) hs1 (by rw [List.set_set])) ?_
    rintro _ _ ⟨rfl, rfl⟩
    refine x_cn (pc' := 111) (rest := []) dm_X1_step_108 rfl (g_inv (As := [.ref p, ii om, .ref ql, .ref qw]) (S := []) (hl_set (hl_lt h16)) rfl rfl rfl (by decide)) rfl rfl rfl (m_pend (bl := (some ql)) (bw := (some qw)) (by omega) (hl_set (hl_lt h16)) (by rw [List.set_set])) ?_
    rintro _ rfl
    refine me2 (pc' := 153) (S' := []) dm_X1_step_111 rfl rfl rfl ?_
    refine y_ret (r := none) dm_X1_step_153 rfl rfl rfl ?_
    exact ⟨rfl, hH⟩
  refine y_sw (a := 4) (5) (t := 114) (i := .tableswitch 141 1 7 #[44, 55, 63, 80, 102, 121, 133]) (len := 44) dm_X1_step_12 rfl rfl rfl (by omega) (by decide) (fun hb5 => ?_) (fun hb5 => ?_)
  · exfalso; omega
  refine y_sw (a := 4) (6) (t := 133) (i := .tableswitch 141 1 7 #[44, 55, 63, 80, 102, 121, 133]) (len := 44) dm_X1_step_12 rfl rfl rfl (by omega) (by decide) (fun hb6 => ?_) (fun hb6 => ?_)
  · exfalso; omega
  refine y_sw (a := 4) (7) (t := 145) (i := .tableswitch 141 1 7 #[44, 55, 63, 80, 102, 121, 133]) (len := 44) dm_X1_step_12 rfl rfl rfl (by omega) (by decide) (fun hb7 => ?_) (fun hb7 => ?_)
  · exfalso; omega
  exfalso; omega
theorem dm_X1_step_114 : mj_dec prog_3_method_12_code 114 = some (.aload_n 0, 1) := by decide +kernel
theorem dm_X1_step_115 : mj_dec prog_3_method_12_code 115 = some (.aload_n 1, 1) := by decide +kernel
theorem dm_X1_step_116 : mj_dec prog_3_method_12_code 116 = some (.aload_n 0, 1) := by decide +kernel
theorem dm_X1_step_117 : mj_dec prog_3_method_12_code 117 = some (.getfield 53, 3) := by decide +kernel
theorem dm_X1_step_120 : mj_dec prog_3_method_12_code 120 = some (.iconst 1, 1) := by decide +kernel
theorem dm_X1_step_121 : mj_dec prog_3_method_12_code 121 = some (.isub, 1) := by decide +kernel
theorem dm_X1_step_122 : mj_dec prog_3_method_12_code 122 = some (.aload_n 1, 1) := by decide +kernel
theorem dm_X1_step_123 : mj_dec prog_3_method_12_code 123 = some (.getfield 152, 3) := by decide +kernel
theorem dm_X1_step_126 : mj_dec prog_3_method_12_code 126 = some (.iconst (-1), 1) := by decide +kernel
theorem dm_X1_step_127 : mj_dec prog_3_method_12_code 127 = some (.invokevirtual 155, 3) := by decide +kernel
theorem dm_X1_step_130 : mj_dec prog_3_method_12_code 130 = some (.goto 23, 3) := by decide +kernel
theorem m_st5 {xt : mj_X} {d t p : Nat} {h : mj_H} {dp ca ou wk pl lv : Int} {nw vx vy lf rt : Value} {pp ov oa om ot : Int} {onm : Int64} {ovl oot : Value} {onx : Option Nat} (hd : 5 ≤ d) (h16 : h[16]? = some (cO 1 [.ref 4, .ref 17, .ref 26, .ref 32, ii (t : Int), .ref 33, ii dp, ii ca, ii ou, ii wk, ii 0, ii pl, nw, vx, vy, .null, ii lv, lf, rt])) (hp : h[p]? = some (cO 4 [ii 5, ii pp, ii ov, .long onm, ii oa, ii om, ii ot, ovl, oV onx, oot])) (hp2 : 127 ≤ p) {Q : mj_H → Prop} (hcall : pgN xt (d - 1) 161 [.ref 16, .ref p, ii ((t : Int) - 1), ii ot, ii (-1)] (h.set 16 (mcC (t : Int) dp ca ou wk 0 pl (oV onx) vx vy .null lv lf rt)) Q) : pgN xt d 166 [.ref 16, .ref p] h Q := by
  refine x_enter pm_X1_step (L0 := [(0, .ref 16), (1, .ref p)]) rfl (Nat.le_of_ble_eq_true rfl) (by omega) ?_
  refine me1 (pc' := 1) (L' := [(0, .ref 16), (1, .ref p)]) (S' := [.ref 16]) dm_X1_step_0 rfl rfl rfl rfl ?_
  refine me1 (pc' := 2) (L' := [(0, .ref 16), (1, .ref p)]) (S' := [.ref p, .ref 16]) dm_X1_step_1 rfl rfl rfl rfl ?_
  refine me3 (pc' := 5) (S' := [oV onx, .ref 16]) dm_X1_step_2 (g_get (v := oV onx) hp rfl rfl (by omega)) rfl rfl rfl ?_
  refine me3 (pc' := 8) (S' := []) (h1 := (h).set 16 (cO 1 [.ref 4, .ref 17, .ref 26, .ref 32, ii (t : Int), .ref 33, ii dp, ii ca, ii ou, ii wk, ii 0, ii pl, oV onx, vx, vy, .null, ii lv, lf, rt])) dm_X1_step_5 (g_put (fs' := [.ref 4, .ref 17, .ref 26, .ref 32, ii (t : Int), .ref 33, ii dp, ii ca, ii ou, ii wk, ii 0, ii pl, oV onx, vx, vy, .null, ii lv, lf, rt]) h16 rfl rfl rfl (by simp) (oV_fit _ _) (by decide) (fun z => by cases z) (by decide)) rfl rfl rfl ?_
  refine me1 (pc' := 9) (L' := [(0, .ref 16), (1, .ref p)]) (S' := [.ref p]) dm_X1_step_8 rfl rfl rfl rfl ?_
  refine me3 (pc' := 12) (S' := [ii 5]) dm_X1_step_9 (g_get (v := ii 5) (hl_ne (by omega) hp) rfl rfl (by omega)) rfl rfl rfl ?_
  refine y_sw (a := 5) (1) (t := 56) (i := .tableswitch 141 1 7 #[44, 55, 63, 80, 102, 121, 133]) (len := 44) dm_X1_step_12 rfl rfl rfl (by omega) (by decide) (fun hb1 => ?_) (fun hb1 => ?_)
  · exfalso; omega
  refine y_sw (a := 5) (2) (t := 67) (i := .tableswitch 141 1 7 #[44, 55, 63, 80, 102, 121, 133]) (len := 44) dm_X1_step_12 rfl rfl rfl (by omega) (by decide) (fun hb2 => ?_) (fun hb2 => ?_)
  · exfalso; omega
  refine y_sw (a := 5) (3) (t := 75) (i := .tableswitch 141 1 7 #[44, 55, 63, 80, 102, 121, 133]) (len := 44) dm_X1_step_12 rfl rfl rfl (by omega) (by decide) (fun hb3 => ?_) (fun hb3 => ?_)
  · exfalso; omega
  refine y_sw (a := 5) (4) (t := 92) (i := .tableswitch 141 1 7 #[44, 55, 63, 80, 102, 121, 133]) (len := 44) dm_X1_step_12 rfl rfl rfl (by omega) (by decide) (fun hb4 => ?_) (fun hb4 => ?_)
  · exfalso; omega
  refine y_sw (a := 5) (5) (t := 114) (i := .tableswitch 141 1 7 #[44, 55, 63, 80, 102, 121, 133]) (len := 44) dm_X1_step_12 rfl rfl rfl (by omega) (by decide) (fun hb5 => ?_) (fun hb5 => ?_)
  · refine me1 (pc' := 115) (L' := [(0, .ref 16), (1, .ref p)]) (S' := [.ref 16]) dm_X1_step_114 rfl rfl rfl rfl ?_
    refine me1 (pc' := 116) (L' := [(0, .ref 16), (1, .ref p)]) (S' := [.ref p, .ref 16]) dm_X1_step_115 rfl rfl rfl rfl ?_
    refine me1 (pc' := 117) (L' := [(0, .ref 16), (1, .ref p)]) (S' := [.ref 16, .ref p, .ref 16]) dm_X1_step_116 rfl rfl rfl rfl ?_
    refine me3 (pc' := 120) (S' := [ii (t : Int), .ref p, .ref 16]) dm_X1_step_117 (g_get (v := ii (t : Int)) (hl_set (hl_lt h16)) rfl rfl (by decide)) rfl rfl rfl ?_
    refine me0 (pc' := 121) (S' := [ii 1, ii (t : Int), .ref p, .ref 16]) dm_X1_step_120 rfl rfl rfl rfl ?_
    refine y_isub (a := (t : Int)) (b := 1) dm_X1_step_121 (pc' := 122) rfl ?_
    refine me1 (pc' := 123) (L' := [(0, .ref 16), (1, .ref p)]) (S' := [.ref p, ii ((t : Int) - 1), .ref p, .ref 16]) dm_X1_step_122 rfl rfl rfl rfl ?_
    refine me3 (pc' := 126) (S' := [ii ot, ii ((t : Int) - 1), .ref p, .ref 16]) dm_X1_step_123 (g_get (v := ii ot) (hl_ne (by omega) hp) rfl rfl (by omega)) rfl rfl rfl ?_
    refine me0 (pc' := 127) (S' := [ii (-1), ii ot, ii ((t : Int) - 1), .ref p, .ref 16]) dm_X1_step_126 rfl rfl rfl rfl ?_
    refine x_cn (pc' := 130) (rest := []) dm_X1_step_127 rfl (g_inv (As := [.ref p, ii ((t : Int) - 1), ii ot, ii (-1)]) (S := []) (hl_set (hl_lt h16)) rfl rfl rfl (by decide)) rfl rfl rfl (hcall) ?_
    rintro h1 hQ
    refine me2 (pc' := 153) (S' := []) dm_X1_step_130 rfl rfl rfl ?_
    refine y_ret (r := none) dm_X1_step_153 rfl rfl rfl ?_
    exact ⟨rfl, hQ⟩
  refine y_sw (a := 5) (6) (t := 133) (i := .tableswitch 141 1 7 #[44, 55, 63, 80, 102, 121, 133]) (len := 44) dm_X1_step_12 rfl rfl rfl (by omega) (by decide) (fun hb6 => ?_) (fun hb6 => ?_)
  · exfalso; omega
  refine y_sw (a := 5) (7) (t := 145) (i := .tableswitch 141 1 7 #[44, 55, 63, 80, 102, 121, 133]) (len := 44) dm_X1_step_12 rfl rfl rfl (by omega) (by decide) (fun hb7 => ?_) (fun hb7 => ?_)
  · exfalso; omega
  exfalso; omega
theorem dm_X1_step_133 : mj_dec prog_3_method_12_code 133 = some (.aload_n 0, 1) := by decide +kernel
theorem dm_X1_step_134 : mj_dec prog_3_method_12_code 134 = some (.aload_n 1, 1) := by decide +kernel
theorem dm_X1_step_135 : mj_dec prog_3_method_12_code 135 = some (.aload_n 0, 1) := by decide +kernel
theorem dm_X1_step_136 : mj_dec prog_3_method_12_code 136 = some (.invokevirtual 113, 3) := by decide +kernel
theorem dm_X1_step_139 : mj_dec prog_3_method_12_code 139 = some (.invokevirtual 159, 3) := by decide +kernel
theorem dm_X1_step_142 : mj_dec prog_3_method_12_code 142 = some (.goto 11, 3) := by decide +kernel
theorem m_st6 {xt : mj_X} {d t p : Nat} {h : mj_H} {dp ca ou wk pl lv : Int} {nw vx vy lf rt : Value} {pp ov oa om ot : Int} {onm : Int64} {ovl oot : Value} {onx : Option Nat} {qw : Nat} {sf : Nat → Option Nat} (hd : 5 ≤ d) (h16 : h[16]? = some (cO 1 [.ref 4, .ref 17, .ref 26, .ref 32, ii ((t + 1 : Nat) : Int), .ref 33, ii dp, ii ca, ii ou, ii wk, ii 0, ii pl, nw, vx, vy, .null, ii lv, lf, rt])) (hp : h[p]? = some (cO 4 [ii 6, ii pp, ii ov, .long onm, ii oa, ii om, ii ot, ovl, oV onx, oot])) (hp2 : 127 ≤ p) (h32 : h[32]? = some (cA 4 8192 sf)) (ht : t + 1 < 8192) (hs1 : sf t = some qw) {Q : mj_H → Prop} (hcall : pgN xt (d - 1) 168 [.ref 16, .ref p, .ref qw] (h.set 16 (mcC (t : Int) dp ca ou wk 0 pl (oV onx) vx vy .null lv lf rt)) Q) : pgN xt d 166 [.ref 16, .ref p] h Q := by
  refine x_enter pm_X1_step (L0 := [(0, .ref 16), (1, .ref p)]) rfl (Nat.le_of_ble_eq_true rfl) (by omega) ?_
  refine me1 (pc' := 1) (L' := [(0, .ref 16), (1, .ref p)]) (S' := [.ref 16]) dm_X1_step_0 rfl rfl rfl rfl ?_
  refine me1 (pc' := 2) (L' := [(0, .ref 16), (1, .ref p)]) (S' := [.ref p, .ref 16]) dm_X1_step_1 rfl rfl rfl rfl ?_
  refine me3 (pc' := 5) (S' := [oV onx, .ref 16]) dm_X1_step_2 (g_get (v := oV onx) hp rfl rfl (by omega)) rfl rfl rfl ?_
  refine me3 (pc' := 8) (S' := []) (h1 := (h).set 16 (cO 1 [.ref 4, .ref 17, .ref 26, .ref 32, ii ((t + 1 : Nat) : Int), .ref 33, ii dp, ii ca, ii ou, ii wk, ii 0, ii pl, oV onx, vx, vy, .null, ii lv, lf, rt])) dm_X1_step_5 (g_put (fs' := [.ref 4, .ref 17, .ref 26, .ref 32, ii ((t + 1 : Nat) : Int), .ref 33, ii dp, ii ca, ii ou, ii wk, ii 0, ii pl, oV onx, vx, vy, .null, ii lv, lf, rt]) h16 rfl rfl rfl (by simp) (oV_fit _ _) (by decide) (fun z => by cases z) (by decide)) rfl rfl rfl ?_
  refine me1 (pc' := 9) (L' := [(0, .ref 16), (1, .ref p)]) (S' := [.ref p]) dm_X1_step_8 rfl rfl rfl rfl ?_
  refine me3 (pc' := 12) (S' := [ii 6]) dm_X1_step_9 (g_get (v := ii 6) (hl_ne (by omega) hp) rfl rfl (by omega)) rfl rfl rfl ?_
  refine y_sw (a := 6) (1) (t := 56) (i := .tableswitch 141 1 7 #[44, 55, 63, 80, 102, 121, 133]) (len := 44) dm_X1_step_12 rfl rfl rfl (by omega) (by decide) (fun hb1 => ?_) (fun hb1 => ?_)
  · exfalso; omega
  refine y_sw (a := 6) (2) (t := 67) (i := .tableswitch 141 1 7 #[44, 55, 63, 80, 102, 121, 133]) (len := 44) dm_X1_step_12 rfl rfl rfl (by omega) (by decide) (fun hb2 => ?_) (fun hb2 => ?_)
  · exfalso; omega
  refine y_sw (a := 6) (3) (t := 75) (i := .tableswitch 141 1 7 #[44, 55, 63, 80, 102, 121, 133]) (len := 44) dm_X1_step_12 rfl rfl rfl (by omega) (by decide) (fun hb3 => ?_) (fun hb3 => ?_)
  · exfalso; omega
  refine y_sw (a := 6) (4) (t := 92) (i := .tableswitch 141 1 7 #[44, 55, 63, 80, 102, 121, 133]) (len := 44) dm_X1_step_12 rfl rfl rfl (by omega) (by decide) (fun hb4 => ?_) (fun hb4 => ?_)
  · exfalso; omega
  refine y_sw (a := 6) (5) (t := 114) (i := .tableswitch 141 1 7 #[44, 55, 63, 80, 102, 121, 133]) (len := 44) dm_X1_step_12 rfl rfl rfl (by omega) (by decide) (fun hb5 => ?_) (fun hb5 => ?_)
  · exfalso; omega
  refine y_sw (a := 6) (6) (t := 133) (i := .tableswitch 141 1 7 #[44, 55, 63, 80, 102, 121, 133]) (len := 44) dm_X1_step_12 rfl rfl rfl (by omega) (by decide) (fun hb6 => ?_) (fun hb6 => ?_)
  · refine me1 (pc' := 134) (L' := [(0, .ref 16), (1, .ref p)]) (S' := [.ref 16]) dm_X1_step_133 rfl rfl rfl rfl ?_
    refine me1 (pc' := 135) (L' := [(0, .ref 16), (1, .ref p)]) (S' := [.ref p, .ref 16]) dm_X1_step_134 rfl rfl rfl rfl ?_
    refine me1 (pc' := 136) (L' := [(0, .ref 16), (1, .ref p)]) (S' := [.ref 16, .ref p, .ref 16]) dm_X1_step_135 rfl rfl rfl rfl ?_
    refine x_cv (pc' := 139) (rest := [.ref p, .ref 16]) dm_X1_step_136 rfl (g_inv (As := []) (S := [.ref p, .ref 16]) (hl_set (hl_lt h16)) rfl rfl rfl (by decide)) rfl rfl rfl (m_pop (t := t) (by omega) (hl_set (hl_lt h16)) (hl_ne (by decide) h32) (by omega) hs1 (by rw [List.set_set])) ?_
    rintro _ _ ⟨rfl, rfl⟩
    refine x_cn (pc' := 142) (rest := []) dm_X1_step_139 rfl (g_inv (As := [.ref p, .ref qw]) (S := []) (hl_set (hl_lt h16)) rfl rfl rfl (by decide)) rfl rfl rfl (hcall) ?_
    rintro h1 hQ
    refine me2 (pc' := 153) (S' := []) dm_X1_step_142 rfl rfl rfl ?_
    refine y_ret (r := none) dm_X1_step_153 rfl rfl rfl ?_
    exact ⟨rfl, hQ⟩
  refine y_sw (a := 6) (7) (t := 145) (i := .tableswitch 141 1 7 #[44, 55, 63, 80, 102, 121, 133]) (len := 44) dm_X1_step_12 rfl rfl rfl (by omega) (by decide) (fun hb7 => ?_) (fun hb7 => ?_)
  · exfalso; omega
  exfalso; omega
