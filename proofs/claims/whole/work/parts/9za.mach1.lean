/-- the cell of the Machine -/
abbrev mcC (tp dp ca ou wk er pl : Int) (nw vx vy dg : Value) (lv : Int) (lf rt : Value) : mj_E := cO 1 [.ref 4, .ref 17, .ref 26, .ref 32, ii tp, .ref 33, ii dp, ii ca, ii ou, ii wk, ii er, ii pl, nw, vx, vy, dg, ii lv, lf, rt]
set_option maxRecDepth 20000 in
theorem pm_X1_workLeft : mj_mmof pg_ms 16 = some ((⟨"ArrayCalculator$Machine", "workLeft", "()I"⟩, prog_3_method_2_code, 1, (Option.some Jvm.ClassFile.FieldType.int)), 1, false, mj_dec prog_3_method_2_code) := rfl
theorem dm_X1_workLeft_0 : mj_dec prog_3_method_2_code 0 = some (.aload_n 0, 1) := by decide +kernel
theorem dm_X1_workLeft_1 : mj_dec prog_3_method_2_code 1 = some (.getfield 38, 3) := by decide +kernel
theorem dm_X1_workLeft_4 : mj_dec prog_3_method_2_code 4 = some (.ireturn, 1) := by decide +kernel
theorem m_workLeft {xt : mj_X} {d : Nat} {h : mj_H} {tp dp ca ou wk er pl lv : Int} {nw vx vy dg lf rt : Value} (hd : 1 ≤ d) (h16 : h[16]? = some (mcC tp dp ca ou wk er pl nw vx vy dg lv lf rt)) : pgP xt d 16 [.ref 16] h (ii wk) := by
  refine x_enter pm_X1_workLeft (L0 := [(0, .ref 16)]) rfl (Nat.le_of_ble_eq_true rfl) (by omega) ?_
  refine me1 (pc' := 1) (L' := [(0, .ref 16)]) (S' := [.ref 16]) dm_X1_workLeft_0 rfl rfl rfl rfl ?_
  refine me3 (pc' := 4) (S' := [ii wk]) dm_X1_workLeft_1 (g_get (v := ii wk) h16 rfl rfl (by decide)) rfl rfl rfl ?_
  refine y_ret (r := some (ii wk)) dm_X1_workLeft_4 rfl rfl rfl ?_
  exact ⟨rfl, rfl⟩
set_option maxRecDepth 20000 in
theorem pm_X1_error : mj_mmof pg_ms 177 = some ((⟨"ArrayCalculator$Machine", "error", "()I"⟩, prog_3_method_3_code, 1, (Option.some Jvm.ClassFile.FieldType.int)), 1, false, mj_dec prog_3_method_3_code) := rfl
theorem dm_X1_error_0 : mj_dec prog_3_method_3_code 0 = some (.aload_n 0, 1) := by decide +kernel
theorem dm_X1_error_1 : mj_dec prog_3_method_3_code 1 = some (.getfield 47, 3) := by decide +kernel
theorem dm_X1_error_4 : mj_dec prog_3_method_3_code 4 = some (.ireturn, 1) := by decide +kernel
theorem m_error {xt : mj_X} {d : Nat} {h : mj_H} {tp dp ca ou wk er pl lv : Int} {nw vx vy dg lf rt : Value} (hd : 1 ≤ d) (h16 : h[16]? = some (mcC tp dp ca ou wk er pl nw vx vy dg lv lf rt)) : pgP xt d 177 [.ref 16] h (ii er) := by
  refine x_enter pm_X1_error (L0 := [(0, .ref 16)]) rfl (Nat.le_of_ble_eq_true rfl) (by omega) ?_
  refine me1 (pc' := 1) (L' := [(0, .ref 16)]) (S' := [.ref 16]) dm_X1_error_0 rfl rfl rfl rfl ?_
  refine me3 (pc' := 4) (S' := [ii er]) dm_X1_error_1 (g_get (v := ii er) h16 rfl rfl (by decide)) rfl rfl rfl ?_
  refine y_ret (r := some (ii er)) dm_X1_error_4 rfl rfl rfl ?_
  exact ⟨rfl, rfl⟩
set_option maxRecDepth 20000 in
theorem pm_X1_errorPlace : mj_mmof pg_ms 178 = some ((⟨"ArrayCalculator$Machine", "errorPlace", "()I"⟩, prog_3_method_4_code, 1, (Option.some Jvm.ClassFile.FieldType.int)), 1, false, mj_dec prog_3_method_4_code) := rfl
theorem dm_X1_errorPlace_0 : mj_dec prog_3_method_4_code 0 = some (.aload_n 0, 1) := by decide +kernel
theorem dm_X1_errorPlace_1 : mj_dec prog_3_method_4_code 1 = some (.getfield 50, 3) := by decide +kernel
theorem dm_X1_errorPlace_4 : mj_dec prog_3_method_4_code 4 = some (.ireturn, 1) := by decide +kernel
theorem m_errorPlace {xt : mj_X} {d : Nat} {h : mj_H} {tp dp ca ou wk er pl lv : Int} {nw vx vy dg lf rt : Value} (hd : 1 ≤ d) (h16 : h[16]? = some (mcC tp dp ca ou wk er pl nw vx vy dg lv lf rt)) : pgP xt d 178 [.ref 16] h (ii pl) := by
  refine x_enter pm_X1_errorPlace (L0 := [(0, .ref 16)]) rfl (Nat.le_of_ble_eq_true rfl) (by omega) ?_
  refine me1 (pc' := 1) (L' := [(0, .ref 16)]) (S' := [.ref 16]) dm_X1_errorPlace_0 rfl rfl rfl rfl ?_
  refine me3 (pc' := 4) (S' := [ii pl]) dm_X1_errorPlace_1 (g_get (v := ii pl) h16 rfl rfl (by decide)) rfl rfl rfl ?_
  refine y_ret (r := some (ii pl)) dm_X1_errorPlace_4 rfl rfl rfl ?_
  exact ⟨rfl, rfl⟩
set_option maxRecDepth 20000 in
theorem pm_X1_push : mj_mmof pg_ms 79 = some ((⟨"ArrayCalculator$Machine", "push", "(LArrayCalculator$Value;)V"⟩, prog_3_method_6_code, 2, (Option.none : Option Jvm.ClassFile.FieldType)), 1, false, mj_dec prog_3_method_6_code) := rfl
theorem dm_X1_push_0 : mj_dec prog_3_method_6_code 0 = some (.aload_n 0, 1) := by decide +kernel
theorem dm_X1_push_1 : mj_dec prog_3_method_6_code 1 = some (.getfield 53, 3) := by decide +kernel
theorem dm_X1_push_4 : mj_dec prog_3_method_6_code 4 = some (.aload_n 0, 1) := by decide +kernel
theorem dm_X1_push_5 : mj_dec prog_3_method_6_code 5 = some (.getfield 27, 3) := by decide +kernel
theorem dm_X1_push_8 : mj_dec prog_3_method_6_code 8 = some (.arraylength, 1) := by decide +kernel
theorem dm_X1_push_9 : mj_dec prog_3_method_6_code 9 = some (.if_icmp .ge 23, 3) := by decide +kernel
theorem dm_X1_push_12 : mj_dec prog_3_method_6_code 12 = some (.aload_n 0, 1) := by decide +kernel
theorem dm_X1_push_13 : mj_dec prog_3_method_6_code 13 = some (.getfield 27, 3) := by decide +kernel
theorem dm_X1_push_16 : mj_dec prog_3_method_6_code 16 = some (.aload_n 0, 1) := by decide +kernel
theorem dm_X1_push_17 : mj_dec prog_3_method_6_code 17 = some (.getfield 53, 3) := by decide +kernel
theorem dm_X1_push_20 : mj_dec prog_3_method_6_code 20 = some (.aload_n 1, 1) := by decide +kernel
theorem dm_X1_push_21 : mj_dec prog_3_method_6_code 21 = some (.aastore, 1) := by decide +kernel
theorem dm_X1_push_22 : mj_dec prog_3_method_6_code 22 = some (.aload_n 0, 1) := by decide +kernel
theorem dm_X1_push_23 : mj_dec prog_3_method_6_code 23 = some (.dup, 1) := by decide +kernel
theorem dm_X1_push_24 : mj_dec prog_3_method_6_code 24 = some (.getfield 53, 3) := by decide +kernel
theorem dm_X1_push_27 : mj_dec prog_3_method_6_code 27 = some (.iconst 1, 1) := by decide +kernel
theorem dm_X1_push_28 : mj_dec prog_3_method_6_code 28 = some (.iadd, 1) := by decide +kernel
theorem dm_X1_push_29 : mj_dec prog_3_method_6_code 29 = some (.putfield 53, 3) := by decide +kernel
theorem dm_X1_push_32 : mj_dec prog_3_method_6_code 32 = some (.return_, 1) := by decide +kernel
theorem m_push {xt : mj_X} {d t p : Nat} {h H : mj_H} {sf : Nat → Option Nat} {v0 v1 v2 v3 v4 v5 v6 v7 v8 : Value} {dp ca ou wk er pl lv : Int} {nw vx vy dg lf rt : Value} (hd : 1 ≤ d) (hp : h[p]? = some (cO 10 [v0, v1, v2, v3, v4, v5, v6, v7, v8])) (hp2 : 2 ≤ p) (h16 : h[16]? = some (mcC (t : Int) dp ca ou wk er pl nw vx vy dg lv lf rt)) (h32 : h[32]? = some (cA 4 8192 sf)) (ht : t < 8192) (hH : (h.set 32 (cA 4 8192 (va_up sf t (some p)))).set 16 (mcC ((t + 1 : Nat) : Int) dp ca ou wk er pl nw vx vy dg lv lf rt) = H) : pgN xt d 79 [.ref 16, .ref p] h (fun h' => h' = H) := by
  refine x_enter pm_X1_push (L0 := [(0, .ref 16), (1, .ref p)]) rfl (Nat.le_of_ble_eq_true rfl) (by omega) ?_
  refine me1 (pc' := 1) (L' := [(0, .ref 16), (1, .ref p)]) (S' := [.ref 16]) dm_X1_push_0 rfl rfl rfl rfl ?_
  refine me3 (pc' := 4) (S' := [ii (t : Int)]) dm_X1_push_1 (g_get (v := ii (t : Int)) h16 rfl rfl (by decide)) rfl rfl rfl ?_
  refine me1 (pc' := 5) (L' := [(0, .ref 16), (1, .ref p)]) (S' := [.ref 16, ii (t : Int)]) dm_X1_push_4 rfl rfl rfl rfl ?_
  refine me3 (pc' := 8) (S' := [.ref 32, ii (t : Int)]) dm_X1_push_5 (g_get (v := .ref 32) h16 rfl rfl (by decide)) rfl rfl rfl ?_
  refine me3 (pc' := 9) (S' := [ii 8192, ii (t : Int)]) dm_X1_push_8 (yh_len (n := 8192) rfl h32 (by decide)) rfl rfl rfl ?_
  refine y_2ge (a := (t : Int)) (b := 8192) (t := 32) (pc' := 12) dm_X1_push_9 rfl rfl (by omega) (fun hb1 => ?_) (fun hb1 => ?_)
  · exfalso; omega
  · refine me1 (pc' := 13) (L' := [(0, .ref 16), (1, .ref p)]) (S' := [.ref 16]) dm_X1_push_12 rfl rfl rfl rfl ?_
    refine me3 (pc' := 16) (S' := [.ref 32]) dm_X1_push_13 (g_get (v := .ref 32) h16 rfl rfl (by decide)) rfl rfl rfl ?_
    refine me1 (pc' := 17) (L' := [(0, .ref 16), (1, .ref p)]) (S' := [.ref 16, .ref 32]) dm_X1_push_16 rfl rfl rfl rfl ?_
    refine me3 (pc' := 20) (S' := [ii (t : Int), .ref 32]) dm_X1_push_17 (g_get (v := ii (t : Int)) h16 rfl rfl (by decide)) rfl rfl rfl ?_
    refine me1 (pc' := 21) (L' := [(0, .ref 16), (1, .ref p)]) (S' := [.ref p, ii (t : Int), .ref 32]) dm_X1_push_20 rfl rfl rfl rfl ?_
    refine me3 (pc' := 22) (S' := []) (h1 := (h).set 32 (cA 4 8192 (va_up sf t (some p)))) dm_X1_push_21 (yh_aasr (j := (t : Int)) rfl h32 hp (by omega) (by omega) (by omega) (by omega) (by decide)) rfl rfl rfl ?_
    refine me1 (pc' := 23) (L' := [(0, .ref 16), (1, .ref p)]) (S' := [.ref 16]) dm_X1_push_22 rfl rfl rfl rfl ?_
    refine me0 (pc' := 24) (S' := [.ref 16, .ref 16]) dm_X1_push_23 rfl rfl rfl rfl ?_
    refine me3 (pc' := 27) (S' := [ii (t : Int), .ref 16]) dm_X1_push_24 (g_get (v := ii (t : Int)) (hl_ne (by decide) h16) rfl rfl (by decide)) rfl rfl rfl ?_
    refine me0 (pc' := 28) (S' := [ii 1, ii (t : Int), .ref 16]) dm_X1_push_27 rfl rfl rfl rfl ?_
    refine y_iadd (a := (t : Int)) (b := 1) dm_X1_push_28 (pc' := 29) rfl ?_
    refine pg_st (S' := [ii ((t + 1 : Nat) : Int), .ref 16]) (congrArg (fun z => ii z :: [.ref 16]) (by push_cast; rfl)) ?_
    refine me3 (pc' := 32) (S' := []) (h1 := ((h).set 32 (cA 4 8192 (va_up sf t (some p)))).set 16 (cO 1 [.ref 4, .ref 17, .ref 26, .ref 32, ii ((t + 1 : Nat) : Int), .ref 33, ii dp, ii ca, ii ou, ii wk, ii er, ii pl, nw, vx, vy, dg, ii lv, lf, rt])) dm_X1_push_29 (g_put (fs' := [.ref 4, .ref 17, .ref 26, .ref 32, ii ((t + 1 : Nat) : Int), .ref 33, ii dp, ii ca, ii ou, ii wk, ii er, ii pl, nw, vx, vy, dg, ii lv, lf, rt]) (hl_ne (by decide) h16) rfl rfl rfl (by simp) rfl (by decide) (fun z => by cases z) (by decide)) rfl rfl rfl ?_
    refine y_ret (r := none) dm_X1_push_32 rfl rfl rfl ?_
    exact ⟨rfl, hH⟩
set_option maxRecDepth 20000 in
theorem pm_X1_pop : mj_mmof pg_ms 164 = some ((⟨"ArrayCalculator$Machine", "pop", "()LArrayCalculator$Value;"⟩, prog_3_method_7_code, 1, (Option.some (Jvm.ClassFile.FieldType.object "ArrayCalculator$Value"))), 1, false, mj_dec prog_3_method_7_code) := rfl
theorem dm_X1_pop_0 : mj_dec prog_3_method_7_code 0 = some (.aload_n 0, 1) := by decide +kernel
theorem dm_X1_pop_1 : mj_dec prog_3_method_7_code 1 = some (.getfield 53, 3) := by decide +kernel
theorem dm_X1_pop_4 : mj_dec prog_3_method_7_code 4 = some (.iconst 1, 1) := by decide +kernel
theorem dm_X1_pop_5 : mj_dec prog_3_method_7_code 5 = some (.if_icmp .ge 8, 3) := by decide +kernel
theorem dm_X1_pop_13 : mj_dec prog_3_method_7_code 13 = some (.aload_n 0, 1) := by decide +kernel
theorem dm_X1_pop_14 : mj_dec prog_3_method_7_code 14 = some (.dup, 1) := by decide +kernel
theorem dm_X1_pop_15 : mj_dec prog_3_method_7_code 15 = some (.getfield 53, 3) := by decide +kernel
theorem dm_X1_pop_18 : mj_dec prog_3_method_7_code 18 = some (.iconst 1, 1) := by decide +kernel
theorem dm_X1_pop_19 : mj_dec prog_3_method_7_code 19 = some (.isub, 1) := by decide +kernel
theorem dm_X1_pop_20 : mj_dec prog_3_method_7_code 20 = some (.putfield 53, 3) := by decide +kernel
theorem dm_X1_pop_23 : mj_dec prog_3_method_7_code 23 = some (.aload_n 0, 1) := by decide +kernel
theorem dm_X1_pop_24 : mj_dec prog_3_method_7_code 24 = some (.getfield 27, 3) := by decide +kernel
theorem dm_X1_pop_27 : mj_dec prog_3_method_7_code 27 = some (.aload_n 0, 1) := by decide +kernel
theorem dm_X1_pop_28 : mj_dec prog_3_method_7_code 28 = some (.getfield 53, 3) := by decide +kernel
theorem dm_X1_pop_31 : mj_dec prog_3_method_7_code 31 = some (.aaload, 1) := by decide +kernel
theorem dm_X1_pop_32 : mj_dec prog_3_method_7_code 32 = some (.areturn, 1) := by decide +kernel
theorem m_pop {xt : mj_X} {d t q : Nat} {h H : mj_H} {sf : Nat → Option Nat} {dp ca ou wk er pl lv : Int} {nw vx vy dg lf rt : Value} (hd : 1 ≤ d) (h16 : h[16]? = some (mcC ((t + 1 : Nat) : Int) dp ca ou wk er pl nw vx vy dg lv lf rt)) (h32 : h[32]? = some (cA 4 8192 sf)) (ht : t < 8192) (hq : sf t = some q) (hH : h.set 16 (mcC (t : Int) dp ca ou wk er pl nw vx vy dg lv lf rt) = H) : pgV xt d 164 [.ref 16] h (fun x h' => x = .ref q ∧ h' = H) := by
  refine x_enter pm_X1_pop (L0 := [(0, .ref 16)]) rfl (Nat.le_of_ble_eq_true rfl) (by omega) ?_
  refine me1 (pc' := 1) (L' := [(0, .ref 16)]) (S' := [.ref 16]) dm_X1_pop_0 rfl rfl rfl rfl ?_
  refine me3 (pc' := 4) (S' := [ii ((t + 1 : Nat) : Int)]) dm_X1_pop_1 (g_get (v := ii ((t + 1 : Nat) : Int)) h16 rfl rfl (by decide)) rfl rfl rfl ?_
  refine me0 (pc' := 5) (S' := [ii 1, ii ((t + 1 : Nat) : Int)]) dm_X1_pop_4 rfl rfl rfl rfl ?_
  refine y_2ge (a := ((t + 1 : Nat) : Int)) (b := 1) (t := 13) (pc' := 8) dm_X1_pop_5 rfl rfl (by omega) (fun hb1 => ?_) (fun hb1 => ?_)
  · refine me1 (pc' := 14) (L' := [(0, .ref 16)]) (S' := [.ref 16]) dm_X1_pop_13 rfl rfl rfl rfl ?_
    refine me0 (pc' := 15) (S' := [.ref 16, .ref 16]) dm_X1_pop_14 rfl rfl rfl rfl ?_
    refine me3 (pc' := 18) (S' := [ii ((t + 1 : Nat) : Int), .ref 16]) dm_X1_pop_15 (g_get (v := ii ((t + 1 : Nat) : Int)) h16 rfl rfl (by decide)) rfl rfl rfl ?_
    refine me0 (pc' := 19) (S' := [ii 1, ii ((t + 1 : Nat) : Int), .ref 16]) dm_X1_pop_18 rfl rfl rfl rfl ?_
    refine y_isub (a := ((t + 1 : Nat) : Int)) (b := 1) dm_X1_pop_19 (pc' := 20) rfl ?_
    refine pg_st (S' := [ii (t : Int), .ref 16]) (congrArg (fun z => ii z :: [.ref 16]) (by push_cast; omega)) ?_
    refine me3 (pc' := 23) (S' := []) (h1 := (h).set 16 (cO 1 [.ref 4, .ref 17, .ref 26, .ref 32, ii (t : Int), .ref 33, ii dp, ii ca, ii ou, ii wk, ii er, ii pl, nw, vx, vy, dg, ii lv, lf, rt])) dm_X1_pop_20 (g_put (fs' := [.ref 4, .ref 17, .ref 26, .ref 32, ii (t : Int), .ref 33, ii dp, ii ca, ii ou, ii wk, ii er, ii pl, nw, vx, vy, dg, ii lv, lf, rt]) h16 rfl rfl rfl (by simp) rfl (by decide) (fun z => by cases z) (by decide)) rfl rfl rfl ?_
    refine me1 (pc' := 24) (L' := [(0, .ref 16)]) (S' := [.ref 16]) dm_X1_pop_23 rfl rfl rfl rfl ?_
    refine me3 (pc' := 27) (S' := [.ref 32]) dm_X1_pop_24 (g_get (v := .ref 32) (hl_set (hl_lt h16)) rfl rfl (by decide)) rfl rfl rfl ?_
    refine me1 (pc' := 28) (L' := [(0, .ref 16)]) (S' := [.ref 16, .ref 32]) dm_X1_pop_27 rfl rfl rfl rfl ?_
    refine me3 (pc' := 31) (S' := [ii (t : Int), .ref 32]) dm_X1_pop_28 (g_get (v := ii (t : Int)) (hl_set (hl_lt h16)) rfl rfl (by decide)) rfl rfl rfl ?_
    refine me3 (pc' := 32) (S' := [.ref q]) dm_X1_pop_31 (yh_aald (w := some q) rfl (hl_ne (by decide) h32) (by omega) (by omega) (by omega) (by decide) hq) rfl rfl rfl ?_
    refine y_ret (r := some (.ref q)) dm_X1_pop_32 rfl rfl rfl ?_
    exact ⟨_, rfl, rfl, hH⟩
  · exfalso; omega
set_option maxRecDepth 20000 in
theorem pm_X1_fail : mj_mmof pg_ms 73 = some ((⟨"ArrayCalculator$Machine", "fail", "(ILArrayCalculator$Op;)V"⟩, prog_3_method_9_code, 3, (Option.none : Option Jvm.ClassFile.FieldType)), 1, false, mj_dec prog_3_method_9_code) := rfl
theorem dm_X1_fail_0 : mj_dec prog_3_method_9_code 0 = some (.aload_n 0, 1) := by decide +kernel
theorem dm_X1_fail_1 : mj_dec prog_3_method_9_code 1 = some (.iload_n 1, 1) := by decide +kernel
theorem dm_X1_fail_2 : mj_dec prog_3_method_9_code 2 = some (.putfield 47, 3) := by decide +kernel
theorem dm_X1_fail_5 : mj_dec prog_3_method_9_code 5 = some (.aload_n 0, 1) := by decide +kernel
theorem dm_X1_fail_6 : mj_dec prog_3_method_9_code 6 = some (.aload_n 0, 1) := by decide +kernel
theorem dm_X1_fail_7 : mj_dec prog_3_method_9_code 7 = some (.getfield 59, 3) := by decide +kernel
theorem dm_X1_fail_10 : mj_dec prog_3_method_9_code 10 = some (.ifCond .le 10, 3) := by decide +kernel
theorem dm_X1_fail_13 : mj_dec prog_3_method_9_code 13 = some (.aload_n 0, 1) := by decide +kernel
theorem dm_X1_fail_14 : mj_dec prog_3_method_9_code 14 = some (.getfield 121, 3) := by decide +kernel
theorem dm_X1_fail_17 : mj_dec prog_3_method_9_code 17 = some (.goto 7, 3) := by decide +kernel
theorem dm_X1_fail_20 : mj_dec prog_3_method_9_code 20 = some (.aload_n 2, 1) := by decide +kernel
theorem dm_X1_fail_21 : mj_dec prog_3_method_9_code 21 = some (.getfield 124, 3) := by decide +kernel
theorem dm_X1_fail_24 : mj_dec prog_3_method_9_code 24 = some (.putfield 50, 3) := by decide +kernel
theorem dm_X1_fail_27 : mj_dec prog_3_method_9_code 27 = some (.return_, 1) := by decide +kernel
theorem m_fail {xt : mj_X} {d : Nat} {h : mj_H} {tp dp ca ou wk er pl lv : Int} {nw vx vy dg lf rt : Value} (hd : 1 ≤ d) (h16 : h[16]? = some (mcC tp dp ca ou wk er pl nw vx vy dg lv lf rt)) {p : Nat} {od pp ov oa om ot : Int} {on : Int64} {ovl onx oot : Value} (hp : h[p]? = some (opC od pp ov on oa om ot ovl onx oot)) (hp2 : 127 ≤ p) (hca : -2147483648 ≤ ca ∧ ca ≤ 2147483647) {H : mj_H} {c : Int} (hH : h.set 16 (mcC tp dp ca ou wk c (if 0 < ca then ou else pp) nw vx vy dg lv lf rt) = H) : pgN xt d 73 [.ref 16, ii c, .ref p] h (fun h' => h' = H) := by
  refine x_enter pm_X1_fail (L0 := [(0, .ref 16), (1, ii c), (2, .ref p)]) rfl (Nat.le_of_ble_eq_true rfl) (by omega) ?_
  refine me1 (pc' := 1) (L' := [(0, .ref 16), (1, ii c), (2, .ref p)]) (S' := [.ref 16]) dm_X1_fail_0 rfl rfl rfl rfl ?_
  refine me1 (pc' := 2) (L' := [(0, .ref 16), (1, ii c), (2, .ref p)]) (S' := [ii c, .ref 16]) dm_X1_fail_1 rfl rfl rfl rfl ?_
  refine me3 (pc' := 5) (S' := []) (h1 := (h).set 16 (cO 1 [.ref 4, .ref 17, .ref 26, .ref 32, ii tp, .ref 33, ii dp, ii ca, ii ou, ii wk, ii c, ii pl, nw, vx, vy, dg, ii lv, lf, rt])) dm_X1_fail_2 (g_put (fs' := [.ref 4, .ref 17, .ref 26, .ref 32, ii tp, .ref 33, ii dp, ii ca, ii ou, ii wk, ii c, ii pl, nw, vx, vy, dg, ii lv, lf, rt]) h16 rfl rfl rfl (by simp) rfl (by decide) (fun z => by cases z) (by decide)) rfl rfl rfl ?_
  refine me1 (pc' := 6) (L' := [(0, .ref 16), (1, ii c), (2, .ref p)]) (S' := [.ref 16]) dm_X1_fail_5 rfl rfl rfl rfl ?_
  refine me1 (pc' := 7) (L' := [(0, .ref 16), (1, ii c), (2, .ref p)]) (S' := [.ref 16, .ref 16]) dm_X1_fail_6 rfl rfl rfl rfl ?_
  refine me3 (pc' := 10) (S' := [ii ca, .ref 16]) dm_X1_fail_7 (g_get (v := ii ca) (hl_set (hl_lt h16)) rfl rfl (by decide)) rfl rfl rfl ?_
  refine y_1le (a := ca) (t := 20) (pc' := 13) dm_X1_fail_10 rfl rfl (by omega) (fun hb1 => ?_) (fun hb1 => ?_)
  · refine me1 (pc' := 21) (L' := [(0, .ref 16), (1, ii c), (2, .ref p)]) (S' := [.ref p, .ref 16]) dm_X1_fail_20 rfl rfl rfl rfl ?_
    refine me3 (pc' := 24) (S' := [ii pp, .ref 16]) dm_X1_fail_21 (g_get (v := ii pp) (hl_ne (by omega) hp) rfl rfl (by omega)) rfl rfl rfl ?_
    refine me3 (pc' := 27) (S' := []) (h1 := (h).set 16 (cO 1 [.ref 4, .ref 17, .ref 26, .ref 32, ii tp, .ref 33, ii dp, ii ca, ii ou, ii wk, ii c, ii pp, nw, vx, vy, dg, ii lv, lf, rt])) dm_X1_fail_24 (g_put (fs' := [.ref 4, .ref 17, .ref 26, .ref 32, ii tp, .ref 33, ii dp, ii ca, ii ou, ii wk, ii c, ii pp, nw, vx, vy, dg, ii lv, lf, rt]) (hl_set (hl_lt h16)) rfl (by rw [List.set_set]) rfl (by simp) rfl (by decide) (fun z => by cases z) (by decide)) rfl rfl rfl ?_
    refine y_ret (r := none) dm_X1_fail_27 rfl rfl rfl ?_
    refine ⟨rfl, ?_⟩
    rw [← hH]
    first | rw [if_pos (by omega)] | rw [if_neg (by omega)]
  · refine me1 (pc' := 14) (L' := [(0, .ref 16), (1, ii c), (2, .ref p)]) (S' := [.ref 16, .ref 16]) dm_X1_fail_13 rfl rfl rfl rfl ?_
    refine me3 (pc' := 17) (S' := [ii ou, .ref 16]) dm_X1_fail_14 (g_get (v := ii ou) (hl_set (hl_lt h16)) rfl rfl (by decide)) rfl rfl rfl ?_
    refine me2 (pc' := 24) (S' := [ii ou, .ref 16]) dm_X1_fail_17 rfl rfl rfl ?_
    refine me3 (pc' := 27) (S' := []) (h1 := (h).set 16 (cO 1 [.ref 4, .ref 17, .ref 26, .ref 32, ii tp, .ref 33, ii dp, ii ca, ii ou, ii wk, ii c, ii ou, nw, vx, vy, dg, ii lv, lf, rt])) dm_X1_fail_24 (g_put (fs' := [.ref 4, .ref 17, .ref 26, .ref 32, ii tp, .ref 33, ii dp, ii ca, ii ou, ii wk, ii c, ii ou, nw, vx, vy, dg, ii lv, lf, rt]) (hl_set (hl_lt h16)) rfl (by rw [List.set_set]) rfl (by simp) rfl (by decide) (fun z => by cases z) (by decide)) rfl rfl rfl ?_
    refine y_ret (r := none) dm_X1_fail_27 rfl rfl rfl ?_
    refine ⟨rfl, ?_⟩
    rw [← hH]
    first | rw [if_pos (by omega)] | rw [if_neg (by omega)]
set_option maxRecDepth 20000 in
theorem pm_X1_take : mj_mmof pg_ms 72 = some ((⟨"ArrayCalculator$Machine", "take", "(ILArrayCalculator$Op;)Z"⟩, prog_3_method_10_code, 3, (Option.some Jvm.ClassFile.FieldType.boolean)), 1, false, mj_dec prog_3_method_10_code) := rfl
theorem dm_X1_take_0 : mj_dec prog_3_method_10_code 0 = some (.iload_n 1, 1) := by decide +kernel
theorem dm_X1_take_1 : mj_dec prog_3_method_10_code 1 = some (.aload_n 0, 1) := by decide +kernel
theorem dm_X1_take_2 : mj_dec prog_3_method_10_code 2 = some (.getfield 38, 3) := by decide +kernel
theorem dm_X1_take_5 : mj_dec prog_3_method_10_code 5 = some (.if_icmp .le 12, 3) := by decide +kernel
theorem dm_X1_take_17 : mj_dec prog_3_method_10_code 17 = some (.aload_n 0, 1) := by decide +kernel
theorem dm_X1_take_18 : mj_dec prog_3_method_10_code 18 = some (.dup, 1) := by decide +kernel
theorem dm_X1_take_19 : mj_dec prog_3_method_10_code 19 = some (.getfield 38, 3) := by decide +kernel
theorem dm_X1_take_22 : mj_dec prog_3_method_10_code 22 = some (.iload_n 1, 1) := by decide +kernel
theorem dm_X1_take_23 : mj_dec prog_3_method_10_code 23 = some (.isub, 1) := by decide +kernel
theorem dm_X1_take_24 : mj_dec prog_3_method_10_code 24 = some (.putfield 38, 3) := by decide +kernel
theorem dm_X1_take_27 : mj_dec prog_3_method_10_code 27 = some (.iconst 1, 1) := by decide +kernel
theorem dm_X1_take_28 : mj_dec prog_3_method_10_code 28 = some (.ireturn, 1) := by decide +kernel
theorem m_takeT {xt : mj_X} {d : Nat} {h : mj_H} {tp dp ca ou wk er pl lv : Int} {nw vx vy dg lf rt : Value} (hd : 2 ≤ d) (h16 : h[16]? = some (mcC tp dp ca ou wk er pl nw vx vy dg lv lf rt)) {p : Nat} {od pp ov oa om ot : Int} {on : Int64} {ovl onx oot : Value} (hp : h[p]? = some (opC od pp ov on oa om ot ovl onx oot)) (hp2 : 127 ≤ p) (hca : -2147483648 ≤ ca ∧ ca ≤ 2147483647) {n : Int} (hn : 0 ≤ n ∧ n ≤ 1000000) (hwk : 0 ≤ wk ∧ wk ≤ 1000000) {H : mj_H} (hle : n ≤ wk) (hH : h.set 16 (mcC tp dp ca ou (wk - n) er pl nw vx vy dg lv lf rt) = H) : pgV xt d 72 [.ref 16, ii n, .ref p] h (fun x h' => x = ii 1 ∧ h' = H) := by
  refine x_enter pm_X1_take (L0 := [(0, .ref 16), (1, ii n), (2, .ref p)]) rfl (Nat.le_of_ble_eq_true rfl) (by omega) ?_
  refine me1 (pc' := 1) (L' := [(0, .ref 16), (1, ii n), (2, .ref p)]) (S' := [ii n]) dm_X1_take_0 rfl rfl rfl rfl ?_
  refine me1 (pc' := 2) (L' := [(0, .ref 16), (1, ii n), (2, .ref p)]) (S' := [.ref 16, ii n]) dm_X1_take_1 rfl rfl rfl rfl ?_
  refine me3 (pc' := 5) (S' := [ii wk, ii n]) dm_X1_take_2 (g_get (v := ii wk) h16 rfl rfl (by decide)) rfl rfl rfl ?_
  refine y_2le (a := n) (b := wk) (t := 17) (pc' := 8) dm_X1_take_5 rfl rfl (by omega) (fun hb1 => ?_) (fun hb1 => ?_)
  · refine me1 (pc' := 18) (L' := [(0, .ref 16), (1, ii n), (2, .ref p)]) (S' := [.ref 16]) dm_X1_take_17 rfl rfl rfl rfl ?_
    refine me0 (pc' := 19) (S' := [.ref 16, .ref 16]) dm_X1_take_18 rfl rfl rfl rfl ?_
    refine me3 (pc' := 22) (S' := [ii wk, .ref 16]) dm_X1_take_19 (g_get (v := ii wk) h16 rfl rfl (by decide)) rfl rfl rfl ?_
    refine me1 (pc' := 23) (L' := [(0, .ref 16), (1, ii n), (2, .ref p)]) (S' := [ii n, ii wk, .ref 16]) dm_X1_take_22 rfl rfl rfl rfl ?_
    refine y_isub (a := wk) (b := n) dm_X1_take_23 (pc' := 24) rfl ?_
    refine me3 (pc' := 27) (S' := []) (h1 := (h).set 16 (cO 1 [.ref 4, .ref 17, .ref 26, .ref 32, ii tp, .ref 33, ii dp, ii ca, ii ou, ii (wk - n), ii er, ii pl, nw, vx, vy, dg, ii lv, lf, rt])) dm_X1_take_24 (g_put (fs' := [.ref 4, .ref 17, .ref 26, .ref 32, ii tp, .ref 33, ii dp, ii ca, ii ou, ii (wk - n), ii er, ii pl, nw, vx, vy, dg, ii lv, lf, rt]) h16 rfl rfl rfl (by simp) rfl (by decide) (fun z => by cases z) (by decide)) rfl rfl rfl ?_
    refine me0 (pc' := 28) (S' := [ii 1]) dm_X1_take_27 rfl rfl rfl rfl ?_
    refine y_ret (r := some (ii 1)) dm_X1_take_28 rfl rfl rfl ?_
    exact ⟨_, rfl, rfl, hH⟩
  · exfalso; omega
theorem dm_X1_take_8 : mj_dec prog_3_method_10_code 8 = some (.aload_n 0, 1) := by decide +kernel
theorem dm_X1_take_9 : mj_dec prog_3_method_10_code 9 = some (.bipush 10, 2) := by decide +kernel
theorem dm_X1_take_11 : mj_dec prog_3_method_10_code 11 = some (.aload_n 2, 1) := by decide +kernel
theorem dm_X1_take_12 : mj_dec prog_3_method_10_code 12 = some (.invokevirtual 125, 3) := by decide +kernel
theorem dm_X1_take_15 : mj_dec prog_3_method_10_code 15 = some (.iconst 0, 1) := by decide +kernel
theorem dm_X1_take_16 : mj_dec prog_3_method_10_code 16 = some (.ireturn, 1) := by decide +kernel
theorem m_takeF {xt : mj_X} {d : Nat} {h : mj_H} {tp dp ca ou wk er pl lv : Int} {nw vx vy dg lf rt : Value} (hd : 2 ≤ d) (h16 : h[16]? = some (mcC tp dp ca ou wk er pl nw vx vy dg lv lf rt)) {p : Nat} {od pp ov oa om ot : Int} {on : Int64} {ovl onx oot : Value} (hp : h[p]? = some (opC od pp ov on oa om ot ovl onx oot)) (hp2 : 127 ≤ p) (hca : -2147483648 ≤ ca ∧ ca ≤ 2147483647) {n : Int} (hn : 0 ≤ n ∧ n ≤ 1000000) (hwk : 0 ≤ wk ∧ wk ≤ 1000000) {H : mj_H} (hle : wk < n) (hH : h.set 16 (mcC tp dp ca ou wk 10 (if 0 < ca then ou else pp) nw vx vy dg lv lf rt) = H) : pgV xt d 72 [.ref 16, ii n, .ref p] h (fun x h' => x = ii 0 ∧ h' = H) := by
  refine x_enter pm_X1_take (L0 := [(0, .ref 16), (1, ii n), (2, .ref p)]) rfl (Nat.le_of_ble_eq_true rfl) (by omega) ?_
  refine me1 (pc' := 1) (L' := [(0, .ref 16), (1, ii n), (2, .ref p)]) (S' := [ii n]) dm_X1_take_0 rfl rfl rfl rfl ?_
  refine me1 (pc' := 2) (L' := [(0, .ref 16), (1, ii n), (2, .ref p)]) (S' := [.ref 16, ii n]) dm_X1_take_1 rfl rfl rfl rfl ?_
  refine me3 (pc' := 5) (S' := [ii wk, ii n]) dm_X1_take_2 (g_get (v := ii wk) h16 rfl rfl (by decide)) rfl rfl rfl ?_
  refine y_2le (a := n) (b := wk) (t := 17) (pc' := 8) dm_X1_take_5 rfl rfl (by omega) (fun hb1 => ?_) (fun hb1 => ?_)
  · exfalso; omega
  · refine me1 (pc' := 9) (L' := [(0, .ref 16), (1, ii n), (2, .ref p)]) (S' := [.ref 16]) dm_X1_take_8 rfl rfl rfl rfl ?_
    refine me0 (pc' := 11) (S' := [ii 10, .ref 16]) dm_X1_take_9 rfl rfl rfl rfl ?_
    refine me1 (pc' := 12) (L' := [(0, .ref 16), (1, ii n), (2, .ref p)]) (S' := [.ref p, ii 10, .ref 16]) dm_X1_take_11 rfl rfl rfl rfl ?_
    refine x_cn (pc' := 15) (rest := []) dm_X1_take_12 rfl (g_inv (As := [ii 10, .ref p]) (S := []) h16 rfl rfl rfl (by decide)) rfl rfl rfl (m_fail (c := 10) (by omega) h16 hp hp2 hca rfl) ?_
    rintro _ rfl
    refine me0 (pc' := 16) (S' := [ii 0]) dm_X1_take_15 rfl rfl rfl rfl ?_
    refine y_ret (r := some (ii 0)) dm_X1_take_16 rfl rfl rfl ?_
    exact ⟨_, rfl, rfl, hH⟩
set_option maxRecDepth 20000 in
theorem pm_X1_pend : mj_mmof pg_ms 165 = some ((⟨"ArrayCalculator$Machine", "pend", "(LArrayCalculator$Op;ILArrayCalculator$Value;LArrayCalculator$Value;)V"⟩, prog_3_method_11_code, 5, (Option.none : Option Jvm.ClassFile.FieldType)), 1, false, mj_dec prog_3_method_11_code) := rfl
theorem dm_X1_pend_0 : mj_dec prog_3_method_11_code 0 = some (.aload_n 0, 1) := by decide +kernel
theorem dm_X1_pend_1 : mj_dec prog_3_method_11_code 1 = some (.aload_n 1, 1) := by decide +kernel
theorem dm_X1_pend_2 : mj_dec prog_3_method_11_code 2 = some (.putfield 69, 3) := by decide +kernel
theorem dm_X1_pend_5 : mj_dec prog_3_method_11_code 5 = some (.aload_n 0, 1) := by decide +kernel
theorem dm_X1_pend_6 : mj_dec prog_3_method_11_code 6 = some (.iload_n 2, 1) := by decide +kernel
theorem dm_X1_pend_7 : mj_dec prog_3_method_11_code 7 = some (.putfield 77, 3) := by decide +kernel
theorem dm_X1_pend_10 : mj_dec prog_3_method_11_code 10 = some (.aload_n 0, 1) := by decide +kernel
theorem dm_X1_pend_11 : mj_dec prog_3_method_11_code 11 = some (.aload_n 3, 1) := by decide +kernel
theorem dm_X1_pend_12 : mj_dec prog_3_method_11_code 12 = some (.putfield 80, 3) := by decide +kernel
theorem dm_X1_pend_15 : mj_dec prog_3_method_11_code 15 = some (.aload_n 0, 1) := by decide +kernel
theorem dm_X1_pend_16 : mj_dec prog_3_method_11_code 16 = some (.aload 4, 2) := by decide +kernel
theorem dm_X1_pend_18 : mj_dec prog_3_method_11_code 18 = some (.putfield 83, 3) := by decide +kernel
theorem dm_X1_pend_21 : mj_dec prog_3_method_11_code 21 = some (.return_, 1) := by decide +kernel
theorem m_pend {xt : mj_X} {d : Nat} {h : mj_H} {tp dp ca ou wk er pl lv : Int} {nw vx vy dg lf rt : Value} (hd : 1 ≤ d) (h16 : h[16]? = some (mcC tp dp ca ou wk er pl nw vx vy dg lv lf rt)) {p : Nat} {k : Int} {bl bw : Option Nat} {H : mj_H} (hH : h.set 16 (mcC tp dp ca ou wk er pl nw vx vy (.ref p) k (oV bl) (oV bw)) = H) : pgN xt d 165 [.ref 16, .ref p, ii k, oV bl, oV bw] h (fun h' => h' = H) := by
  refine x_enter pm_X1_pend (L0 := [(0, .ref 16), (1, .ref p), (2, ii k), (3, oV bl), (4, oV bw)]) (by cases bl <;> cases bw <;> rfl) (by cases bl <;> cases bw <;> exact Nat.le_of_ble_eq_true rfl) (by omega) ?_
  refine me1 (pc' := 1) (L' := [(0, .ref 16), (1, .ref p), (2, ii k), (3, oV bl), (4, oV bw)]) (S' := [.ref 16]) dm_X1_pend_0 rfl rfl rfl rfl ?_
  refine me1 (pc' := 2) (L' := [(0, .ref 16), (1, .ref p), (2, ii k), (3, oV bl), (4, oV bw)]) (S' := [.ref p, .ref 16]) dm_X1_pend_1 rfl rfl rfl rfl ?_
  refine me3 (pc' := 5) (S' := []) (h1 := (h).set 16 (cO 1 [.ref 4, .ref 17, .ref 26, .ref 32, ii tp, .ref 33, ii dp, ii ca, ii ou, ii wk, ii er, ii pl, nw, vx, vy, .ref p, ii lv, lf, rt])) dm_X1_pend_2 (g_put (fs' := [.ref 4, .ref 17, .ref 26, .ref 32, ii tp, .ref 33, ii dp, ii ca, ii ou, ii wk, ii er, ii pl, nw, vx, vy, .ref p, ii lv, lf, rt]) h16 rfl rfl rfl (by simp) rfl (by decide) (fun z => by cases z) (by decide)) rfl rfl rfl ?_
  refine me1 (pc' := 6) (L' := [(0, .ref 16), (1, .ref p), (2, ii k), (3, oV bl), (4, oV bw)]) (S' := [.ref 16]) dm_X1_pend_5 rfl rfl rfl rfl ?_
  refine me1 (pc' := 7) (L' := [(0, .ref 16), (1, .ref p), (2, ii k), (3, oV bl), (4, oV bw)]) (S' := [ii k, .ref 16]) dm_X1_pend_6 rfl rfl rfl rfl ?_
  refine me3 (pc' := 10) (S' := []) (h1 := (h).set 16 (cO 1 [.ref 4, .ref 17, .ref 26, .ref 32, ii tp, .ref 33, ii dp, ii ca, ii ou, ii wk, ii er, ii pl, nw, vx, vy, .ref p, ii k, lf, rt])) dm_X1_pend_7 (g_put (fs' := [.ref 4, .ref 17, .ref 26, .ref 32, ii tp, .ref 33, ii dp, ii ca, ii ou, ii wk, ii er, ii pl, nw, vx, vy, .ref p, ii k, lf, rt]) (hl_set (hl_lt h16)) rfl (by rw [List.set_set]) rfl (by simp) rfl (by decide) (fun z => by cases z) (by decide)) rfl rfl rfl ?_
  refine me1 (pc' := 11) (L' := [(0, .ref 16), (1, .ref p), (2, ii k), (3, oV bl), (4, oV bw)]) (S' := [.ref 16]) dm_X1_pend_10 rfl rfl rfl rfl ?_
  refine me1 (pc' := 12) (L' := [(0, .ref 16), (1, .ref p), (2, ii k), (3, oV bl), (4, oV bw)]) (S' := [oV bl, .ref 16]) dm_X1_pend_11 (by cases bl <;> rfl) rfl rfl rfl ?_
  refine me3 (pc' := 15) (S' := []) (h1 := (h).set 16 (cO 1 [.ref 4, .ref 17, .ref 26, .ref 32, ii tp, .ref 33, ii dp, ii ca, ii ou, ii wk, ii er, ii pl, nw, vx, vy, .ref p, ii k, oV bl, rt])) dm_X1_pend_12 (g_put (fs' := [.ref 4, .ref 17, .ref 26, .ref 32, ii tp, .ref 33, ii dp, ii ca, ii ou, ii wk, ii er, ii pl, nw, vx, vy, .ref p, ii k, oV bl, rt]) (hl_set (hl_lt h16)) rfl (by rw [List.set_set]) rfl (by simp) (oV_fit _ _) (by decide) (fun z => by cases z) (by decide)) rfl rfl rfl ?_
  refine me1 (pc' := 16) (L' := [(0, .ref 16), (1, .ref p), (2, ii k), (3, oV bl), (4, oV bw)]) (S' := [.ref 16]) dm_X1_pend_15 rfl rfl rfl rfl ?_
  refine me1 (pc' := 18) (L' := [(0, .ref 16), (1, .ref p), (2, ii k), (3, oV bl), (4, oV bw)]) (S' := [oV bw, .ref 16]) dm_X1_pend_16 (by cases bw <;> rfl) rfl rfl rfl ?_
  refine me3 (pc' := 21) (S' := []) (h1 := (h).set 16 (cO 1 [.ref 4, .ref 17, .ref 26, .ref 32, ii tp, .ref 33, ii dp, ii ca, ii ou, ii wk, ii er, ii pl, nw, vx, vy, .ref p, ii k, oV bl, oV bw])) dm_X1_pend_18 (g_put (fs' := [.ref 4, .ref 17, .ref 26, .ref 32, ii tp, .ref 33, ii dp, ii ca, ii ou, ii wk, ii er, ii pl, nw, vx, vy, .ref p, ii k, oV bl, oV bw]) (hl_set (hl_lt h16)) rfl (by rw [List.set_set]) rfl (by simp) (oV_fit _ _) (by decide) (fun z => by cases z) (by decide)) rfl rfl rfl ?_
  refine y_ret (r := none) dm_X1_pend_21 rfl rfl rfl ?_
  exact ⟨rfl, hH⟩
set_option maxRecDepth 20000 in
theorem pm_X1_giveBack : mj_mmof pg_ms 175 = some ((⟨"ArrayCalculator$Machine", "giveBack", "(LArrayCalculator$Frame;)V"⟩, prog_3_method_19_code, 2, (Option.none : Option Jvm.ClassFile.FieldType)), 1, false, mj_dec prog_3_method_19_code) := rfl
theorem dm_X1_giveBack_0 : mj_dec prog_3_method_19_code 0 = some (.aload_n 0, 1) := by decide +kernel
theorem dm_X1_giveBack_1 : mj_dec prog_3_method_19_code 1 = some (.dup, 1) := by decide +kernel
theorem dm_X1_giveBack_2 : mj_dec prog_3_method_19_code 2 = some (.getfield 56, 3) := by decide +kernel
theorem dm_X1_giveBack_5 : mj_dec prog_3_method_19_code 5 = some (.iconst 1, 1) := by decide +kernel
theorem dm_X1_giveBack_6 : mj_dec prog_3_method_19_code 6 = some (.isub, 1) := by decide +kernel
theorem dm_X1_giveBack_7 : mj_dec prog_3_method_19_code 7 = some (.putfield 56, 3) := by decide +kernel
theorem dm_X1_giveBack_10 : mj_dec prog_3_method_19_code 10 = some (.aload_n 0, 1) := by decide +kernel
theorem dm_X1_giveBack_11 : mj_dec prog_3_method_19_code 11 = some (.dup, 1) := by decide +kernel
theorem dm_X1_giveBack_12 : mj_dec prog_3_method_19_code 12 = some (.getfield 59, 3) := by decide +kernel
theorem dm_X1_giveBack_15 : mj_dec prog_3_method_19_code 15 = some (.iconst 1, 1) := by decide +kernel
theorem dm_X1_giveBack_16 : mj_dec prog_3_method_19_code 16 = some (.isub, 1) := by decide +kernel
theorem dm_X1_giveBack_17 : mj_dec prog_3_method_19_code 17 = some (.putfield 59, 3) := by decide +kernel
theorem dm_X1_giveBack_20 : mj_dec prog_3_method_19_code 20 = some (.aload_n 0, 1) := by decide +kernel
theorem dm_X1_giveBack_21 : mj_dec prog_3_method_19_code 21 = some (.aload_n 1, 1) := by decide +kernel
theorem dm_X1_giveBack_22 : mj_dec prog_3_method_19_code 22 = some (.getfield 222, 3) := by decide +kernel
theorem dm_X1_giveBack_25 : mj_dec prog_3_method_19_code 25 = some (.putfield 73, 3) := by decide +kernel
theorem dm_X1_giveBack_28 : mj_dec prog_3_method_19_code 28 = some (.aload_n 0, 1) := by decide +kernel
theorem dm_X1_giveBack_29 : mj_dec prog_3_method_19_code 29 = some (.aload_n 1, 1) := by decide +kernel
theorem dm_X1_giveBack_30 : mj_dec prog_3_method_19_code 30 = some (.getfield 225, 3) := by decide +kernel
theorem dm_X1_giveBack_33 : mj_dec prog_3_method_19_code 33 = some (.putfield 62, 3) := by decide +kernel
theorem dm_X1_giveBack_36 : mj_dec prog_3_method_19_code 36 = some (.aload_n 0, 1) := by decide +kernel
theorem dm_X1_giveBack_37 : mj_dec prog_3_method_19_code 37 = some (.aload_n 1, 1) := by decide +kernel
theorem dm_X1_giveBack_38 : mj_dec prog_3_method_19_code 38 = some (.getfield 226, 3) := by decide +kernel
theorem dm_X1_giveBack_41 : mj_dec prog_3_method_19_code 41 = some (.putfield 66, 3) := by decide +kernel
theorem dm_X1_giveBack_44 : mj_dec prog_3_method_19_code 44 = some (.return_, 1) := by decide +kernel
theorem m_giveBack {xt : mj_X} {d : Nat} {h : mj_H} {tp dp ca ou wk er pl lv : Int} {nw vx vy dg lf rt : Value} (hd : 1 ≤ d) (h16 : h[16]? = some (mcC tp dp ca ou wk er pl nw vx vy dg lv lf rt)) {p : Nat} {fl fn fm fb : Int} {fo fx fy : Option Nat} (hp : h[p]? = some (cO 0 [ii fl, oV fo, oV fx, oV fy, ii fn, ii fm, ii fb])) (hp2 : 34 ≤ p) {H : mj_H} (hH : h.set 16 (mcC tp (dp - 1) (ca - 1) ou wk er pl (oV fo) (oV fx) (oV fy) dg lv lf rt) = H) : pgN xt d 175 [.ref 16, .ref p] h (fun h' => h' = H) := by
  refine x_enter pm_X1_giveBack (L0 := [(0, .ref 16), (1, .ref p)]) rfl (Nat.le_of_ble_eq_true rfl) (by omega) ?_
  refine me1 (pc' := 1) (L' := [(0, .ref 16), (1, .ref p)]) (S' := [.ref 16]) dm_X1_giveBack_0 rfl rfl rfl rfl ?_
  refine me0 (pc' := 2) (S' := [.ref 16, .ref 16]) dm_X1_giveBack_1 rfl rfl rfl rfl ?_
  refine me3 (pc' := 5) (S' := [ii dp, .ref 16]) dm_X1_giveBack_2 (g_get (v := ii dp) h16 rfl rfl (by decide)) rfl rfl rfl ?_
  refine me0 (pc' := 6) (S' := [ii 1, ii dp, .ref 16]) dm_X1_giveBack_5 rfl rfl rfl rfl ?_
  refine y_isub (a := dp) (b := 1) dm_X1_giveBack_6 (pc' := 7) rfl ?_
  refine me3 (pc' := 10) (S' := []) (h1 := (h).set 16 (cO 1 [.ref 4, .ref 17, .ref 26, .ref 32, ii tp, .ref 33, ii (dp - 1), ii ca, ii ou, ii wk, ii er, ii pl, nw, vx, vy, dg, ii lv, lf, rt])) dm_X1_giveBack_7 (g_put (fs' := [.ref 4, .ref 17, .ref 26, .ref 32, ii tp, .ref 33, ii (dp - 1), ii ca, ii ou, ii wk, ii er, ii pl, nw, vx, vy, dg, ii lv, lf, rt]) h16 rfl rfl rfl (by simp) rfl (by decide) (fun z => by cases z) (by decide)) rfl rfl rfl ?_
  refine me1 (pc' := 11) (L' := [(0, .ref 16), (1, .ref p)]) (S' := [.ref 16]) dm_X1_giveBack_10 rfl rfl rfl rfl ?_
  refine me0 (pc' := 12) (S' := [.ref 16, .ref 16]) dm_X1_giveBack_11 rfl rfl rfl rfl ?_
  refine me3 (pc' := 15) (S' := [ii ca, .ref 16]) dm_X1_giveBack_12 (g_get (v := ii ca) (hl_set (hl_lt h16)) rfl rfl (by decide)) rfl rfl rfl ?_
  refine me0 (pc' := 16) (S' := [ii 1, ii ca, .ref 16]) dm_X1_giveBack_15 rfl rfl rfl rfl ?_
  refine y_isub (a := ca) (b := 1) dm_X1_giveBack_16 (pc' := 17) rfl ?_
  refine me3 (pc' := 20) (S' := []) (h1 := (h).set 16 (cO 1 [.ref 4, .ref 17, .ref 26, .ref 32, ii tp, .ref 33, ii (dp - 1), ii (ca - 1), ii ou, ii wk, ii er, ii pl, nw, vx, vy, dg, ii lv, lf, rt])) dm_X1_giveBack_17 (g_put (fs' := [.ref 4, .ref 17, .ref 26, .ref 32, ii tp, .ref 33, ii (dp - 1), ii (ca - 1), ii ou, ii wk, ii er, ii pl, nw, vx, vy, dg, ii lv, lf, rt]) (hl_set (hl_lt h16)) rfl (by rw [List.set_set]) rfl (by simp) rfl (by decide) (fun z => by cases z) (by decide)) rfl rfl rfl ?_
  refine me1 (pc' := 21) (L' := [(0, .ref 16), (1, .ref p)]) (S' := [.ref 16]) dm_X1_giveBack_20 rfl rfl rfl rfl ?_
  refine me1 (pc' := 22) (L' := [(0, .ref 16), (1, .ref p)]) (S' := [.ref p, .ref 16]) dm_X1_giveBack_21 rfl rfl rfl rfl ?_
  refine me3 (pc' := 25) (S' := [oV fo, .ref 16]) dm_X1_giveBack_22 (g_get (v := oV fo) (hl_ne (by omega) hp) rfl rfl (by omega)) rfl rfl rfl ?_
  refine me3 (pc' := 28) (S' := []) (h1 := (h).set 16 (cO 1 [.ref 4, .ref 17, .ref 26, .ref 32, ii tp, .ref 33, ii (dp - 1), ii (ca - 1), ii ou, ii wk, ii er, ii pl, oV fo, vx, vy, dg, ii lv, lf, rt])) dm_X1_giveBack_25 (g_put (fs' := [.ref 4, .ref 17, .ref 26, .ref 32, ii tp, .ref 33, ii (dp - 1), ii (ca - 1), ii ou, ii wk, ii er, ii pl, oV fo, vx, vy, dg, ii lv, lf, rt]) (hl_set (hl_lt h16)) rfl (by rw [List.set_set]) rfl (by simp) (oV_fit _ _) (by decide) (fun z => by cases z) (by decide)) rfl rfl rfl ?_
  refine me1 (pc' := 29) (L' := [(0, .ref 16), (1, .ref p)]) (S' := [.ref 16]) dm_X1_giveBack_28 rfl rfl rfl rfl ?_
  refine me1 (pc' := 30) (L' := [(0, .ref 16), (1, .ref p)]) (S' := [.ref p, .ref 16]) dm_X1_giveBack_29 rfl rfl rfl rfl ?_
  refine me3 (pc' := 33) (S' := [oV fx, .ref 16]) dm_X1_giveBack_30 (g_get (v := oV fx) (hl_ne (by omega) hp) rfl rfl (by omega)) rfl rfl rfl ?_
  refine me3 (pc' := 36) (S' := []) (h1 := (h).set 16 (cO 1 [.ref 4, .ref 17, .ref 26, .ref 32, ii tp, .ref 33, ii (dp - 1), ii (ca - 1), ii ou, ii wk, ii er, ii pl, oV fo, oV fx, vy, dg, ii lv, lf, rt])) dm_X1_giveBack_33 (g_put (fs' := [.ref 4, .ref 17, .ref 26, .ref 32, ii tp, .ref 33, ii (dp - 1), ii (ca - 1), ii ou, ii wk, ii er, ii pl, oV fo, oV fx, vy, dg, ii lv, lf, rt]) (hl_set (hl_lt h16)) rfl (by rw [List.set_set]) rfl (by simp) (oV_fit _ _) (by decide) (fun z => by cases z) (by decide)) rfl rfl rfl ?_
  refine me1 (pc' := 37) (L' := [(0, .ref 16), (1, .ref p)]) (S' := [.ref 16]) dm_X1_giveBack_36 rfl rfl rfl rfl ?_
  refine me1 (pc' := 38) (L' := [(0, .ref 16), (1, .ref p)]) (S' := [.ref p, .ref 16]) dm_X1_giveBack_37 rfl rfl rfl rfl ?_
  refine me3 (pc' := 41) (S' := [oV fy, .ref 16]) dm_X1_giveBack_38 (g_get (v := oV fy) (hl_ne (by omega) hp) rfl rfl (by omega)) rfl rfl rfl ?_
  refine me3 (pc' := 44) (S' := []) (h1 := (h).set 16 (cO 1 [.ref 4, .ref 17, .ref 26, .ref 32, ii tp, .ref 33, ii (dp - 1), ii (ca - 1), ii ou, ii wk, ii er, ii pl, oV fo, oV fx, oV fy, dg, ii lv, lf, rt])) dm_X1_giveBack_41 (g_put (fs' := [.ref 4, .ref 17, .ref 26, .ref 32, ii tp, .ref 33, ii (dp - 1), ii (ca - 1), ii ou, ii wk, ii er, ii pl, oV fo, oV fx, oV fy, dg, ii lv, lf, rt]) (hl_set (hl_lt h16)) rfl (by rw [List.set_set]) rfl (by simp) (oV_fit _ _) (by decide) (fun z => by cases z) (by decide)) rfl rfl rfl ?_
  refine y_ret (r := none) dm_X1_giveBack_44 rfl rfl rfl ?_
  exact ⟨rfl, hH⟩
