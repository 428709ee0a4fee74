/-- the head of run's loop -/
abbrev HD (xt : mj_X) (d fi st : Nat) (h : mj_H) (P : Option Value → mj_H → Prop) : Prop := pgE xt d 1 3 false (Option.some (Jvm.ClassFile.FieldType.object "ArrayCalculator$Value")) (mj_dec prog_3_method_5_code) 42 [(0, .ref 16), (1, .ref fi), (2, ii ((st : Nat) : Int))] [] h (P)
set_option maxRecDepth 20000 in
theorem pm_X1_run : mj_mmof pg_ms 70 = some ((⟨"ArrayCalculator$Machine", "run", "(LArrayCalculator$Op;)LArrayCalculator$Value;"⟩, prog_3_method_5_code, 3, (Option.some (Jvm.ClassFile.FieldType.object "ArrayCalculator$Value"))), 1, false, mj_dec prog_3_method_5_code) := rfl
theorem dm_X1_run_42 : mj_dec prog_3_method_5_code 42 = some (.iload_n 2, 1) := by decide +kernel
theorem dm_X1_run_43 : mj_dec prog_3_method_5_code 43 = some (.ldc 76, 2) := by decide +kernel
theorem dm_X1_run_45 : mj_dec prog_3_method_5_code 45 = some (.if_icmp .ge 185, 3) := by decide +kernel
theorem dm_X1_run_48 : mj_dec prog_3_method_5_code 48 = some (.aload_n 0, 1) := by decide +kernel
theorem dm_X1_run_49 : mj_dec prog_3_method_5_code 49 = some (.getfield 47, 3) := by decide +kernel
theorem dm_X1_run_52 : mj_dec prog_3_method_5_code 52 = some (.ifCond .ne 178, 3) := by decide +kernel
theorem dm_X1_run_55 : mj_dec prog_3_method_5_code 55 = some (.aload_n 0, 1) := by decide +kernel
theorem dm_X1_run_56 : mj_dec prog_3_method_5_code 56 = some (.getfield 69, 3) := by decide +kernel
theorem dm_X1_run_59 : mj_dec prog_3_method_5_code 59 = some (.ifnull 29, 3) := by decide +kernel
theorem dm_X1_run_62 : mj_dec prog_3_method_5_code 62 = some (.aload_n 0, 1) := by decide +kernel
theorem dm_X1_run_63 : mj_dec prog_3_method_5_code 63 = some (.getfield 77, 3) := by decide +kernel
theorem dm_X1_run_66 : mj_dec prog_3_method_5_code 66 = some (.ifCond .le 22, 3) := by decide +kernel
theorem dm_X1_run_69 : mj_dec prog_3_method_5_code 69 = some (.aload_n 0, 1) := by decide +kernel
theorem dm_X1_run_70 : mj_dec prog_3_method_5_code 70 = some (.aload_n 0, 1) := by decide +kernel
theorem dm_X1_run_71 : mj_dec prog_3_method_5_code 71 = some (.getfield 69, 3) := by decide +kernel
theorem dm_X1_run_74 : mj_dec prog_3_method_5_code 74 = some (.aload_n 0, 1) := by decide +kernel
theorem dm_X1_run_75 : mj_dec prog_3_method_5_code 75 = some (.getfield 80, 3) := by decide +kernel
theorem dm_X1_run_78 : mj_dec prog_3_method_5_code 78 = some (.aload_n 0, 1) := by decide +kernel
theorem dm_X1_run_79 : mj_dec prog_3_method_5_code 79 = some (.getfield 83, 3) := by decide +kernel
theorem dm_X1_run_82 : mj_dec prog_3_method_5_code 82 = some (.invokevirtual 86, 3) := by decide +kernel
theorem dm_X1_run_85 : mj_dec prog_3_method_5_code 85 = some (.goto 139, 3) := by decide +kernel
theorem dm_X1_run_224 : mj_dec prog_3_method_5_code 224 = some (.iinc 2 1, 3) := by decide +kernel
theorem dm_X1_run_227 : mj_dec prog_3_method_5_code 227 = some (.goto (-185), 3) := by decide +kernel
theorem tn_adv {xt : mj_X} {d fi st : Nat} {h : mj_H} {P : Option Value → mj_H → Prop} {tp dp ca ou wk pl lv : Int} {nw vx vy : Value} {p : Nat} {bl bw : Option Nat} (hst : st < 199999999) (h16 : h[16]? = some (cO 1 [.ref 4, .ref 17, .ref 26, .ref 32, ii tp, .ref 33, ii dp, ii ca, ii ou, ii wk, ii 0, ii pl, nw, vx, vy, .ref p, ii lv, oV bl, oV bw])) (hlv : 0 < lv ∧ lv ≤ 2147483647) {Q : mj_H → Prop} (hcall : pgN xt d 71 [.ref 16, .ref p, oV bl, oV bw] h Q) (k : ∀ h1, Q h1 → HD xt d fi (st + 1) h1 P) : HD xt d fi st h P := by
  refine me1 (pc' := 43) (L' := [(0, .ref 16), (1, .ref fi), (2, ii ((st : Nat) : Int))]) (S' := [ii ((st : Nat) : Int)]) dm_X1_run_42 rfl rfl rfl rfl ?_
  refine me3 (pc' := 45) (S' := [ii 200000000, ii ((st : Nat) : Int)]) dm_X1_run_43 rfl rfl rfl rfl ?_
  refine y_2ge (a := ((st : Nat) : Int)) (b := 200000000) (t := 230) (pc' := 48) dm_X1_run_45 rfl rfl (by omega) (fun hb1 => ?_) (fun hb1 => ?_)
  · exfalso; omega
  · refine me1 (pc' := 49) (L' := [(0, .ref 16), (1, .ref fi), (2, ii ((st : Nat) : Int))]) (S' := [.ref 16]) dm_X1_run_48 rfl rfl rfl rfl ?_
    refine me3 (pc' := 52) (S' := [ii 0]) dm_X1_run_49 (g_get (v := ii 0) h16 rfl rfl (by decide)) rfl rfl rfl ?_
    refine me_1f (pc' := 55) dm_X1_run_52 rfl (by decide) rfl ?_
    refine me1 (pc' := 56) (L' := [(0, .ref 16), (1, .ref fi), (2, ii ((st : Nat) : Int))]) (S' := [.ref 16]) dm_X1_run_55 rfl rfl rfl rfl ?_
    refine me3 (pc' := 59) (S' := [.ref p]) dm_X1_run_56 (g_get (v := .ref p) h16 rfl rfl (by decide)) rfl rfl rfl ?_
    refine me2 (pc' := 62) (S' := []) dm_X1_run_59 rfl rfl rfl ?_
    refine me1 (pc' := 63) (L' := [(0, .ref 16), (1, .ref fi), (2, ii ((st : Nat) : Int))]) (S' := [.ref 16]) dm_X1_run_62 rfl rfl rfl rfl ?_
    refine me3 (pc' := 66) (S' := [ii lv]) dm_X1_run_63 (g_get (v := ii lv) h16 rfl rfl (by decide)) rfl rfl rfl ?_
    refine y_1le (a := lv) (t := 88) (pc' := 69) dm_X1_run_66 rfl rfl (by omega) (fun hb2 => ?_) (fun hb2 => ?_)
    · exfalso; omega
    · refine me1 (pc' := 70) (L' := [(0, .ref 16), (1, .ref fi), (2, ii ((st : Nat) : Int))]) (S' := [.ref 16]) dm_X1_run_69 rfl rfl rfl rfl ?_
      refine me1 (pc' := 71) (L' := [(0, .ref 16), (1, .ref fi), (2, ii ((st : Nat) : Int))]) (S' := [.ref 16, .ref 16]) dm_X1_run_70 rfl rfl rfl rfl ?_
      refine me3 (pc' := 74) (S' := [.ref p, .ref 16]) dm_X1_run_71 (g_get (v := .ref p) h16 rfl rfl (by decide)) rfl rfl rfl ?_
      refine me1 (pc' := 75) (L' := [(0, .ref 16), (1, .ref fi), (2, ii ((st : Nat) : Int))]) (S' := [.ref 16, .ref p, .ref 16]) dm_X1_run_74 rfl rfl rfl rfl ?_
      refine me3 (pc' := 78) (S' := [oV bl, .ref p, .ref 16]) dm_X1_run_75 (g_get (v := oV bl) h16 rfl rfl (by decide)) rfl rfl rfl ?_
      refine me1 (pc' := 79) (L' := [(0, .ref 16), (1, .ref fi), (2, ii ((st : Nat) : Int))]) (S' := [.ref 16, oV bl, .ref p, .ref 16]) dm_X1_run_78 rfl rfl rfl rfl ?_
      refine me3 (pc' := 82) (S' := [oV bw, oV bl, .ref p, .ref 16]) dm_X1_run_79 (g_get (v := oV bw) h16 rfl rfl (by decide)) rfl rfl rfl ?_
      refine x_cn (pc' := 85) (rest := []) dm_X1_run_82 rfl (g_inv (As := [.ref p, oV bl, oV bw]) (S := []) h16 rfl rfl rfl (by decide)) rfl rfl rfl (hcall) ?_
      rintro h1 hQ
      refine me2 (pc' := 224) (S' := []) dm_X1_run_85 rfl rfl rfl ?_
      refine y_iinc (pc' := 227) (L' := [(2, ii (((st : Nat) : Int) + 1)), (0, .ref 16), (1, .ref fi)]) dm_X1_run_224 (y_incp (a := ((st : Nat) : Int)) (c := 1) rfl rfl (by decide)) rfl ?_
      refine me2 (pc' := 42) (S' := []) dm_X1_run_227 rfl rfl rfl ?_
      exact pg_sub (L := [(0, .ref 16), (1, .ref fi), (2, ii ((st + 1 : Nat) : Int))]) rfl rfl rfl (k h1 hQ)
theorem dm_X1_run_88 : mj_dec prog_3_method_5_code 88 = some (.aload_n 0, 1) := by decide +kernel
theorem dm_X1_run_89 : mj_dec prog_3_method_5_code 89 = some (.getfield 69, 3) := by decide +kernel
theorem dm_X1_run_92 : mj_dec prog_3_method_5_code 92 = some (.ifnull 24, 3) := by decide +kernel
theorem dm_X1_run_95 : mj_dec prog_3_method_5_code 95 = some (.aload_n 0, 1) := by decide +kernel
theorem dm_X1_run_96 : mj_dec prog_3_method_5_code 96 = some (.getfield 69, 3) := by decide +kernel
theorem dm_X1_run_99 : mj_dec prog_3_method_5_code 99 = some (.getfield 90, 3) := by decide +kernel
theorem dm_X1_run_102 : mj_dec prog_3_method_5_code 102 = some (.ifCond .ne 14, 3) := by decide +kernel
theorem dm_X1_run_105 : mj_dec prog_3_method_5_code 105 = some (.aload_n 0, 1) := by decide +kernel
theorem dm_X1_run_106 : mj_dec prog_3_method_5_code 106 = some (.aload_n 0, 1) := by decide +kernel
theorem dm_X1_run_107 : mj_dec prog_3_method_5_code 107 = some (.getfield 69, 3) := by decide +kernel
theorem dm_X1_run_110 : mj_dec prog_3_method_5_code 110 = some (.invokevirtual 95, 3) := by decide +kernel
theorem dm_X1_run_113 : mj_dec prog_3_method_5_code 113 = some (.goto 111, 3) := by decide +kernel
theorem tn_call {xt : mj_X} {d fi st : Nat} {h : mj_H} {P : Option Value → mj_H → Prop} {tp dp ca ou wk pl lv : Int} {nw vx vy lf rt : Value} {p : Nat} {od pp ov oa om ot : Int} {onm : Int64} {ovl onx oot : Value} (hst : st < 199999999) (h16 : h[16]? = some (cO 1 [.ref 4, .ref 17, .ref 26, .ref 32, ii tp, .ref 33, ii dp, ii ca, ii ou, ii wk, ii 0, ii pl, nw, vx, vy, .ref p, ii lv, lf, rt])) (hlv : lv = 0) (hp : h[p]? = some (cO 4 [ii od, ii pp, ii ov, .long onm, ii oa, ii om, ii ot, ovl, onx, oot])) (hp2 : 127 ≤ p) (hov : ov = 0) {Q : mj_H → Prop} (hcall : pgN xt d 80 [.ref 16, .ref p] h Q) (k : ∀ h1, Q h1 → HD xt d fi (st + 1) h1 P) : HD xt d fi st h P := by
  refine me1 (pc' := 43) (L' := [(0, .ref 16), (1, .ref fi), (2, ii ((st : Nat) : Int))]) (S' := [ii ((st : Nat) : Int)]) dm_X1_run_42 rfl rfl rfl rfl ?_
  refine me3 (pc' := 45) (S' := [ii 200000000, ii ((st : Nat) : Int)]) dm_X1_run_43 rfl rfl rfl rfl ?_
  refine y_2ge (a := ((st : Nat) : Int)) (b := 200000000) (t := 230) (pc' := 48) dm_X1_run_45 rfl rfl (by omega) (fun hb1 => ?_) (fun hb1 => ?_)
  · exfalso; omega
  · refine me1 (pc' := 49) (L' := [(0, .ref 16), (1, .ref fi), (2, ii ((st : Nat) : Int))]) (S' := [.ref 16]) dm_X1_run_48 rfl rfl rfl rfl ?_
    refine me3 (pc' := 52) (S' := [ii 0]) dm_X1_run_49 (g_get (v := ii 0) h16 rfl rfl (by decide)) rfl rfl rfl ?_
    refine me_1f (pc' := 55) dm_X1_run_52 rfl (by decide) rfl ?_
    refine me1 (pc' := 56) (L' := [(0, .ref 16), (1, .ref fi), (2, ii ((st : Nat) : Int))]) (S' := [.ref 16]) dm_X1_run_55 rfl rfl rfl rfl ?_
    refine me3 (pc' := 59) (S' := [.ref p]) dm_X1_run_56 (g_get (v := .ref p) h16 rfl rfl (by decide)) rfl rfl rfl ?_
    refine me2 (pc' := 62) (S' := []) dm_X1_run_59 rfl rfl rfl ?_
    refine me1 (pc' := 63) (L' := [(0, .ref 16), (1, .ref fi), (2, ii ((st : Nat) : Int))]) (S' := [.ref 16]) dm_X1_run_62 rfl rfl rfl rfl ?_
    refine me3 (pc' := 66) (S' := [ii lv]) dm_X1_run_63 (g_get (v := ii lv) h16 rfl rfl (by decide)) rfl rfl rfl ?_
    refine y_1le (a := lv) (t := 88) (pc' := 69) dm_X1_run_66 rfl rfl (by omega) (fun hb2 => ?_) (fun hb2 => ?_)
    · refine me1 (pc' := 89) (L' := [(0, .ref 16), (1, .ref fi), (2, ii ((st : Nat) : Int))]) (S' := [.ref 16]) dm_X1_run_88 rfl rfl rfl rfl ?_
      refine me3 (pc' := 92) (S' := [.ref p]) dm_X1_run_89 (g_get (v := .ref p) h16 rfl rfl (by decide)) rfl rfl rfl ?_
      refine me2 (pc' := 95) (S' := []) dm_X1_run_92 rfl rfl rfl ?_
      refine me1 (pc' := 96) (L' := [(0, .ref 16), (1, .ref fi), (2, ii ((st : Nat) : Int))]) (S' := [.ref 16]) dm_X1_run_95 rfl rfl rfl rfl ?_
      refine me3 (pc' := 99) (S' := [.ref p]) dm_X1_run_96 (g_get (v := .ref p) h16 rfl rfl (by decide)) rfl rfl rfl ?_
      refine me3 (pc' := 102) (S' := [ii ov]) dm_X1_run_99 (g_get (v := ii ov) hp rfl rfl (by omega)) rfl rfl rfl ?_
      refine y_1ne (a := ov) (t := 116) (pc' := 105) dm_X1_run_102 rfl rfl (by omega) (fun hb3 => ?_) (fun hb3 => ?_)
      · exfalso; omega
      · refine me1 (pc' := 106) (L' := [(0, .ref 16), (1, .ref fi), (2, ii ((st : Nat) : Int))]) (S' := [.ref 16]) dm_X1_run_105 rfl rfl rfl rfl ?_
        refine me1 (pc' := 107) (L' := [(0, .ref 16), (1, .ref fi), (2, ii ((st : Nat) : Int))]) (S' := [.ref 16, .ref 16]) dm_X1_run_106 rfl rfl rfl rfl ?_
        refine me3 (pc' := 110) (S' := [.ref p, .ref 16]) dm_X1_run_107 (g_get (v := .ref p) h16 rfl rfl (by decide)) rfl rfl rfl ?_
        refine x_cn (pc' := 113) (rest := []) dm_X1_run_110 rfl (g_inv (As := [.ref p]) (S := []) h16 rfl rfl rfl (by decide)) rfl rfl rfl (hcall) ?_
        rintro h1 hQ
        refine me2 (pc' := 224) (S' := []) dm_X1_run_113 rfl rfl rfl ?_
        refine y_iinc (pc' := 227) (L' := [(2, ii (((st : Nat) : Int) + 1)), (0, .ref 16), (1, .ref fi)]) dm_X1_run_224 (y_incp (a := ((st : Nat) : Int)) (c := 1) rfl rfl (by decide)) rfl ?_
        refine me2 (pc' := 42) (S' := []) dm_X1_run_227 rfl rfl rfl ?_
        exact pg_sub (L := [(0, .ref 16), (1, .ref fi), (2, ii ((st + 1 : Nat) : Int))]) rfl rfl rfl (k h1 hQ)
    · exfalso; omega
theorem dm_X1_run_116 : mj_dec prog_3_method_5_code 116 = some (.aload_n 0, 1) := by decide +kernel
theorem dm_X1_run_117 : mj_dec prog_3_method_5_code 117 = some (.getfield 69, 3) := by decide +kernel
theorem dm_X1_run_120 : mj_dec prog_3_method_5_code 120 = some (.ifnull 14, 3) := by decide +kernel
theorem dm_X1_run_123 : mj_dec prog_3_method_5_code 123 = some (.aload_n 0, 1) := by decide +kernel
theorem dm_X1_run_124 : mj_dec prog_3_method_5_code 124 = some (.aload_n 0, 1) := by decide +kernel
theorem dm_X1_run_125 : mj_dec prog_3_method_5_code 125 = some (.getfield 69, 3) := by decide +kernel
theorem dm_X1_run_128 : mj_dec prog_3_method_5_code 128 = some (.invokevirtual 99, 3) := by decide +kernel
theorem dm_X1_run_131 : mj_dec prog_3_method_5_code 131 = some (.goto 93, 3) := by decide +kernel
theorem tn_act {xt : mj_X} {d fi st : Nat} {h : mj_H} {P : Option Value → mj_H → Prop} {tp dp ca ou wk pl lv : Int} {nw vx vy lf rt : Value} {p : Nat} {od pp ov oa om ot : Int} {onm : Int64} {ovl onx oot : Value} (hst : st < 199999999) (h16 : h[16]? = some (cO 1 [.ref 4, .ref 17, .ref 26, .ref 32, ii tp, .ref 33, ii dp, ii ca, ii ou, ii wk, ii 0, ii pl, nw, vx, vy, .ref p, ii lv, lf, rt])) (hlv : lv = 0) (hp : h[p]? = some (cO 4 [ii od, ii pp, ii ov, .long onm, ii oa, ii om, ii ot, ovl, onx, oot])) (hp2 : 127 ≤ p) (hov : ov ≠ 0 ∧ -2147483648 ≤ ov ∧ ov ≤ 2147483647) {Q : mj_H → Prop} (hcall : pgN xt d 81 [.ref 16, .ref p] h Q) (k : ∀ h1, Q h1 → HD xt d fi (st + 1) h1 P) : HD xt d fi st h P := by
  refine me1 (pc' := 43) (L' := [(0, .ref 16), (1, .ref fi), (2, ii ((st : Nat) : Int))]) (S' := [ii ((st : Nat) : Int)]) dm_X1_run_42 rfl rfl rfl rfl ?_
  refine me3 (pc' := 45) (S' := [ii 200000000, ii ((st : Nat) : Int)]) dm_X1_run_43 rfl rfl rfl rfl ?_
  refine y_2ge (a := ((st : Nat) : Int)) (b := 200000000) (t := 230) (pc' := 48) dm_X1_run_45 rfl rfl (by omega) (fun hb1 => ?_) (fun hb1 => ?_)
  · exfalso; omega
  · refine me1 (pc' := 49) (L' := [(0, .ref 16), (1, .ref fi), (2, ii ((st : Nat) : Int))]) (S' := [.ref 16]) dm_X1_run_48 rfl rfl rfl rfl ?_
    refine me3 (pc' := 52) (S' := [ii 0]) dm_X1_run_49 (g_get (v := ii 0) h16 rfl rfl (by decide)) rfl rfl rfl ?_
    refine me_1f (pc' := 55) dm_X1_run_52 rfl (by decide) rfl ?_
    refine me1 (pc' := 56) (L' := [(0, .ref 16), (1, .ref fi), (2, ii ((st : Nat) : Int))]) (S' := [.ref 16]) dm_X1_run_55 rfl rfl rfl rfl ?_
    refine me3 (pc' := 59) (S' := [.ref p]) dm_X1_run_56 (g_get (v := .ref p) h16 rfl rfl (by decide)) rfl rfl rfl ?_
    refine me2 (pc' := 62) (S' := []) dm_X1_run_59 rfl rfl rfl ?_
    refine me1 (pc' := 63) (L' := [(0, .ref 16), (1, .ref fi), (2, ii ((st : Nat) : Int))]) (S' := [.ref 16]) dm_X1_run_62 rfl rfl rfl rfl ?_
    refine me3 (pc' := 66) (S' := [ii lv]) dm_X1_run_63 (g_get (v := ii lv) h16 rfl rfl (by decide)) rfl rfl rfl ?_
    refine y_1le (a := lv) (t := 88) (pc' := 69) dm_X1_run_66 rfl rfl (by omega) (fun hb2 => ?_) (fun hb2 => ?_)
    · refine me1 (pc' := 89) (L' := [(0, .ref 16), (1, .ref fi), (2, ii ((st : Nat) : Int))]) (S' := [.ref 16]) dm_X1_run_88 rfl rfl rfl rfl ?_
      refine me3 (pc' := 92) (S' := [.ref p]) dm_X1_run_89 (g_get (v := .ref p) h16 rfl rfl (by decide)) rfl rfl rfl ?_
      refine me2 (pc' := 95) (S' := []) dm_X1_run_92 rfl rfl rfl ?_
      refine me1 (pc' := 96) (L' := [(0, .ref 16), (1, .ref fi), (2, ii ((st : Nat) : Int))]) (S' := [.ref 16]) dm_X1_run_95 rfl rfl rfl rfl ?_
      refine me3 (pc' := 99) (S' := [.ref p]) dm_X1_run_96 (g_get (v := .ref p) h16 rfl rfl (by decide)) rfl rfl rfl ?_
      refine me3 (pc' := 102) (S' := [ii ov]) dm_X1_run_99 (g_get (v := ii ov) hp rfl rfl (by omega)) rfl rfl rfl ?_
      refine y_1ne (a := ov) (t := 116) (pc' := 105) dm_X1_run_102 rfl rfl (by omega) (fun hb3 => ?_) (fun hb3 => ?_)
      · refine me1 (pc' := 117) (L' := [(0, .ref 16), (1, .ref fi), (2, ii ((st : Nat) : Int))]) (S' := [.ref 16]) dm_X1_run_116 rfl rfl rfl rfl ?_
        refine me3 (pc' := 120) (S' := [.ref p]) dm_X1_run_117 (g_get (v := .ref p) h16 rfl rfl (by decide)) rfl rfl rfl ?_
        refine me2 (pc' := 123) (S' := []) dm_X1_run_120 rfl rfl rfl ?_
        refine me1 (pc' := 124) (L' := [(0, .ref 16), (1, .ref fi), (2, ii ((st : Nat) : Int))]) (S' := [.ref 16]) dm_X1_run_123 rfl rfl rfl rfl ?_
        refine me1 (pc' := 125) (L' := [(0, .ref 16), (1, .ref fi), (2, ii ((st : Nat) : Int))]) (S' := [.ref 16, .ref 16]) dm_X1_run_124 rfl rfl rfl rfl ?_
        refine me3 (pc' := 128) (S' := [.ref p, .ref 16]) dm_X1_run_125 (g_get (v := .ref p) h16 rfl rfl (by decide)) rfl rfl rfl ?_
        refine x_cn (pc' := 131) (rest := []) dm_X1_run_128 rfl (g_inv (As := [.ref p]) (S := []) h16 rfl rfl rfl (by decide)) rfl rfl rfl (hcall) ?_
        rintro h1 hQ
        refine me2 (pc' := 224) (S' := []) dm_X1_run_131 rfl rfl rfl ?_
        refine y_iinc (pc' := 227) (L' := [(2, ii (((st : Nat) : Int) + 1)), (0, .ref 16), (1, .ref fi)]) dm_X1_run_224 (y_incp (a := ((st : Nat) : Int)) (c := 1) rfl rfl (by decide)) rfl ?_
        refine me2 (pc' := 42) (S' := []) dm_X1_run_227 rfl rfl rfl ?_
        exact pg_sub (L := [(0, .ref 16), (1, .ref fi), (2, ii ((st + 1 : Nat) : Int))]) rfl rfl rfl (k h1 hQ)
      · exfalso; omega
    · exfalso; omega
theorem dm_X1_run_134 : mj_dec prog_3_method_5_code 134 = some (.aload_n 0, 1) := by decide +kernel
theorem dm_X1_run_135 : mj_dec prog_3_method_5_code 135 = some (.getfield 56, 3) := by decide +kernel
theorem dm_X1_run_138 : mj_dec prog_3_method_5_code 138 = some (.ifCond .le 38, 3) := by decide +kernel
theorem dm_X1_run_141 : mj_dec prog_3_method_5_code 141 = some (.aload_n 0, 1) := by decide +kernel
theorem dm_X1_run_142 : mj_dec prog_3_method_5_code 142 = some (.getfield 33, 3) := by decide +kernel
theorem dm_X1_run_145 : mj_dec prog_3_method_5_code 145 = some (.aload_n 0, 1) := by decide +kernel
theorem dm_X1_run_146 : mj_dec prog_3_method_5_code 146 = some (.getfield 56, 3) := by decide +kernel
theorem dm_X1_run_149 : mj_dec prog_3_method_5_code 149 = some (.iconst 1, 1) := by decide +kernel
theorem dm_X1_run_150 : mj_dec prog_3_method_5_code 150 = some (.isub, 1) := by decide +kernel
theorem dm_X1_run_151 : mj_dec prog_3_method_5_code 151 = some (.aaload, 1) := by decide +kernel
theorem dm_X1_run_152 : mj_dec prog_3_method_5_code 152 = some (.getfield 102, 3) := by decide +kernel
theorem dm_X1_run_155 : mj_dec prog_3_method_5_code 155 = some (.ifCond .le 21, 3) := by decide +kernel
theorem dm_X1_run_158 : mj_dec prog_3_method_5_code 158 = some (.aload_n 0, 1) := by decide +kernel
theorem dm_X1_run_159 : mj_dec prog_3_method_5_code 159 = some (.aload_n 0, 1) := by decide +kernel
theorem dm_X1_run_160 : mj_dec prog_3_method_5_code 160 = some (.getfield 33, 3) := by decide +kernel
theorem dm_X1_run_163 : mj_dec prog_3_method_5_code 163 = some (.aload_n 0, 1) := by decide +kernel
theorem dm_X1_run_164 : mj_dec prog_3_method_5_code 164 = some (.getfield 56, 3) := by decide +kernel
theorem dm_X1_run_167 : mj_dec prog_3_method_5_code 167 = some (.iconst 1, 1) := by decide +kernel
theorem dm_X1_run_168 : mj_dec prog_3_method_5_code 168 = some (.isub, 1) := by decide +kernel
theorem dm_X1_run_169 : mj_dec prog_3_method_5_code 169 = some (.aaload, 1) := by decide +kernel
theorem dm_X1_run_170 : mj_dec prog_3_method_5_code 170 = some (.invokevirtual 103, 3) := by decide +kernel
theorem dm_X1_run_173 : mj_dec prog_3_method_5_code 173 = some (.goto 51, 3) := by decide +kernel
theorem tn_advn {xt : mj_X} {d fi st : Nat} {h : mj_H} {P : Option Value → mj_H → Prop} {tp ca ou wk pl lv : Int} {dq : Nat} {nw vx vy lf rt : Value} (hst : st < 199999999) (h16 : h[16]? = some (cO 1 [.ref 4, .ref 17, .ref 26, .ref 32, ii tp, .ref 33, ii ((dq + 1 : Nat) : Int), ii ca, ii ou, ii wk, ii 0, ii pl, nw, vx, vy, .null, ii lv, lf, rt])) (hdq : dq < 64) {ff : Nat → Option Nat} (h33 : h[33]? = some (cA 7 64 ff)) {fr : Nat} (hff : ff dq = some fr) (hfr2 : 34 ≤ fr ∧ fr ≤ 97) {fl fn fm fb : Int} {fo fx fy : Value} (hfr : h[fr]? = some (cO 0 [ii fl, fo, fx, fy, ii fn, ii fm, ii fb])) (hfl : 0 < fl ∧ fl ≤ 2147483647) {Q : mj_H → Prop} (hcall : pgN xt d 160 [.ref 16, .ref fr] h Q) (k : ∀ h1, Q h1 → HD xt d fi (st + 1) h1 P) : HD xt d fi st h P := by
  refine me1 (pc' := 43) (L' := [(0, .ref 16), (1, .ref fi), (2, ii ((st : Nat) : Int))]) (S' := [ii ((st : Nat) : Int)]) dm_X1_run_42 rfl rfl rfl rfl ?_
  refine me3 (pc' := 45) (S' := [ii 200000000, ii ((st : Nat) : Int)]) dm_X1_run_43 rfl rfl rfl rfl ?_
  refine y_2ge (a := ((st : Nat) : Int)) (b := 200000000) (t := 230) (pc' := 48) dm_X1_run_45 rfl rfl (by omega) (fun hb1 => ?_) (fun hb1 => ?_)
  · exfalso; omega
  · refine me1 (pc' := 49) (L' := [(0, .ref 16), (1, .ref fi), (2, ii ((st : Nat) : Int))]) (S' := [.ref 16]) dm_X1_run_48 rfl rfl rfl rfl ?_
    refine me3 (pc' := 52) (S' := [ii 0]) dm_X1_run_49 (g_get (v := ii 0) h16 rfl rfl (by decide)) rfl rfl rfl ?_
    refine me_1f (pc' := 55) dm_X1_run_52 rfl (by decide) rfl ?_
    refine me1 (pc' := 56) (L' := [(0, .ref 16), (1, .ref fi), (2, ii ((st : Nat) : Int))]) (S' := [.ref 16]) dm_X1_run_55 rfl rfl rfl rfl ?_
    refine me3 (pc' := 59) (S' := [.null]) dm_X1_run_56 (g_get (v := .null) h16 rfl rfl (by decide)) rfl rfl rfl ?_
    refine me2 (pc' := 88) (S' := []) dm_X1_run_59 rfl rfl rfl ?_
    refine me1 (pc' := 89) (L' := [(0, .ref 16), (1, .ref fi), (2, ii ((st : Nat) : Int))]) (S' := [.ref 16]) dm_X1_run_88 rfl rfl rfl rfl ?_
    refine me3 (pc' := 92) (S' := [.null]) dm_X1_run_89 (g_get (v := .null) h16 rfl rfl (by decide)) rfl rfl rfl ?_
    refine me2 (pc' := 116) (S' := []) dm_X1_run_92 rfl rfl rfl ?_
    refine me1 (pc' := 117) (L' := [(0, .ref 16), (1, .ref fi), (2, ii ((st : Nat) : Int))]) (S' := [.ref 16]) dm_X1_run_116 rfl rfl rfl rfl ?_
    refine me3 (pc' := 120) (S' := [.null]) dm_X1_run_117 (g_get (v := .null) h16 rfl rfl (by decide)) rfl rfl rfl ?_
    refine me2 (pc' := 134) (S' := []) dm_X1_run_120 rfl rfl rfl ?_
    refine me1 (pc' := 135) (L' := [(0, .ref 16), (1, .ref fi), (2, ii ((st : Nat) : Int))]) (S' := [.ref 16]) dm_X1_run_134 rfl rfl rfl rfl ?_
    refine me3 (pc' := 138) (S' := [ii ((dq + 1 : Nat) : Int)]) dm_X1_run_135 (g_get (v := ii ((dq + 1 : Nat) : Int)) h16 rfl rfl (by decide)) rfl rfl rfl ?_
    refine y_1le (a := ((dq + 1 : Nat) : Int)) (t := 176) (pc' := 141) dm_X1_run_138 rfl rfl (by omega) (fun hb2 => ?_) (fun hb2 => ?_)
    · exfalso; omega
    · refine me1 (pc' := 142) (L' := [(0, .ref 16), (1, .ref fi), (2, ii ((st : Nat) : Int))]) (S' := [.ref 16]) dm_X1_run_141 rfl rfl rfl rfl ?_
      refine me3 (pc' := 145) (S' := [.ref 33]) dm_X1_run_142 (g_get (v := .ref 33) h16 rfl rfl (by decide)) rfl rfl rfl ?_
      refine me1 (pc' := 146) (L' := [(0, .ref 16), (1, .ref fi), (2, ii ((st : Nat) : Int))]) (S' := [.ref 16, .ref 33]) dm_X1_run_145 rfl rfl rfl rfl ?_
      refine me3 (pc' := 149) (S' := [ii ((dq + 1 : Nat) : Int), .ref 33]) dm_X1_run_146 (g_get (v := ii ((dq + 1 : Nat) : Int)) h16 rfl rfl (by decide)) rfl rfl rfl ?_
      refine me0 (pc' := 150) (S' := [ii 1, ii ((dq + 1 : Nat) : Int), .ref 33]) dm_X1_run_149 rfl rfl rfl rfl ?_
      refine y_isub (a := ((dq + 1 : Nat) : Int)) (b := 1) dm_X1_run_150 (pc' := 151) rfl ?_
      refine pg_st (S' := [ii ((dq : Nat) : Int), .ref 33]) (congrArg (fun z => ii z :: [.ref 33]) (by omega)) ?_
      refine me3 (pc' := 152) (S' := [.ref fr]) dm_X1_run_151 (yh_aald (w := some fr) rfl h33 (by omega) (by omega) (by omega) (by decide) hff) rfl rfl rfl ?_
      refine me3 (pc' := 155) (S' := [ii fl]) dm_X1_run_152 (g_get (v := ii fl) hfr rfl rfl (by omega)) rfl rfl rfl ?_
      refine y_1le (a := fl) (t := 176) (pc' := 158) dm_X1_run_155 rfl rfl (by omega) (fun hb3 => ?_) (fun hb3 => ?_)
      · exfalso; omega
      · refine me1 (pc' := 159) (L' := [(0, .ref 16), (1, .ref fi), (2, ii ((st : Nat) : Int))]) (S' := [.ref 16]) dm_X1_run_158 rfl rfl rfl rfl ?_
        refine me1 (pc' := 160) (L' := [(0, .ref 16), (1, .ref fi), (2, ii ((st : Nat) : Int))]) (S' := [.ref 16, .ref 16]) dm_X1_run_159 rfl rfl rfl rfl ?_
        refine me3 (pc' := 163) (S' := [.ref 33, .ref 16]) dm_X1_run_160 (g_get (v := .ref 33) h16 rfl rfl (by decide)) rfl rfl rfl ?_
        refine me1 (pc' := 164) (L' := [(0, .ref 16), (1, .ref fi), (2, ii ((st : Nat) : Int))]) (S' := [.ref 16, .ref 33, .ref 16]) dm_X1_run_163 rfl rfl rfl rfl ?_
        refine me3 (pc' := 167) (S' := [ii ((dq + 1 : Nat) : Int), .ref 33, .ref 16]) dm_X1_run_164 (g_get (v := ii ((dq + 1 : Nat) : Int)) h16 rfl rfl (by decide)) rfl rfl rfl ?_
        refine me0 (pc' := 168) (S' := [ii 1, ii ((dq + 1 : Nat) : Int), .ref 33, .ref 16]) dm_X1_run_167 rfl rfl rfl rfl ?_
        refine y_isub (a := ((dq + 1 : Nat) : Int)) (b := 1) dm_X1_run_168 (pc' := 169) rfl ?_
        refine pg_st (S' := [ii ((dq : Nat) : Int), .ref 33, .ref 16]) (congrArg (fun z => ii z :: [.ref 33, .ref 16]) (by omega)) ?_
        refine me3 (pc' := 170) (S' := [.ref fr, .ref 16]) dm_X1_run_169 (yh_aald (w := some fr) rfl h33 (by omega) (by omega) (by omega) (by decide) hff) rfl rfl rfl ?_
        refine x_cn (pc' := 173) (rest := []) dm_X1_run_170 rfl (g_inv (As := [.ref fr]) (S := []) h16 rfl rfl rfl (by decide)) rfl rfl rfl (hcall) ?_
        rintro h1 hQ
        refine me2 (pc' := 224) (S' := []) dm_X1_run_173 rfl rfl rfl ?_
        refine y_iinc (pc' := 227) (L' := [(2, ii (((st : Nat) : Int) + 1)), (0, .ref 16), (1, .ref fi)]) dm_X1_run_224 (y_incp (a := ((st : Nat) : Int)) (c := 1) rfl rfl (by decide)) rfl ?_
        refine me2 (pc' := 42) (S' := []) dm_X1_run_227 rfl rfl rfl ?_
        exact pg_sub (L := [(0, .ref 16), (1, .ref fi), (2, ii ((st + 1 : Nat) : Int))]) rfl rfl rfl (k h1 hQ)
theorem dm_X1_run_176 : mj_dec prog_3_method_5_code 176 = some (.aload_n 0, 1) := by decide +kernel
theorem dm_X1_run_177 : mj_dec prog_3_method_5_code 177 = some (.getfield 73, 3) := by decide +kernel
theorem dm_X1_run_180 : mj_dec prog_3_method_5_code 180 = some (.ifnull 14, 3) := by decide +kernel
theorem dm_X1_run_183 : mj_dec prog_3_method_5_code 183 = some (.aload_n 0, 1) := by decide +kernel
theorem dm_X1_run_184 : mj_dec prog_3_method_5_code 184 = some (.aload_n 0, 1) := by decide +kernel
theorem dm_X1_run_185 : mj_dec prog_3_method_5_code 185 = some (.getfield 73, 3) := by decide +kernel
theorem dm_X1_run_188 : mj_dec prog_3_method_5_code 188 = some (.invokevirtual 107, 3) := by decide +kernel
theorem dm_X1_run_191 : mj_dec prog_3_method_5_code 191 = some (.goto 33, 3) := by decide +kernel
theorem tn_step1 {xt : mj_X} {d fi st : Nat} {h : mj_H} {P : Option Value → mj_H → Prop} {tp ca ou wk pl lv : Int} {dq : Nat} {vx vy lf rt : Value} {p : Nat} (hst : st < 199999999) (h16 : h[16]? = some (cO 1 [.ref 4, .ref 17, .ref 26, .ref 32, ii tp, .ref 33, ii ((dq + 1 : Nat) : Int), ii ca, ii ou, ii wk, ii 0, ii pl, .ref p, vx, vy, .null, ii lv, lf, rt])) (hdq : dq < 64) {ff : Nat → Option Nat} (h33 : h[33]? = some (cA 7 64 ff)) {fr : Nat} (hff : ff dq = some fr) (hfr2 : 34 ≤ fr ∧ fr ≤ 97) {fl fn fm fb : Int} {fo fx fy : Value} (hfr : h[fr]? = some (cO 0 [ii fl, fo, fx, fy, ii fn, ii fm, ii fb])) (hfl : fl = 0) {Q : mj_H → Prop} (hcall : pgN xt d 166 [.ref 16, .ref p] h Q) (k : ∀ h1, Q h1 → HD xt d fi (st + 1) h1 P) : HD xt d fi st h P := by
  refine me1 (pc' := 43) (L' := [(0, .ref 16), (1, .ref fi), (2, ii ((st : Nat) : Int))]) (S' := [ii ((st : Nat) : Int)]) dm_X1_run_42 rfl rfl rfl rfl ?_
  refine me3 (pc' := 45) (S' := [ii 200000000, ii ((st : Nat) : Int)]) dm_X1_run_43 rfl rfl rfl rfl ?_
  refine y_2ge (a := ((st : Nat) : Int)) (b := 200000000) (t := 230) (pc' := 48) dm_X1_run_45 rfl rfl (by omega) (fun hb1 => ?_) (fun hb1 => ?_)
  · exfalso; omega
  · refine me1 (pc' := 49) (L' := [(0, .ref 16), (1, .ref fi), (2, ii ((st : Nat) : Int))]) (S' := [.ref 16]) dm_X1_run_48 rfl rfl rfl rfl ?_
    refine me3 (pc' := 52) (S' := [ii 0]) dm_X1_run_49 (g_get (v := ii 0) h16 rfl rfl (by decide)) rfl rfl rfl ?_
    refine me_1f (pc' := 55) dm_X1_run_52 rfl (by decide) rfl ?_
    refine me1 (pc' := 56) (L' := [(0, .ref 16), (1, .ref fi), (2, ii ((st : Nat) : Int))]) (S' := [.ref 16]) dm_X1_run_55 rfl rfl rfl rfl ?_
    refine me3 (pc' := 59) (S' := [.null]) dm_X1_run_56 (g_get (v := .null) h16 rfl rfl (by decide)) rfl rfl rfl ?_
    refine me2 (pc' := 88) (S' := []) dm_X1_run_59 rfl rfl rfl ?_
    refine me1 (pc' := 89) (L' := [(0, .ref 16), (1, .ref fi), (2, ii ((st : Nat) : Int))]) (S' := [.ref 16]) dm_X1_run_88 rfl rfl rfl rfl ?_
    refine me3 (pc' := 92) (S' := [.null]) dm_X1_run_89 (g_get (v := .null) h16 rfl rfl (by decide)) rfl rfl rfl ?_
    refine me2 (pc' := 116) (S' := []) dm_X1_run_92 rfl rfl rfl ?_
    refine me1 (pc' := 117) (L' := [(0, .ref 16), (1, .ref fi), (2, ii ((st : Nat) : Int))]) (S' := [.ref 16]) dm_X1_run_116 rfl rfl rfl rfl ?_
    refine me3 (pc' := 120) (S' := [.null]) dm_X1_run_117 (g_get (v := .null) h16 rfl rfl (by decide)) rfl rfl rfl ?_
    refine me2 (pc' := 134) (S' := []) dm_X1_run_120 rfl rfl rfl ?_
    refine me1 (pc' := 135) (L' := [(0, .ref 16), (1, .ref fi), (2, ii ((st : Nat) : Int))]) (S' := [.ref 16]) dm_X1_run_134 rfl rfl rfl rfl ?_
    refine me3 (pc' := 138) (S' := [ii ((dq + 1 : Nat) : Int)]) dm_X1_run_135 (g_get (v := ii ((dq + 1 : Nat) : Int)) h16 rfl rfl (by decide)) rfl rfl rfl ?_
    refine y_1le (a := ((dq + 1 : Nat) : Int)) (t := 176) (pc' := 141) dm_X1_run_138 rfl rfl (by omega) (fun hb2 => ?_) (fun hb2 => ?_)
    · exfalso; omega
    · refine me1 (pc' := 142) (L' := [(0, .ref 16), (1, .ref fi), (2, ii ((st : Nat) : Int))]) (S' := [.ref 16]) dm_X1_run_141 rfl rfl rfl rfl ?_
      refine me3 (pc' := 145) (S' := [.ref 33]) dm_X1_run_142 (g_get (v := .ref 33) h16 rfl rfl (by decide)) rfl rfl rfl ?_
      refine me1 (pc' := 146) (L' := [(0, .ref 16), (1, .ref fi), (2, ii ((st : Nat) : Int))]) (S' := [.ref 16, .ref 33]) dm_X1_run_145 rfl rfl rfl rfl ?_
      refine me3 (pc' := 149) (S' := [ii ((dq + 1 : Nat) : Int), .ref 33]) dm_X1_run_146 (g_get (v := ii ((dq + 1 : Nat) : Int)) h16 rfl rfl (by decide)) rfl rfl rfl ?_
      refine me0 (pc' := 150) (S' := [ii 1, ii ((dq + 1 : Nat) : Int), .ref 33]) dm_X1_run_149 rfl rfl rfl rfl ?_
      refine y_isub (a := ((dq + 1 : Nat) : Int)) (b := 1) dm_X1_run_150 (pc' := 151) rfl ?_
      refine pg_st (S' := [ii ((dq : Nat) : Int), .ref 33]) (congrArg (fun z => ii z :: [.ref 33]) (by omega)) ?_
      refine me3 (pc' := 152) (S' := [.ref fr]) dm_X1_run_151 (yh_aald (w := some fr) rfl h33 (by omega) (by omega) (by omega) (by decide) hff) rfl rfl rfl ?_
      refine me3 (pc' := 155) (S' := [ii fl]) dm_X1_run_152 (g_get (v := ii fl) hfr rfl rfl (by omega)) rfl rfl rfl ?_
      refine y_1le (a := fl) (t := 176) (pc' := 158) dm_X1_run_155 rfl rfl (by omega) (fun hb3 => ?_) (fun hb3 => ?_)
      · refine me1 (pc' := 177) (L' := [(0, .ref 16), (1, .ref fi), (2, ii ((st : Nat) : Int))]) (S' := [.ref 16]) dm_X1_run_176 rfl rfl rfl rfl ?_
        refine me3 (pc' := 180) (S' := [.ref p]) dm_X1_run_177 (g_get (v := .ref p) h16 rfl rfl (by decide)) rfl rfl rfl ?_
        refine me2 (pc' := 183) (S' := []) dm_X1_run_180 rfl rfl rfl ?_
        refine me1 (pc' := 184) (L' := [(0, .ref 16), (1, .ref fi), (2, ii ((st : Nat) : Int))]) (S' := [.ref 16]) dm_X1_run_183 rfl rfl rfl rfl ?_
        refine me1 (pc' := 185) (L' := [(0, .ref 16), (1, .ref fi), (2, ii ((st : Nat) : Int))]) (S' := [.ref 16, .ref 16]) dm_X1_run_184 rfl rfl rfl rfl ?_
        refine me3 (pc' := 188) (S' := [.ref p, .ref 16]) dm_X1_run_185 (g_get (v := .ref p) h16 rfl rfl (by decide)) rfl rfl rfl ?_
        refine x_cn (pc' := 191) (rest := []) dm_X1_run_188 rfl (g_inv (As := [.ref p]) (S := []) h16 rfl rfl rfl (by decide)) rfl rfl rfl (hcall) ?_
        rintro h1 hQ
        refine me2 (pc' := 224) (S' := []) dm_X1_run_191 rfl rfl rfl ?_
        refine y_iinc (pc' := 227) (L' := [(2, ii (((st : Nat) : Int) + 1)), (0, .ref 16), (1, .ref fi)]) dm_X1_run_224 (y_incp (a := ((st : Nat) : Int)) (c := 1) rfl rfl (by decide)) rfl ?_
        refine me2 (pc' := 42) (S' := []) dm_X1_run_227 rfl rfl rfl ?_
        exact pg_sub (L := [(0, .ref 16), (1, .ref fi), (2, ii ((st + 1 : Nat) : Int))]) rfl rfl rfl (k h1 hQ)
      · exfalso; omega
theorem tn_step0 {xt : mj_X} {d fi st : Nat} {h : mj_H} {P : Option Value → mj_H → Prop} {tp ca ou wk pl lv : Int} {vx vy lf rt : Value} {p : Nat} (hst : st < 199999999) (h16 : h[16]? = some (cO 1 [.ref 4, .ref 17, .ref 26, .ref 32, ii tp, .ref 33, ii 0, ii ca, ii ou, ii wk, ii 0, ii pl, .ref p, vx, vy, .null, ii lv, lf, rt])) {Q : mj_H → Prop} (hcall : pgN xt d 166 [.ref 16, .ref p] h Q) (k : ∀ h1, Q h1 → HD xt d fi (st + 1) h1 P) : HD xt d fi st h P := by
  refine me1 (pc' := 43) (L' := [(0, .ref 16), (1, .ref fi), (2, ii ((st : Nat) : Int))]) (S' := [ii ((st : Nat) : Int)]) dm_X1_run_42 rfl rfl rfl rfl ?_
  refine me3 (pc' := 45) (S' := [ii 200000000, ii ((st : Nat) : Int)]) dm_X1_run_43 rfl rfl rfl rfl ?_
  refine y_2ge (a := ((st : Nat) : Int)) (b := 200000000) (t := 230) (pc' := 48) dm_X1_run_45 rfl rfl (by omega) (fun hb1 => ?_) (fun hb1 => ?_)
  · exfalso; omega
  · refine me1 (pc' := 49) (L' := [(0, .ref 16), (1, .ref fi), (2, ii ((st : Nat) : Int))]) (S' := [.ref 16]) dm_X1_run_48 rfl rfl rfl rfl ?_
    refine me3 (pc' := 52) (S' := [ii 0]) dm_X1_run_49 (g_get (v := ii 0) h16 rfl rfl (by decide)) rfl rfl rfl ?_
    refine me_1f (pc' := 55) dm_X1_run_52 rfl (by decide) rfl ?_
    refine me1 (pc' := 56) (L' := [(0, .ref 16), (1, .ref fi), (2, ii ((st : Nat) : Int))]) (S' := [.ref 16]) dm_X1_run_55 rfl rfl rfl rfl ?_
    refine me3 (pc' := 59) (S' := [.null]) dm_X1_run_56 (g_get (v := .null) h16 rfl rfl (by decide)) rfl rfl rfl ?_
    refine me2 (pc' := 88) (S' := []) dm_X1_run_59 rfl rfl rfl ?_
    refine me1 (pc' := 89) (L' := [(0, .ref 16), (1, .ref fi), (2, ii ((st : Nat) : Int))]) (S' := [.ref 16]) dm_X1_run_88 rfl rfl rfl rfl ?_
    refine me3 (pc' := 92) (S' := [.null]) dm_X1_run_89 (g_get (v := .null) h16 rfl rfl (by decide)) rfl rfl rfl ?_
    refine me2 (pc' := 116) (S' := []) dm_X1_run_92 rfl rfl rfl ?_
    refine me1 (pc' := 117) (L' := [(0, .ref 16), (1, .ref fi), (2, ii ((st : Nat) : Int))]) (S' := [.ref 16]) dm_X1_run_116 rfl rfl rfl rfl ?_
    refine me3 (pc' := 120) (S' := [.null]) dm_X1_run_117 (g_get (v := .null) h16 rfl rfl (by decide)) rfl rfl rfl ?_
    refine me2 (pc' := 134) (S' := []) dm_X1_run_120 rfl rfl rfl ?_
    refine me1 (pc' := 135) (L' := [(0, .ref 16), (1, .ref fi), (2, ii ((st : Nat) : Int))]) (S' := [.ref 16]) dm_X1_run_134 rfl rfl rfl rfl ?_
    refine me3 (pc' := 138) (S' := [ii 0]) dm_X1_run_135 (g_get (v := ii 0) h16 rfl rfl (by decide)) rfl rfl rfl ?_
    refine me_1t (pc' := 176) dm_X1_run_138 rfl (by decide) ?_
    refine me1 (pc' := 177) (L' := [(0, .ref 16), (1, .ref fi), (2, ii ((st : Nat) : Int))]) (S' := [.ref 16]) dm_X1_run_176 rfl rfl rfl rfl ?_
    refine me3 (pc' := 180) (S' := [.ref p]) dm_X1_run_177 (g_get (v := .ref p) h16 rfl rfl (by decide)) rfl rfl rfl ?_
    refine me2 (pc' := 183) (S' := []) dm_X1_run_180 rfl rfl rfl ?_
    refine me1 (pc' := 184) (L' := [(0, .ref 16), (1, .ref fi), (2, ii ((st : Nat) : Int))]) (S' := [.ref 16]) dm_X1_run_183 rfl rfl rfl rfl ?_
    refine me1 (pc' := 185) (L' := [(0, .ref 16), (1, .ref fi), (2, ii ((st : Nat) : Int))]) (S' := [.ref 16, .ref 16]) dm_X1_run_184 rfl rfl rfl rfl ?_
    refine me3 (pc' := 188) (S' := [.ref p, .ref 16]) dm_X1_run_185 (g_get (v := .ref p) h16 rfl rfl (by decide)) rfl rfl rfl ?_
    refine x_cn (pc' := 191) (rest := []) dm_X1_run_188 rfl (g_inv (As := [.ref p]) (S := []) h16 rfl rfl rfl (by decide)) rfl rfl rfl (hcall) ?_
    rintro h1 hQ
    refine me2 (pc' := 224) (S' := []) dm_X1_run_191 rfl rfl rfl ?_
    refine y_iinc (pc' := 227) (L' := [(2, ii (((st : Nat) : Int) + 1)), (0, .ref 16), (1, .ref fi)]) dm_X1_run_224 (y_incp (a := ((st : Nat) : Int)) (c := 1) rfl rfl (by decide)) rfl ?_
    refine me2 (pc' := 42) (S' := []) dm_X1_run_227 rfl rfl rfl ?_
    exact pg_sub (L := [(0, .ref 16), (1, .ref fi), (2, ii ((st + 1 : Nat) : Int))]) rfl rfl rfl (k h1 hQ)
theorem dm_X1_run_194 : mj_dec prog_3_method_5_code 194 = some (.aload_n 0, 1) := by decide +kernel
theorem dm_X1_run_195 : mj_dec prog_3_method_5_code 195 = some (.getfield 56, 3) := by decide +kernel
theorem dm_X1_run_198 : mj_dec prog_3_method_5_code 198 = some (.ifCond .le 21, 3) := by decide +kernel
theorem dm_X1_run_201 : mj_dec prog_3_method_5_code 201 = some (.aload_n 0, 1) := by decide +kernel
theorem dm_X1_run_202 : mj_dec prog_3_method_5_code 202 = some (.aload_n 0, 1) := by decide +kernel
theorem dm_X1_run_203 : mj_dec prog_3_method_5_code 203 = some (.getfield 33, 3) := by decide +kernel
theorem dm_X1_run_206 : mj_dec prog_3_method_5_code 206 = some (.aload_n 0, 1) := by decide +kernel
theorem dm_X1_run_207 : mj_dec prog_3_method_5_code 207 = some (.getfield 56, 3) := by decide +kernel
theorem dm_X1_run_210 : mj_dec prog_3_method_5_code 210 = some (.iconst 1, 1) := by decide +kernel
theorem dm_X1_run_211 : mj_dec prog_3_method_5_code 211 = some (.isub, 1) := by decide +kernel
theorem dm_X1_run_212 : mj_dec prog_3_method_5_code 212 = some (.aaload, 1) := by decide +kernel
theorem dm_X1_run_213 : mj_dec prog_3_method_5_code 213 = some (.invokevirtual 110, 3) := by decide +kernel
theorem dm_X1_run_216 : mj_dec prog_3_method_5_code 216 = some (.goto 8, 3) := by decide +kernel
theorem tn_back {xt : mj_X} {d fi st : Nat} {h : mj_H} {P : Option Value → mj_H → Prop} {tp ca ou wk pl lv : Int} {dq : Nat} {vx vy lf rt : Value} (hst : st < 199999999) (h16 : h[16]? = some (cO 1 [.ref 4, .ref 17, .ref 26, .ref 32, ii tp, .ref 33, ii ((dq + 1 : Nat) : Int), ii ca, ii ou, ii wk, ii 0, ii pl, .null, vx, vy, .null, ii lv, lf, rt])) (hdq : dq < 64) {ff : Nat → Option Nat} (h33 : h[33]? = some (cA 7 64 ff)) {fr : Nat} (hff : ff dq = some fr) (hfr2 : 34 ≤ fr ∧ fr ≤ 97) {fl fn fm fb : Int} {fo fx fy : Value} (hfr : h[fr]? = some (cO 0 [ii fl, fo, fx, fy, ii fn, ii fm, ii fb])) (hfl : fl = 0) {Q : mj_H → Prop} (hcall : pgN xt d 175 [.ref 16, .ref fr] h Q) (k : ∀ h1, Q h1 → HD xt d fi (st + 1) h1 P) : HD xt d fi st h P := by
  refine me1 (pc' := 43) (L' := [(0, .ref 16), (1, .ref fi), (2, ii ((st : Nat) : Int))]) (S' := [ii ((st : Nat) : Int)]) dm_X1_run_42 rfl rfl rfl rfl ?_
  refine me3 (pc' := 45) (S' := [ii 200000000, ii ((st : Nat) : Int)]) dm_X1_run_43 rfl rfl rfl rfl ?_
  refine y_2ge (a := ((st : Nat) : Int)) (b := 200000000) (t := 230) (pc' := 48) dm_X1_run_45 rfl rfl (by omega) (fun hb1 => ?_) (fun hb1 => ?_)
  · exfalso; omega
  · refine me1 (pc' := 49) (L' := [(0, .ref 16), (1, .ref fi), (2, ii ((st : Nat) : Int))]) (S' := [.ref 16]) dm_X1_run_48 rfl rfl rfl rfl ?_
    refine me3 (pc' := 52) (S' := [ii 0]) dm_X1_run_49 (g_get (v := ii 0) h16 rfl rfl (by decide)) rfl rfl rfl ?_
    refine me_1f (pc' := 55) dm_X1_run_52 rfl (by decide) rfl ?_
    refine me1 (pc' := 56) (L' := [(0, .ref 16), (1, .ref fi), (2, ii ((st : Nat) : Int))]) (S' := [.ref 16]) dm_X1_run_55 rfl rfl rfl rfl ?_
    refine me3 (pc' := 59) (S' := [.null]) dm_X1_run_56 (g_get (v := .null) h16 rfl rfl (by decide)) rfl rfl rfl ?_
    refine me2 (pc' := 88) (S' := []) dm_X1_run_59 rfl rfl rfl ?_
    refine me1 (pc' := 89) (L' := [(0, .ref 16), (1, .ref fi), (2, ii ((st : Nat) : Int))]) (S' := [.ref 16]) dm_X1_run_88 rfl rfl rfl rfl ?_
    refine me3 (pc' := 92) (S' := [.null]) dm_X1_run_89 (g_get (v := .null) h16 rfl rfl (by decide)) rfl rfl rfl ?_
    refine me2 (pc' := 116) (S' := []) dm_X1_run_92 rfl rfl rfl ?_
    refine me1 (pc' := 117) (L' := [(0, .ref 16), (1, .ref fi), (2, ii ((st : Nat) : Int))]) (S' := [.ref 16]) dm_X1_run_116 rfl rfl rfl rfl ?_
    refine me3 (pc' := 120) (S' := [.null]) dm_X1_run_117 (g_get (v := .null) h16 rfl rfl (by decide)) rfl rfl rfl ?_
    refine me2 (pc' := 134) (S' := []) dm_X1_run_120 rfl rfl rfl ?_
    refine me1 (pc' := 135) (L' := [(0, .ref 16), (1, .ref fi), (2, ii ((st : Nat) : Int))]) (S' := [.ref 16]) dm_X1_run_134 rfl rfl rfl rfl ?_
    refine me3 (pc' := 138) (S' := [ii ((dq + 1 : Nat) : Int)]) dm_X1_run_135 (g_get (v := ii ((dq + 1 : Nat) : Int)) h16 rfl rfl (by decide)) rfl rfl rfl ?_
    refine y_1le (a := ((dq + 1 : Nat) : Int)) (t := 176) (pc' := 141) dm_X1_run_138 rfl rfl (by omega) (fun hb2 => ?_) (fun hb2 => ?_)
    · exfalso; omega
    · refine me1 (pc' := 142) (L' := [(0, .ref 16), (1, .ref fi), (2, ii ((st : Nat) : Int))]) (S' := [.ref 16]) dm_X1_run_141 rfl rfl rfl rfl ?_
      refine me3 (pc' := 145) (S' := [.ref 33]) dm_X1_run_142 (g_get (v := .ref 33) h16 rfl rfl (by decide)) rfl rfl rfl ?_
      refine me1 (pc' := 146) (L' := [(0, .ref 16), (1, .ref fi), (2, ii ((st : Nat) : Int))]) (S' := [.ref 16, .ref 33]) dm_X1_run_145 rfl rfl rfl rfl ?_
      refine me3 (pc' := 149) (S' := [ii ((dq + 1 : Nat) : Int), .ref 33]) dm_X1_run_146 (g_get (v := ii ((dq + 1 : Nat) : Int)) h16 rfl rfl (by decide)) rfl rfl rfl ?_
      refine me0 (pc' := 150) (S' := [ii 1, ii ((dq + 1 : Nat) : Int), .ref 33]) dm_X1_run_149 rfl rfl rfl rfl ?_
      refine y_isub (a := ((dq + 1 : Nat) : Int)) (b := 1) dm_X1_run_150 (pc' := 151) rfl ?_
      refine pg_st (S' := [ii ((dq : Nat) : Int), .ref 33]) (congrArg (fun z => ii z :: [.ref 33]) (by omega)) ?_
      refine me3 (pc' := 152) (S' := [.ref fr]) dm_X1_run_151 (yh_aald (w := some fr) rfl h33 (by omega) (by omega) (by omega) (by decide) hff) rfl rfl rfl ?_
      refine me3 (pc' := 155) (S' := [ii fl]) dm_X1_run_152 (g_get (v := ii fl) hfr rfl rfl (by omega)) rfl rfl rfl ?_
      refine y_1le (a := fl) (t := 176) (pc' := 158) dm_X1_run_155 rfl rfl (by omega) (fun hb3 => ?_) (fun hb3 => ?_)
      · refine me1 (pc' := 177) (L' := [(0, .ref 16), (1, .ref fi), (2, ii ((st : Nat) : Int))]) (S' := [.ref 16]) dm_X1_run_176 rfl rfl rfl rfl ?_
        refine me3 (pc' := 180) (S' := [.null]) dm_X1_run_177 (g_get (v := .null) h16 rfl rfl (by decide)) rfl rfl rfl ?_
        refine me2 (pc' := 194) (S' := []) dm_X1_run_180 rfl rfl rfl ?_
        refine me1 (pc' := 195) (L' := [(0, .ref 16), (1, .ref fi), (2, ii ((st : Nat) : Int))]) (S' := [.ref 16]) dm_X1_run_194 rfl rfl rfl rfl ?_
        refine me3 (pc' := 198) (S' := [ii ((dq + 1 : Nat) : Int)]) dm_X1_run_195 (g_get (v := ii ((dq + 1 : Nat) : Int)) h16 rfl rfl (by decide)) rfl rfl rfl ?_
        refine y_1le (a := ((dq + 1 : Nat) : Int)) (t := 219) (pc' := 201) dm_X1_run_198 rfl rfl (by omega) (fun hb4 => ?_) (fun hb4 => ?_)
        · exfalso; omega
        · refine me1 (pc' := 202) (L' := [(0, .ref 16), (1, .ref fi), (2, ii ((st : Nat) : Int))]) (S' := [.ref 16]) dm_X1_run_201 rfl rfl rfl rfl ?_
          refine me1 (pc' := 203) (L' := [(0, .ref 16), (1, .ref fi), (2, ii ((st : Nat) : Int))]) (S' := [.ref 16, .ref 16]) dm_X1_run_202 rfl rfl rfl rfl ?_
          refine me3 (pc' := 206) (S' := [.ref 33, .ref 16]) dm_X1_run_203 (g_get (v := .ref 33) h16 rfl rfl (by decide)) rfl rfl rfl ?_
          refine me1 (pc' := 207) (L' := [(0, .ref 16), (1, .ref fi), (2, ii ((st : Nat) : Int))]) (S' := [.ref 16, .ref 33, .ref 16]) dm_X1_run_206 rfl rfl rfl rfl ?_
          refine me3 (pc' := 210) (S' := [ii ((dq + 1 : Nat) : Int), .ref 33, .ref 16]) dm_X1_run_207 (g_get (v := ii ((dq + 1 : Nat) : Int)) h16 rfl rfl (by decide)) rfl rfl rfl ?_
          refine me0 (pc' := 211) (S' := [ii 1, ii ((dq + 1 : Nat) : Int), .ref 33, .ref 16]) dm_X1_run_210 rfl rfl rfl rfl ?_
          refine y_isub (a := ((dq + 1 : Nat) : Int)) (b := 1) dm_X1_run_211 (pc' := 212) rfl ?_
          refine pg_st (S' := [ii ((dq : Nat) : Int), .ref 33, .ref 16]) (congrArg (fun z => ii z :: [.ref 33, .ref 16]) (by omega)) ?_
          refine me3 (pc' := 213) (S' := [.ref fr, .ref 16]) dm_X1_run_212 (yh_aald (w := some fr) rfl h33 (by omega) (by omega) (by omega) (by decide) hff) rfl rfl rfl ?_
          refine x_cn (pc' := 216) (rest := []) dm_X1_run_213 rfl (g_inv (As := [.ref fr]) (S := []) h16 rfl rfl rfl (by decide)) rfl rfl rfl (hcall) ?_
          rintro h1 hQ
          refine me2 (pc' := 224) (S' := []) dm_X1_run_216 rfl rfl rfl ?_
          refine y_iinc (pc' := 227) (L' := [(2, ii (((st : Nat) : Int) + 1)), (0, .ref 16), (1, .ref fi)]) dm_X1_run_224 (y_incp (a := ((st : Nat) : Int)) (c := 1) rfl rfl (by decide)) rfl ?_
          refine me2 (pc' := 42) (S' := []) dm_X1_run_227 rfl rfl rfl ?_
          exact pg_sub (L := [(0, .ref 16), (1, .ref fi), (2, ii ((st + 1 : Nat) : Int))]) rfl rfl rfl (k h1 hQ)
      · exfalso; omega
theorem dm_X1_run_219 : mj_dec prog_3_method_5_code 219 = some (.aload_n 0, 1) := by decide +kernel
theorem dm_X1_run_220 : mj_dec prog_3_method_5_code 220 = some (.invokevirtual 113, 3) := by decide +kernel
theorem dm_X1_run_223 : mj_dec prog_3_method_5_code 223 = some (.areturn, 1) := by decide +kernel
theorem tn_end {xt : mj_X} {d fi st t q : Nat} {h : mj_H} {sf : Nat → Option Nat} {P : Option Value → mj_H → Prop} {ca ou wk pl lv : Int} {vx vy lf rt : Value} (hd : 1 ≤ d) (hst : st < 199999999) (h16 : h[16]? = some (cO 1 [.ref 4, .ref 17, .ref 26, .ref 32, ii ((t + 1 : Nat) : Int), .ref 33, ii 0, ii ca, ii ou, ii wk, ii 0, ii pl, .null, vx, vy, .null, ii lv, lf, rt])) (h32 : h[32]? = some (cA 4 8192 sf)) (ht : t < 8192) (hsq : sf t = some q) (kr : P (some (.ref q)) (h.set 16 (cO 1 [.ref 4, .ref 17, .ref 26, .ref 32, ii (t : Int), .ref 33, ii 0, ii ca, ii ou, ii wk, ii 0, ii pl, .null, vx, vy, .null, ii lv, lf, rt]))) : HD xt d fi st h P := by
  refine me1 (pc' := 43) (L' := [(0, .ref 16), (1, .ref fi), (2, ii ((st : Nat) : Int))]) (S' := [ii ((st : Nat) : Int)]) dm_X1_run_42 rfl rfl rfl rfl ?_
  refine me3 (pc' := 45) (S' := [ii 200000000, ii ((st : Nat) : Int)]) dm_X1_run_43 rfl rfl rfl rfl ?_
  refine y_2ge (a := ((st : Nat) : Int)) (b := 200000000) (t := 230) (pc' := 48) dm_X1_run_45 rfl rfl (by omega) (fun hb1 => ?_) (fun hb1 => ?_)
  · exfalso; omega
  · refine me1 (pc' := 49) (L' := [(0, .ref 16), (1, .ref fi), (2, ii ((st : Nat) : Int))]) (S' := [.ref 16]) dm_X1_run_48 rfl rfl rfl rfl ?_
    refine me3 (pc' := 52) (S' := [ii 0]) dm_X1_run_49 (g_get (v := ii 0) h16 rfl rfl (by decide)) rfl rfl rfl ?_
    refine me_1f (pc' := 55) dm_X1_run_52 rfl (by decide) rfl ?_
    refine me1 (pc' := 56) (L' := [(0, .ref 16), (1, .ref fi), (2, ii ((st : Nat) : Int))]) (S' := [.ref 16]) dm_X1_run_55 rfl rfl rfl rfl ?_
    refine me3 (pc' := 59) (S' := [.null]) dm_X1_run_56 (g_get (v := .null) h16 rfl rfl (by decide)) rfl rfl rfl ?_
    refine me2 (pc' := 88) (S' := []) dm_X1_run_59 rfl rfl rfl ?_
    refine me1 (pc' := 89) (L' := [(0, .ref 16), (1, .ref fi), (2, ii ((st : Nat) : Int))]) (S' := [.ref 16]) dm_X1_run_88 rfl rfl rfl rfl ?_
    refine me3 (pc' := 92) (S' := [.null]) dm_X1_run_89 (g_get (v := .null) h16 rfl rfl (by decide)) rfl rfl rfl ?_
    refine me2 (pc' := 116) (S' := []) dm_X1_run_92 rfl rfl rfl ?_
    refine me1 (pc' := 117) (L' := [(0, .ref 16), (1, .ref fi), (2, ii ((st : Nat) : Int))]) (S' := [.ref 16]) dm_X1_run_116 rfl rfl rfl rfl ?_
    refine me3 (pc' := 120) (S' := [.null]) dm_X1_run_117 (g_get (v := .null) h16 rfl rfl (by decide)) rfl rfl rfl ?_
    refine me2 (pc' := 134) (S' := []) dm_X1_run_120 rfl rfl rfl ?_
    refine me1 (pc' := 135) (L' := [(0, .ref 16), (1, .ref fi), (2, ii ((st : Nat) : Int))]) (S' := [.ref 16]) dm_X1_run_134 rfl rfl rfl rfl ?_
    refine me3 (pc' := 138) (S' := [ii 0]) dm_X1_run_135 (g_get (v := ii 0) h16 rfl rfl (by decide)) rfl rfl rfl ?_
    refine me_1t (pc' := 176) dm_X1_run_138 rfl (by decide) ?_
    refine me1 (pc' := 177) (L' := [(0, .ref 16), (1, .ref fi), (2, ii ((st : Nat) : Int))]) (S' := [.ref 16]) dm_X1_run_176 rfl rfl rfl rfl ?_
    refine me3 (pc' := 180) (S' := [.null]) dm_X1_run_177 (g_get (v := .null) h16 rfl rfl (by decide)) rfl rfl rfl ?_
    refine me2 (pc' := 194) (S' := []) dm_X1_run_180 rfl rfl rfl ?_
    refine me1 (pc' := 195) (L' := [(0, .ref 16), (1, .ref fi), (2, ii ((st : Nat) : Int))]) (S' := [.ref 16]) dm_X1_run_194 rfl rfl rfl rfl ?_
    refine me3 (pc' := 198) (S' := [ii 0]) dm_X1_run_195 (g_get (v := ii 0) h16 rfl rfl (by decide)) rfl rfl rfl ?_
    refine me_1t (pc' := 219) dm_X1_run_198 rfl (by decide) ?_
    refine me1 (pc' := 220) (L' := [(0, .ref 16), (1, .ref fi), (2, ii ((st : Nat) : Int))]) (S' := [.ref 16]) dm_X1_run_219 rfl rfl rfl rfl ?_
    refine x_cv (pc' := 223) (rest := []) dm_X1_run_220 rfl (g_inv (As := []) (S := []) h16 rfl rfl rfl (by decide)) rfl rfl rfl (m_pop (by omega) h16 h32 ht hsq rfl) ?_
    rintro _ _ ⟨rfl, rfl⟩
    refine y_ret (r := some (.ref q)) dm_X1_run_223 rfl rfl rfl ?_
    exact kr
theorem dm_X1_run_230 : mj_dec prog_3_method_5_code 230 = some (.aload_n 0, 1) := by decide +kernel
theorem dm_X1_run_231 : mj_dec prog_3_method_5_code 231 = some (.aload_n 0, 1) := by decide +kernel
theorem dm_X1_run_232 : mj_dec prog_3_method_5_code 232 = some (.getfield 47, 3) := by decide +kernel
theorem dm_X1_run_235 : mj_dec prog_3_method_5_code 235 = some (.ifCond .ne 8, 3) := by decide +kernel
theorem dm_X1_run_243 : mj_dec prog_3_method_5_code 243 = some (.aload_n 0, 1) := by decide +kernel
theorem dm_X1_run_244 : mj_dec prog_3_method_5_code 244 = some (.getfield 47, 3) := by decide +kernel
theorem dm_X1_run_247 : mj_dec prog_3_method_5_code 247 = some (.putfield 47, 3) := by decide +kernel
theorem dm_X1_run_250 : mj_dec prog_3_method_5_code 250 = some (.aconst_null, 1) := by decide +kernel
theorem dm_X1_run_251 : mj_dec prog_3_method_5_code 251 = some (.areturn, 1) := by decide +kernel
theorem tn_err {xt : mj_X} {d fi st : Nat} {h : mj_H} {P : Option Value → mj_H → Prop} {tp dp ca ou wk er pl lv : Int} {nw vx vy dg lf rt : Value} (hst : st < 199999999) (hst2 : (st : Int) ≤ 2147483647) (h16 : h[16]? = some (cO 1 [.ref 4, .ref 17, .ref 26, .ref 32, ii tp, .ref 33, ii dp, ii ca, ii ou, ii wk, ii er, ii pl, nw, vx, vy, dg, ii lv, lf, rt])) (her : er ≠ 0 ∧ -2147483648 ≤ er ∧ er ≤ 2147483647) (kr : P (some .null) h) : HD xt d fi st h P := by
  refine me1 (pc' := 43) (L' := [(0, .ref 16), (1, .ref fi), (2, ii ((st : Nat) : Int))]) (S' := [ii ((st : Nat) : Int)]) dm_X1_run_42 rfl rfl rfl rfl ?_
  refine me3 (pc' := 45) (S' := [ii 200000000, ii ((st : Nat) : Int)]) dm_X1_run_43 rfl rfl rfl rfl ?_
  refine y_2ge (a := ((st : Nat) : Int)) (b := 200000000) (t := 230) (pc' := 48) dm_X1_run_45 rfl rfl (by omega) (fun hb1 => ?_) (fun hb1 => ?_)
  · refine me1 (pc' := 231) (L' := [(0, .ref 16), (1, .ref fi), (2, ii ((st : Nat) : Int))]) (S' := [.ref 16]) dm_X1_run_230 rfl rfl rfl rfl ?_
    refine me1 (pc' := 232) (L' := [(0, .ref 16), (1, .ref fi), (2, ii ((st : Nat) : Int))]) (S' := [.ref 16, .ref 16]) dm_X1_run_231 rfl rfl rfl rfl ?_
    refine me3 (pc' := 235) (S' := [ii er, .ref 16]) dm_X1_run_232 (g_get (v := ii er) h16 rfl rfl (by decide)) rfl rfl rfl ?_
    refine y_1ne (a := er) (t := 243) (pc' := 238) dm_X1_run_235 rfl rfl (by omega) (fun hb2 => ?_) (fun hb2 => ?_)
    · refine me1 (pc' := 244) (L' := [(0, .ref 16), (1, .ref fi), (2, ii ((st : Nat) : Int))]) (S' := [.ref 16, .ref 16]) dm_X1_run_243 rfl rfl rfl rfl ?_
      refine me3 (pc' := 247) (S' := [ii er, .ref 16]) dm_X1_run_244 (g_get (v := ii er) h16 rfl rfl (by decide)) rfl rfl rfl ?_
      refine me3 (pc' := 250) (S' := []) (h1 := (h).set 16 (cO 1 [.ref 4, .ref 17, .ref 26, .ref 32, ii tp, .ref 33, ii dp, ii ca, ii ou, ii wk, ii er, ii pl, nw, vx, vy, dg, ii lv, lf, rt])) dm_X1_run_247 (g_put (fs' := [.ref 4, .ref 17, .ref 26, .ref 32, ii tp, .ref 33, ii dp, ii ca, ii ou, ii wk, ii er, ii pl, nw, vx, vy, dg, ii lv, lf, rt]) h16 rfl rfl rfl (by simp) rfl (by decide) (fun z => by cases z) (by decide)) rfl rfl rfl ?_
      refine me0 (pc' := 251) (S' := [.null]) dm_X1_run_250 rfl rfl rfl rfl ?_
      refine y_ret (r := some (.null)) dm_X1_run_251 rfl rfl rfl ?_
      first | exact kr | (rw [hl_self h16]; exact kr)
    · exfalso; omega
  · refine me1 (pc' := 49) (L' := [(0, .ref 16), (1, .ref fi), (2, ii ((st : Nat) : Int))]) (S' := [.ref 16]) dm_X1_run_48 rfl rfl rfl rfl ?_
    refine me3 (pc' := 52) (S' := [ii er]) dm_X1_run_49 (g_get (v := ii er) h16 rfl rfl (by decide)) rfl rfl rfl ?_
    refine y_1ne (a := er) (t := 230) (pc' := 55) dm_X1_run_52 rfl rfl (by omega) (fun hb3 => ?_) (fun hb3 => ?_)
    · refine me1 (pc' := 231) (L' := [(0, .ref 16), (1, .ref fi), (2, ii ((st : Nat) : Int))]) (S' := [.ref 16]) dm_X1_run_230 rfl rfl rfl rfl ?_
      refine me1 (pc' := 232) (L' := [(0, .ref 16), (1, .ref fi), (2, ii ((st : Nat) : Int))]) (S' := [.ref 16, .ref 16]) dm_X1_run_231 rfl rfl rfl rfl ?_
      refine me3 (pc' := 235) (S' := [ii er, .ref 16]) dm_X1_run_232 (g_get (v := ii er) h16 rfl rfl (by decide)) rfl rfl rfl ?_
      refine y_1ne (a := er) (t := 243) (pc' := 238) dm_X1_run_235 rfl rfl (by omega) (fun hb4 => ?_) (fun hb4 => ?_)
      · refine me1 (pc' := 244) (L' := [(0, .ref 16), (1, .ref fi), (2, ii ((st : Nat) : Int))]) (S' := [.ref 16, .ref 16]) dm_X1_run_243 rfl rfl rfl rfl ?_
        refine me3 (pc' := 247) (S' := [ii er, .ref 16]) dm_X1_run_244 (g_get (v := ii er) h16 rfl rfl (by decide)) rfl rfl rfl ?_
        refine me3 (pc' := 250) (S' := []) (h1 := (h).set 16 (cO 1 [.ref 4, .ref 17, .ref 26, .ref 32, ii tp, .ref 33, ii dp, ii ca, ii ou, ii wk, ii er, ii pl, nw, vx, vy, dg, ii lv, lf, rt])) dm_X1_run_247 (g_put (fs' := [.ref 4, .ref 17, .ref 26, .ref 32, ii tp, .ref 33, ii dp, ii ca, ii ou, ii wk, ii er, ii pl, nw, vx, vy, dg, ii lv, lf, rt]) h16 rfl rfl rfl (by simp) rfl (by decide) (fun z => by cases z) (by decide)) rfl rfl rfl ?_
        refine me0 (pc' := 251) (S' := [.null]) dm_X1_run_250 rfl rfl rfl rfl ?_
        refine y_ret (r := some (.null)) dm_X1_run_251 rfl rfl rfl ?_
        first | exact kr | (rw [hl_self h16]; exact kr)
      · exfalso; omega
    · exfalso; omega
