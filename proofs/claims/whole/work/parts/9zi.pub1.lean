/-- the cell of the object -/
abbrev acC (fd : Int) (qr qp : Nat) (le lp lw : Int) : mj_E := cO 11 [.ref 3, ii fd, .ref 4, .ref 9, .ref 13, .ref 15, .ref 16, .ref 98, .ref qr, .ref qp, ii le, ii lp, ii lw]
/-- what told, count and names answer -/
def toldF (what le lp lw wl : Int) : Int := if what = 0 then le else if what = 1 then lp else if what = 2 then lw else if what = 3 then wl else -1
def cntF (what : Int) (e : Nat) (v : VV) : Int := if what = 0 then (vm v : Int) else if what = 1 then (if vk v = 6 then (vc v : Int) else -1) else if what = 2 then (vlv (e + 1) v : Int) else -1
def nmsF (what : Int) (n m : Nat) : Int := if what = 0 then (n : Int) else if what = 1 then (m : Int) else -1
set_option maxRecDepth 20000 in
theorem pm_X11_told : mj_mmof pg_ms 181 = some ((⟨"ArrayCalculator", "told", "(I)I"⟩, prog_1_method_8_code, 2, (Option.some Jvm.ClassFile.FieldType.int)), 11, false, mj_dec prog_1_method_8_code) := rfl
theorem dm_X11_told_0 : mj_dec prog_1_method_8_code 0 = some (.iload_n 1, 1) := by decide +kernel
theorem dm_X11_told_1 : mj_dec prog_1_method_8_code 1 = some (.tableswitch 54 0 3 #[31, 36, 41, 46], 31) := by decide +kernel
theorem dm_X11_told_32 : mj_dec prog_1_method_8_code 32 = some (.aload_n 0, 1) := by decide +kernel
theorem dm_X11_told_33 : mj_dec prog_1_method_8_code 33 = some (.getfield 134, 3) := by decide +kernel
theorem dm_X11_told_36 : mj_dec prog_1_method_8_code 36 = some (.ireturn, 1) := by decide +kernel
theorem dm_X11_told_37 : mj_dec prog_1_method_8_code 37 = some (.aload_n 0, 1) := by decide +kernel
theorem dm_X11_told_38 : mj_dec prog_1_method_8_code 38 = some (.getfield 73, 3) := by decide +kernel
theorem dm_X11_told_41 : mj_dec prog_1_method_8_code 41 = some (.ireturn, 1) := by decide +kernel
theorem dm_X11_told_42 : mj_dec prog_1_method_8_code 42 = some (.aload_n 0, 1) := by decide +kernel
theorem dm_X11_told_43 : mj_dec prog_1_method_8_code 43 = some (.getfield 131, 3) := by decide +kernel
theorem dm_X11_told_46 : mj_dec prog_1_method_8_code 46 = some (.ireturn, 1) := by decide +kernel
theorem dm_X11_told_47 : mj_dec prog_1_method_8_code 47 = some (.aload_n 0, 1) := by decide +kernel
theorem dm_X11_told_48 : mj_dec prog_1_method_8_code 48 = some (.getfield 47, 3) := by decide +kernel
theorem dm_X11_told_51 : mj_dec prog_1_method_8_code 51 = some (.invokevirtual 83, 3) := by decide +kernel
theorem dm_X11_told_54 : mj_dec prog_1_method_8_code 54 = some (.ireturn, 1) := by decide +kernel
theorem dm_X11_told_55 : mj_dec prog_1_method_8_code 55 = some (.iconst (-1), 1) := by decide +kernel
theorem dm_X11_told_56 : mj_dec prog_1_method_8_code 56 = some (.ireturn, 1) := by decide +kernel
theorem a_told {xt : mj_X} {d qr qp : Nat} {h : mj_H} {fd le lp lw what : Int} (hd : 2 ≤ d) (h2 : h[2]? = some (acC fd qr qp le lp lw)) (hwh : -2147483648 ≤ what ∧ what ≤ 2147483647) {tp dp ca ou wk er pl lv : Int} {nw vx vy dg lf rt : Value} (h16 : h[16]? = some (mcC tp dp ca ou wk er pl nw vx vy dg lv lf rt)) : pgP xt d 181 [.ref 2, ii what] h (ii (toldF what le lp lw wk)) := by
  refine x_enter pm_X11_told (L0 := [(0, .ref 2), (1, ii what)]) rfl (Nat.le_of_ble_eq_true rfl) (by omega) ?_
  refine me1 (pc' := 1) (L' := [(0, .ref 2), (1, ii what)]) (S' := [ii what]) dm_X11_told_0 rfl rfl rfl rfl ?_
  refine y_sw (a := what) (0) (t := 32) (i := .tableswitch 54 0 3 #[31, 36, 41, 46]) (len := 31) dm_X11_told_1 rfl rfl rfl (by omega) (by decide) (fun hb1 => ?_) (fun hb1 => ?_)
  · refine me1 (pc' := 33) (L' := [(0, .ref 2), (1, ii what)]) (S' := [.ref 2]) dm_X11_told_32 rfl rfl rfl rfl ?_
    refine me3 (pc' := 36) (S' := [ii le]) dm_X11_told_33 (g_get (v := ii le) h2 rfl rfl (by decide)) rfl rfl rfl ?_
    refine y_ret (r := some (ii le)) dm_X11_told_36 rfl rfl rfl ?_
    first | (exfalso; omega) | (refine ⟨congrArg (fun z => some (ii z)) ?_, rfl⟩; unfold toldF; repeat (first | rw [if_pos (by omega)] | rw [if_neg (by omega)]))
  refine y_sw (a := what) (1) (t := 37) (i := .tableswitch 54 0 3 #[31, 36, 41, 46]) (len := 31) dm_X11_told_1 rfl rfl rfl (by omega) (by decide) (fun hb2 => ?_) (fun hb2 => ?_)
  · refine me1 (pc' := 38) (L' := [(0, .ref 2), (1, ii what)]) (S' := [.ref 2]) dm_X11_told_37 rfl rfl rfl rfl ?_
    refine me3 (pc' := 41) (S' := [ii lp]) dm_X11_told_38 (g_get (v := ii lp) h2 rfl rfl (by decide)) rfl rfl rfl ?_
    refine y_ret (r := some (ii lp)) dm_X11_told_41 rfl rfl rfl ?_
    first | (exfalso; omega) | (refine ⟨congrArg (fun z => some (ii z)) ?_, rfl⟩; unfold toldF; repeat (first | rw [if_pos (by omega)] | rw [if_neg (by omega)]))
  refine y_sw (a := what) (2) (t := 42) (i := .tableswitch 54 0 3 #[31, 36, 41, 46]) (len := 31) dm_X11_told_1 rfl rfl rfl (by omega) (by decide) (fun hb3 => ?_) (fun hb3 => ?_)
  · refine me1 (pc' := 43) (L' := [(0, .ref 2), (1, ii what)]) (S' := [.ref 2]) dm_X11_told_42 rfl rfl rfl rfl ?_
    refine me3 (pc' := 46) (S' := [ii lw]) dm_X11_told_43 (g_get (v := ii lw) h2 rfl rfl (by decide)) rfl rfl rfl ?_
    refine y_ret (r := some (ii lw)) dm_X11_told_46 rfl rfl rfl ?_
    first | (exfalso; omega) | (refine ⟨congrArg (fun z => some (ii z)) ?_, rfl⟩; unfold toldF; repeat (first | rw [if_pos (by omega)] | rw [if_neg (by omega)]))
  refine y_sw (a := what) (3) (t := 47) (i := .tableswitch 54 0 3 #[31, 36, 41, 46]) (len := 31) dm_X11_told_1 rfl rfl rfl (by omega) (by decide) (fun hb4 => ?_) (fun hb4 => ?_)
  · refine me1 (pc' := 48) (L' := [(0, .ref 2), (1, ii what)]) (S' := [.ref 2]) dm_X11_told_47 rfl rfl rfl rfl ?_
    refine me3 (pc' := 51) (S' := [.ref 16]) dm_X11_told_48 (g_get (v := .ref 16) h2 rfl rfl (by decide)) rfl rfl rfl ?_
    refine x_cp (pc' := 54) (v := ii wk) (rest := []) dm_X11_told_51 rfl (g_inv (As := []) (S := []) h16 rfl rfl rfl (by decide)) rfl rfl rfl (m_workLeft (by omega) h16) ?_
    refine y_ret (r := some (ii wk)) dm_X11_told_54 rfl rfl rfl ?_
    first | (exfalso; omega) | (refine ⟨congrArg (fun z => some (ii z)) ?_, rfl⟩; unfold toldF; repeat (first | rw [if_pos (by omega)] | rw [if_neg (by omega)]))
  refine me2 (pc' := 55) (S' := []) dm_X11_told_1 (sw_tdef [Int32.ofInt 0, Int32.ofInt 1, Int32.ofInt 2, Int32.ofInt 3] rfl rfl rfl ⟨y_no (by omega) (by decide) hb1, y_no (by omega) (by decide) hb2, y_no (by omega) (by decide) hb3, y_no (by omega) (by decide) hb4, trivial⟩) rfl rfl ?_
  refine me0 (pc' := 56) (S' := [ii (-1)]) dm_X11_told_55 rfl rfl rfl rfl ?_
  refine y_ret (r := some (ii (-1))) dm_X11_told_56 rfl rfl rfl ?_
  first | (exfalso; omega) | (refine ⟨congrArg (fun z => some (ii z)) ?_, rfl⟩; unfold toldF; repeat (first | rw [if_pos (by omega)] | rw [if_neg (by omega)]))
set_option maxRecDepth 20000 in
theorem pm_X11_kind : mj_mmof pg_ms 183 = some ((⟨"ArrayCalculator", "kind", "()I"⟩, prog_1_method_10_code, 1, (Option.some Jvm.ClassFile.FieldType.int)), 11, false, mj_dec prog_1_method_10_code) := rfl
theorem dm_X11_kind_0 : mj_dec prog_1_method_10_code 0 = some (.aload_n 0, 1) := by decide +kernel
theorem dm_X11_kind_1 : mj_dec prog_1_method_10_code 1 = some (.getfield 70, 3) := by decide +kernel
theorem dm_X11_kind_4 : mj_dec prog_1_method_10_code 4 = some (.getfield 158, 3) := by decide +kernel
theorem dm_X11_kind_7 : mj_dec prog_1_method_10_code 7 = some (.ireturn, 1) := by decide +kernel
theorem a_kind {xt : mj_X} {d qr qp : Nat} {h : mj_H} {fd le lp lw : Int} (hd : 1 ≤ d) (h2 : h[2]? = some (acC fd qr qp le lp lw)) {A : Nat → Prop} {e : Nat} {v : VV} (hv : cv A h (e + 1) qp v) : pgP xt d 183 [.ref 2] h (ii (vk v : Int)) := by
  obtain ⟨hw, ⟨hq2, hpA⟩, hsz, hlv, row, fr, vals, hvq, hfr, h1, h3, h7⟩ := id hv
  have hm := vw1_m hw
  clear h1 h3 h7
  refine x_enter pm_X11_kind (L0 := [(0, .ref 2)]) rfl (Nat.le_of_ble_eq_true rfl) (by omega) ?_
  refine me1 (pc' := 1) (L' := [(0, .ref 2)]) (S' := [.ref 2]) dm_X11_kind_0 rfl rfl rfl rfl ?_
  refine me3 (pc' := 4) (S' := [.ref qp]) dm_X11_kind_1 (g_get (v := .ref qp) h2 rfl rfl (by decide)) rfl rfl rfl ?_
  refine me3 (pc' := 7) (S' := [ii (vk v : Int)]) dm_X11_kind_4 (g_get (v := ii (vk v : Int)) hvq rfl rfl (by omega)) rfl rfl rfl ?_
  refine y_ret (r := some (ii (vk v : Int))) dm_X11_kind_7 rfl rfl rfl ?_
  exact ⟨rfl, rfl⟩
set_option maxRecDepth 20000 in
theorem pm_X11_count : mj_mmof pg_ms 184 = some ((⟨"ArrayCalculator", "count", "(I)I"⟩, prog_1_method_11_code, 2, (Option.some Jvm.ClassFile.FieldType.int)), 11, false, mj_dec prog_1_method_11_code) := rfl
theorem dm_X11_count_0 : mj_dec prog_1_method_11_code 0 = some (.iload_n 1, 1) := by decide +kernel
theorem dm_X11_count_1 : mj_dec prog_1_method_11_code 1 = some (.ifCond .ne 11, 3) := by decide +kernel
theorem dm_X11_count_4 : mj_dec prog_1_method_11_code 4 = some (.aload_n 0, 1) := by decide +kernel
theorem dm_X11_count_5 : mj_dec prog_1_method_11_code 5 = some (.getfield 70, 3) := by decide +kernel
theorem dm_X11_count_8 : mj_dec prog_1_method_11_code 8 = some (.getfield 161, 3) := by decide +kernel
theorem dm_X11_count_11 : mj_dec prog_1_method_11_code 11 = some (.ireturn, 1) := by decide +kernel
theorem dm_X11_count_12 : mj_dec prog_1_method_11_code 12 = some (.iload_n 1, 1) := by decide +kernel
theorem dm_X11_count_13 : mj_dec prog_1_method_11_code 13 = some (.iconst 1, 1) := by decide +kernel
theorem dm_X11_count_14 : mj_dec prog_1_method_11_code 14 = some (.if_icmp .ne 23, 3) := by decide +kernel
theorem dm_X11_count_17 : mj_dec prog_1_method_11_code 17 = some (.aload_n 0, 1) := by decide +kernel
theorem dm_X11_count_18 : mj_dec prog_1_method_11_code 18 = some (.getfield 70, 3) := by decide +kernel
theorem dm_X11_count_21 : mj_dec prog_1_method_11_code 21 = some (.getfield 158, 3) := by decide +kernel
theorem dm_X11_count_24 : mj_dec prog_1_method_11_code 24 = some (.bipush 6, 2) := by decide +kernel
theorem dm_X11_count_26 : mj_dec prog_1_method_11_code 26 = some (.if_icmp .ne 11, 3) := by decide +kernel
theorem dm_X11_count_29 : mj_dec prog_1_method_11_code 29 = some (.aload_n 0, 1) := by decide +kernel
theorem dm_X11_count_30 : mj_dec prog_1_method_11_code 30 = some (.getfield 70, 3) := by decide +kernel
theorem dm_X11_count_33 : mj_dec prog_1_method_11_code 33 = some (.getfield 167, 3) := by decide +kernel
theorem dm_X11_count_36 : mj_dec prog_1_method_11_code 36 = some (.ireturn, 1) := by decide +kernel
theorem dm_X11_count_37 : mj_dec prog_1_method_11_code 37 = some (.iload_n 1, 1) := by decide +kernel
theorem dm_X11_count_38 : mj_dec prog_1_method_11_code 38 = some (.iconst 2, 1) := by decide +kernel
theorem dm_X11_count_39 : mj_dec prog_1_method_11_code 39 = some (.if_icmp .ne 13, 3) := by decide +kernel
theorem dm_X11_count_42 : mj_dec prog_1_method_11_code 42 = some (.aload_n 0, 1) := by decide +kernel
theorem dm_X11_count_43 : mj_dec prog_1_method_11_code 43 = some (.getfield 70, 3) := by decide +kernel
theorem dm_X11_count_46 : mj_dec prog_1_method_11_code 46 = some (.getfield 170, 3) := by decide +kernel
theorem dm_X11_count_49 : mj_dec prog_1_method_11_code 49 = some (.goto 4, 3) := by decide +kernel
theorem dm_X11_count_52 : mj_dec prog_1_method_11_code 52 = some (.iconst (-1), 1) := by decide +kernel
theorem dm_X11_count_53 : mj_dec prog_1_method_11_code 53 = some (.ireturn, 1) := by decide +kernel
theorem a_count {xt : mj_X} {d qr qp : Nat} {h : mj_H} {fd le lp lw what : Int} (hd : 1 ≤ d) (h2 : h[2]? = some (acC fd qr qp le lp lw)) (hwh : -2147483648 ≤ what ∧ what ≤ 2147483647) {A : Nat → Prop} {e : Nat} {v : VV} (hv : cv A h (e + 1) qp v) : pgP xt d 184 [.ref 2, ii what] h (ii (cntF what e v)) := by
  obtain ⟨hw, ⟨hq2, hpA⟩, hsz, hlv, row, fr, vals, hvq, hfr, h1, h3, h7⟩ := id hv
  have hm := vw1_m hw
  clear h1 h3 h7
  refine x_enter pm_X11_count (L0 := [(0, .ref 2), (1, ii what)]) rfl (Nat.le_of_ble_eq_true rfl) (by omega) ?_
  refine me1 (pc' := 1) (L' := [(0, .ref 2), (1, ii what)]) (S' := [ii what]) dm_X11_count_0 rfl rfl rfl rfl ?_
  refine y_1ne (a := what) (t := 12) (pc' := 4) dm_X11_count_1 rfl rfl (by omega) (fun hb1 => ?_) (fun hb1 => ?_)
  · refine me1 (pc' := 13) (L' := [(0, .ref 2), (1, ii what)]) (S' := [ii what]) dm_X11_count_12 rfl rfl rfl rfl ?_
    refine me0 (pc' := 14) (S' := [ii 1, ii what]) dm_X11_count_13 rfl rfl rfl rfl ?_
    refine y_2ne (a := what) (b := 1) (t := 37) (pc' := 17) dm_X11_count_14 rfl rfl (by omega) (fun hb2 => ?_) (fun hb2 => ?_)
    · refine me1 (pc' := 38) (L' := [(0, .ref 2), (1, ii what)]) (S' := [ii what]) dm_X11_count_37 rfl rfl rfl rfl ?_
      refine me0 (pc' := 39) (S' := [ii 2, ii what]) dm_X11_count_38 rfl rfl rfl rfl ?_
      refine y_2ne (a := what) (b := 2) (t := 52) (pc' := 42) dm_X11_count_39 rfl rfl (by omega) (fun hb3 => ?_) (fun hb3 => ?_)
      · refine me0 (pc' := 53) (S' := [ii (-1)]) dm_X11_count_52 rfl rfl rfl rfl ?_
        refine y_ret (r := some (ii (-1))) dm_X11_count_53 rfl rfl rfl ?_
        first | (exfalso; omega) | (refine ⟨congrArg (fun z => some (ii z)) ?_, rfl⟩; unfold cntF; repeat (first | rw [if_pos (by omega)] | rw [if_neg (by omega)]))
      · refine me1 (pc' := 43) (L' := [(0, .ref 2), (1, ii what)]) (S' := [.ref 2]) dm_X11_count_42 rfl rfl rfl rfl ?_
        refine me3 (pc' := 46) (S' := [.ref qp]) dm_X11_count_43 (g_get (v := .ref qp) h2 rfl rfl (by decide)) rfl rfl rfl ?_
        refine me3 (pc' := 49) (S' := [ii (vlv (e + 1) v : Int)]) dm_X11_count_46 (g_get (v := ii (vlv (e + 1) v : Int)) hvq rfl rfl (by omega)) rfl rfl rfl ?_
        refine me2 (pc' := 53) (S' := [ii (vlv (e + 1) v : Int)]) dm_X11_count_49 rfl rfl rfl ?_
        refine y_ret (r := some (ii (vlv (e + 1) v : Int))) dm_X11_count_53 rfl rfl rfl ?_
        first | (exfalso; omega) | (refine ⟨congrArg (fun z => some (ii z)) ?_, rfl⟩; unfold cntF; repeat (first | rw [if_pos (by omega)] | rw [if_neg (by omega)]))
    · refine me1 (pc' := 18) (L' := [(0, .ref 2), (1, ii what)]) (S' := [.ref 2]) dm_X11_count_17 rfl rfl rfl rfl ?_
      refine me3 (pc' := 21) (S' := [.ref qp]) dm_X11_count_18 (g_get (v := .ref qp) h2 rfl rfl (by decide)) rfl rfl rfl ?_
      refine me3 (pc' := 24) (S' := [ii (vk v : Int)]) dm_X11_count_21 (g_get (v := ii (vk v : Int)) hvq rfl rfl (by omega)) rfl rfl rfl ?_
      refine me0 (pc' := 26) (S' := [ii 6, ii (vk v : Int)]) dm_X11_count_24 rfl rfl rfl rfl ?_
      refine y_2ne (a := (vk v : Int)) (b := 6) (t := 37) (pc' := 29) dm_X11_count_26 rfl rfl (by omega) (fun hb4 => ?_) (fun hb4 => ?_)
      · refine me1 (pc' := 38) (L' := [(0, .ref 2), (1, ii what)]) (S' := [ii what]) dm_X11_count_37 rfl rfl rfl rfl ?_
        refine me0 (pc' := 39) (S' := [ii 2, ii what]) dm_X11_count_38 rfl rfl rfl rfl ?_
        refine y_2ne (a := what) (b := 2) (t := 52) (pc' := 42) dm_X11_count_39 rfl rfl (by omega) (fun hb5 => ?_) (fun hb5 => ?_)
        · refine me0 (pc' := 53) (S' := [ii (-1)]) dm_X11_count_52 rfl rfl rfl rfl ?_
          refine y_ret (r := some (ii (-1))) dm_X11_count_53 rfl rfl rfl ?_
          first | (exfalso; omega) | (refine ⟨congrArg (fun z => some (ii z)) ?_, rfl⟩; unfold cntF; repeat (first | rw [if_pos (by omega)] | rw [if_neg (by omega)]))
        · refine me1 (pc' := 43) (L' := [(0, .ref 2), (1, ii what)]) (S' := [.ref 2]) dm_X11_count_42 rfl rfl rfl rfl ?_
          refine me3 (pc' := 46) (S' := [.ref qp]) dm_X11_count_43 (g_get (v := .ref qp) h2 rfl rfl (by decide)) rfl rfl rfl ?_
          refine me3 (pc' := 49) (S' := [ii (vlv (e + 1) v : Int)]) dm_X11_count_46 (g_get (v := ii (vlv (e + 1) v : Int)) hvq rfl rfl (by omega)) rfl rfl rfl ?_
          refine me2 (pc' := 53) (S' := [ii (vlv (e + 1) v : Int)]) dm_X11_count_49 rfl rfl rfl ?_
          refine y_ret (r := some (ii (vlv (e + 1) v : Int))) dm_X11_count_53 rfl rfl rfl ?_
          first | (exfalso; omega) | (refine ⟨congrArg (fun z => some (ii z)) ?_, rfl⟩; unfold cntF; repeat (first | rw [if_pos (by omega)] | rw [if_neg (by omega)]))
      · refine me1 (pc' := 30) (L' := [(0, .ref 2), (1, ii what)]) (S' := [.ref 2]) dm_X11_count_29 rfl rfl rfl rfl ?_
        refine me3 (pc' := 33) (S' := [.ref qp]) dm_X11_count_30 (g_get (v := .ref qp) h2 rfl rfl (by decide)) rfl rfl rfl ?_
        refine me3 (pc' := 36) (S' := [ii (vc v : Int)]) dm_X11_count_33 (g_get (v := ii (vc v : Int)) hvq rfl rfl (by omega)) rfl rfl rfl ?_
        refine y_ret (r := some (ii (vc v : Int))) dm_X11_count_36 rfl rfl rfl ?_
        first | (exfalso; omega) | (refine ⟨congrArg (fun z => some (ii z)) ?_, rfl⟩; unfold cntF; repeat (first | rw [if_pos (by omega)] | rw [if_neg (by omega)]))
  · refine me1 (pc' := 5) (L' := [(0, .ref 2), (1, ii what)]) (S' := [.ref 2]) dm_X11_count_4 rfl rfl rfl rfl ?_
    refine me3 (pc' := 8) (S' := [.ref qp]) dm_X11_count_5 (g_get (v := .ref qp) h2 rfl rfl (by decide)) rfl rfl rfl ?_
    refine me3 (pc' := 11) (S' := [ii (vm v : Int)]) dm_X11_count_8 (g_get (v := ii (vm v : Int)) hvq rfl rfl (by omega)) rfl rfl rfl ?_
    refine y_ret (r := some (ii (vm v : Int))) dm_X11_count_11 rfl rfl rfl ?_
    first | (exfalso; omega) | (refine ⟨congrArg (fun z => some (ii z)) ?_, rfl⟩; unfold cntF; repeat (first | rw [if_pos (by omega)] | rw [if_neg (by omega)]))
set_option maxRecDepth 20000 in
theorem pm_X12_told : mj_mmof pg_ms 305 = some ((⟨"ArrayCalculatorModel", "told", "(I)I"⟩, prog_14_method_112_code, 2, (Option.some Jvm.ClassFile.FieldType.int)), 12, false, mj_dec prog_14_method_112_code) := rfl
theorem dm_X12_told_0 : mj_dec prog_14_method_112_code 0 = some (.iload_n 1, 1) := by decide +kernel
theorem dm_X12_told_1 : mj_dec prog_14_method_112_code 1 = some (.tableswitch 51 0 3 #[31, 36, 41, 46], 31) := by decide +kernel
theorem dm_X12_told_32 : mj_dec prog_14_method_112_code 32 = some (.aload_n 0, 1) := by decide +kernel
theorem dm_X12_told_33 : mj_dec prog_14_method_112_code 33 = some (.getfield 181, 3) := by decide +kernel
theorem dm_X12_told_36 : mj_dec prog_14_method_112_code 36 = some (.ireturn, 1) := by decide +kernel
theorem dm_X12_told_37 : mj_dec prog_14_method_112_code 37 = some (.aload_n 0, 1) := by decide +kernel
theorem dm_X12_told_38 : mj_dec prog_14_method_112_code 38 = some (.getfield 22, 3) := by decide +kernel
theorem dm_X12_told_41 : mj_dec prog_14_method_112_code 41 = some (.ireturn, 1) := by decide +kernel
theorem dm_X12_told_42 : mj_dec prog_14_method_112_code 42 = some (.aload_n 0, 1) := by decide +kernel
theorem dm_X12_told_43 : mj_dec prog_14_method_112_code 43 = some (.getfield 193, 3) := by decide +kernel
theorem dm_X12_told_46 : mj_dec prog_14_method_112_code 46 = some (.ireturn, 1) := by decide +kernel
theorem dm_X12_told_47 : mj_dec prog_14_method_112_code 47 = some (.aload_n 0, 1) := by decide +kernel
theorem dm_X12_told_48 : mj_dec prog_14_method_112_code 48 = some (.getfield 27, 3) := by decide +kernel
theorem dm_X12_told_51 : mj_dec prog_14_method_112_code 51 = some (.ireturn, 1) := by decide +kernel
theorem dm_X12_told_52 : mj_dec prog_14_method_112_code 52 = some (.iconst (-1), 1) := by decide +kernel
theorem dm_X12_told_53 : mj_dec prog_14_method_112_code 53 = some (.ireturn, 1) := by decide +kernel
theorem r_told_ {xt : mj_X} {d : Nat} {pre post : mj_H} {s : RS} {what : Int} (hm : pre.length = 102) (hd : 1 ≤ d) (hwh : -2147483648 ≤ what ∧ what ≤ 2147483647) : pgP xt d 305 [.ref 102, ii what] (rS pre post s) (ii (toldF what (s.1 5) (s.1 6) (s.1 7) (s.1 8))) := by
  refine x_enter pm_X12_told (L0 := [(0, .ref 102), (1, ii what)]) rfl (Nat.le_of_ble_eq_true rfl) (by omega) ?_
  refine me1 (pc' := 1) (L' := [(0, .ref 102), (1, ii what)]) (S' := [ii what]) dm_X12_told_0 rfl rfl rfl rfl ?_
  refine y_sw (a := what) (0) (t := 32) (i := .tableswitch 51 0 3 #[31, 36, 41, 46]) (len := 31) dm_X12_told_1 rfl rfl rfl (by omega) (by decide) (fun hb1 => ?_) (fun hb1 => ?_)
  · refine me1 (pc' := 33) (L' := [(0, .ref 102), (1, ii what)]) (S' := [.ref 102]) dm_X12_told_32 rfl rfl rfl rfl ?_
    refine me3 (pc' := 36) (S' := [ii (s.1 5)]) dm_X12_told_33 (q_geti (v := s.1 5) hm rfl (fun m i l => rg_5 m i l) rfl) rfl rfl rfl ?_
    refine y_ret (r := some (ii (s.1 5))) dm_X12_told_36 rfl rfl rfl ?_
    first | (exfalso; omega) | (refine ⟨congrArg (fun z => some (ii z)) ?_, rfl⟩; unfold toldF; repeat (first | rw [if_pos (by omega)] | rw [if_neg (by omega)]))
  refine y_sw (a := what) (1) (t := 37) (i := .tableswitch 51 0 3 #[31, 36, 41, 46]) (len := 31) dm_X12_told_1 rfl rfl rfl (by omega) (by decide) (fun hb2 => ?_) (fun hb2 => ?_)
  · refine me1 (pc' := 38) (L' := [(0, .ref 102), (1, ii what)]) (S' := [.ref 102]) dm_X12_told_37 rfl rfl rfl rfl ?_
    refine me3 (pc' := 41) (S' := [ii (s.1 6)]) dm_X12_told_38 (q_geti (v := s.1 6) hm rfl (fun m i l => rg_6 m i l) rfl) rfl rfl rfl ?_
    refine y_ret (r := some (ii (s.1 6))) dm_X12_told_41 rfl rfl rfl ?_
    first | (exfalso; omega) | (refine ⟨congrArg (fun z => some (ii z)) ?_, rfl⟩; unfold toldF; repeat (first | rw [if_pos (by omega)] | rw [if_neg (by omega)]))
  refine y_sw (a := what) (2) (t := 42) (i := .tableswitch 51 0 3 #[31, 36, 41, 46]) (len := 31) dm_X12_told_1 rfl rfl rfl (by omega) (by decide) (fun hb3 => ?_) (fun hb3 => ?_)
  · refine me1 (pc' := 43) (L' := [(0, .ref 102), (1, ii what)]) (S' := [.ref 102]) dm_X12_told_42 rfl rfl rfl rfl ?_
    refine me3 (pc' := 46) (S' := [ii (s.1 7)]) dm_X12_told_43 (q_geti (v := s.1 7) hm rfl (fun m i l => rg_7 m i l) rfl) rfl rfl rfl ?_
    refine y_ret (r := some (ii (s.1 7))) dm_X12_told_46 rfl rfl rfl ?_
    first | (exfalso; omega) | (refine ⟨congrArg (fun z => some (ii z)) ?_, rfl⟩; unfold toldF; repeat (first | rw [if_pos (by omega)] | rw [if_neg (by omega)]))
  refine y_sw (a := what) (3) (t := 47) (i := .tableswitch 51 0 3 #[31, 36, 41, 46]) (len := 31) dm_X12_told_1 rfl rfl rfl (by omega) (by decide) (fun hb4 => ?_) (fun hb4 => ?_)
  · refine me1 (pc' := 48) (L' := [(0, .ref 102), (1, ii what)]) (S' := [.ref 102]) dm_X12_told_47 rfl rfl rfl rfl ?_
    refine me3 (pc' := 51) (S' := [ii (s.1 8)]) dm_X12_told_48 (q_geti (v := s.1 8) hm rfl (fun m i l => rg_8 m i l) rfl) rfl rfl rfl ?_
    refine y_ret (r := some (ii (s.1 8))) dm_X12_told_51 rfl rfl rfl ?_
    first | (exfalso; omega) | (refine ⟨congrArg (fun z => some (ii z)) ?_, rfl⟩; unfold toldF; repeat (first | rw [if_pos (by omega)] | rw [if_neg (by omega)]))
  refine me2 (pc' := 52) (S' := []) dm_X12_told_1 (sw_tdef [Int32.ofInt 0, Int32.ofInt 1, Int32.ofInt 2, Int32.ofInt 3] rfl rfl rfl ⟨y_no (by omega) (by decide) hb1, y_no (by omega) (by decide) hb2, y_no (by omega) (by decide) hb3, y_no (by omega) (by decide) hb4, trivial⟩) rfl rfl ?_
  refine me0 (pc' := 53) (S' := [ii (-1)]) dm_X12_told_52 rfl rfl rfl rfl ?_
  refine y_ret (r := some (ii (-1))) dm_X12_told_53 rfl rfl rfl ?_
  first | (exfalso; omega) | (refine ⟨congrArg (fun z => some (ii z)) ?_, rfl⟩; unfold toldF; repeat (first | rw [if_pos (by omega)] | rw [if_neg (by omega)]))
set_option maxRecDepth 20000 in
theorem pm_X12_names : mj_mmof pg_ms 314 = some ((⟨"ArrayCalculatorModel", "names", "(I)I"⟩, prog_14_method_121_code, 2, (Option.some Jvm.ClassFile.FieldType.int)), 12, false, mj_dec prog_14_method_121_code) := rfl
theorem dm_X12_names_0 : mj_dec prog_14_method_121_code 0 = some (.iload_n 1, 1) := by decide +kernel
theorem dm_X12_names_1 : mj_dec prog_14_method_121_code 1 = some (.ifCond .ne 10, 3) := by decide +kernel
theorem dm_X12_names_4 : mj_dec prog_14_method_121_code 4 = some (.aload_n 0, 1) := by decide +kernel
theorem dm_X12_names_5 : mj_dec prog_14_method_121_code 5 = some (.getfield 357, 3) := by decide +kernel
theorem dm_X12_names_8 : mj_dec prog_14_method_121_code 8 = some (.goto 16, 3) := by decide +kernel
theorem dm_X12_names_11 : mj_dec prog_14_method_121_code 11 = some (.iload_n 1, 1) := by decide +kernel
theorem dm_X12_names_12 : mj_dec prog_14_method_121_code 12 = some (.iconst 1, 1) := by decide +kernel
theorem dm_X12_names_13 : mj_dec prog_14_method_121_code 13 = some (.if_icmp .ne 10, 3) := by decide +kernel
theorem dm_X12_names_16 : mj_dec prog_14_method_121_code 16 = some (.aload_n 0, 1) := by decide +kernel
theorem dm_X12_names_17 : mj_dec prog_14_method_121_code 17 = some (.getfield 360, 3) := by decide +kernel
theorem dm_X12_names_20 : mj_dec prog_14_method_121_code 20 = some (.goto 4, 3) := by decide +kernel
theorem dm_X12_names_23 : mj_dec prog_14_method_121_code 23 = some (.iconst (-1), 1) := by decide +kernel
theorem dm_X12_names_24 : mj_dec prog_14_method_121_code 24 = some (.ireturn, 1) := by decide +kernel
theorem r_names_ {xt : mj_X} {d : Nat} {pre post : mj_H} {s : RS} {what : Int} (hm : pre.length = 102) (hd : 1 ≤ d) (hwh : -2147483648 ≤ what ∧ what ≤ 2147483647) {n m : Nat} (h23 : s.1 23 = (n : Int)) (h24 : s.1 24 = (m : Int)) : pgP xt d 314 [.ref 102, ii what] (rS pre post s) (ii (nmsF what n m)) := by
  refine x_enter pm_X12_names (L0 := [(0, .ref 102), (1, ii what)]) rfl (Nat.le_of_ble_eq_true rfl) (by omega) ?_
  refine me1 (pc' := 1) (L' := [(0, .ref 102), (1, ii what)]) (S' := [ii what]) dm_X12_names_0 rfl rfl rfl rfl ?_
  refine y_1ne (a := what) (t := 11) (pc' := 4) dm_X12_names_1 rfl rfl (by omega) (fun hb1 => ?_) (fun hb1 => ?_)
  · refine me1 (pc' := 12) (L' := [(0, .ref 102), (1, ii what)]) (S' := [ii what]) dm_X12_names_11 rfl rfl rfl rfl ?_
    refine me0 (pc' := 13) (S' := [ii 1, ii what]) dm_X12_names_12 rfl rfl rfl rfl ?_
    refine y_2ne (a := what) (b := 1) (t := 23) (pc' := 16) dm_X12_names_13 rfl rfl (by omega) (fun hb2 => ?_) (fun hb2 => ?_)
    · refine me0 (pc' := 24) (S' := [ii (-1)]) dm_X12_names_23 rfl rfl rfl rfl ?_
      refine y_ret (r := some (ii (-1))) dm_X12_names_24 rfl rfl rfl ?_
      refine ⟨congrArg (fun z => some (ii z)) ?_, rfl⟩
      unfold nmsF
      repeat (first | rw [if_pos (by omega)] | rw [if_neg (by omega)])
      try assumption
    · refine me1 (pc' := 17) (L' := [(0, .ref 102), (1, ii what)]) (S' := [.ref 102]) dm_X12_names_16 rfl rfl rfl rfl ?_
      refine me3 (pc' := 20) (S' := [ii (s.1 24)]) dm_X12_names_17 (q_geti (v := s.1 24) hm rfl (fun m i l => rg_24 m i l) rfl) rfl rfl rfl ?_
      refine me2 (pc' := 24) (S' := [ii (s.1 24)]) dm_X12_names_20 rfl rfl rfl ?_
      refine y_ret (r := some (ii (s.1 24))) dm_X12_names_24 rfl rfl rfl ?_
      refine ⟨congrArg (fun z => some (ii z)) ?_, rfl⟩
      unfold nmsF
      repeat (first | rw [if_pos (by omega)] | rw [if_neg (by omega)])
      try assumption
  · refine me1 (pc' := 5) (L' := [(0, .ref 102), (1, ii what)]) (S' := [.ref 102]) dm_X12_names_4 rfl rfl rfl rfl ?_
    refine me3 (pc' := 8) (S' := [ii (s.1 23)]) dm_X12_names_5 (q_geti (v := s.1 23) hm rfl (fun m i l => rg_23 m i l) rfl) rfl rfl rfl ?_
    refine me2 (pc' := 24) (S' := [ii (s.1 23)]) dm_X12_names_8 rfl rfl rfl ?_
    refine y_ret (r := some (ii (s.1 23))) dm_X12_names_24 rfl rfl rfl ?_
    refine ⟨congrArg (fun z => some (ii z)) ?_, rfl⟩
    unfold nmsF
    repeat (first | rw [if_pos (by omega)] | rw [if_neg (by omega)])
    try assumption
