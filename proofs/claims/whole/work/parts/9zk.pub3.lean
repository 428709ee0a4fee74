set_option maxRecDepth 20000 in
theorem pm_X7_wrongPlace : mj_mmof pg_ms 58 = some ((⟨"ArrayCalculator$Reader", "wrongPlace", "()I"⟩, prog_9_method_2_code, 1, (Option.some Jvm.ClassFile.FieldType.int)), 7, false, mj_dec prog_9_method_2_code) := rfl
theorem dm_X7_wrongPlace_0 : mj_dec prog_9_method_2_code 0 = some (.aload_n 0, 1) := by decide +kernel
theorem dm_X7_wrongPlace_1 : mj_dec prog_9_method_2_code 1 = some (.getfield 24, 3) := by decide +kernel
theorem dm_X7_wrongPlace_4 : mj_dec prog_9_method_2_code 4 = some (.ireturn, 1) := by decide +kernel
theorem d_wrongPlace {xt : mj_X} {d : Nat} {h : mj_H} {at_ wr ls : Int} {nm : Int64} {st tl : Value} (hd : 1 ≤ d) (h13 : h[13]? = some (rdC at_ wr ls nm st tl)) : pgP xt d 58 [.ref 13] h (ii wr) := by
  refine x_enter pm_X7_wrongPlace (L0 := [(0, .ref 13)]) rfl (Nat.le_of_ble_eq_true rfl) (by omega) ?_
  refine me1 (pc' := 1) (L' := [(0, .ref 13)]) (S' := [.ref 13]) dm_X7_wrongPlace_0 rfl rfl rfl rfl ?_
  refine me3 (pc' := 4) (S' := [ii wr]) dm_X7_wrongPlace_1 (g_get (v := ii wr) h13 rfl rfl (by decide)) rfl rfl rfl ?_
  refine y_ret (r := some (ii wr)) dm_X7_wrongPlace_4 rfl rfl rfl ?_
  exact ⟨rfl, rfl⟩
set_option maxRecDepth 20000 in
theorem pm_X7_sort : mj_mmof pg_ms 61 = some ((⟨"ArrayCalculator$Reader", "sort", "()I"⟩, prog_9_method_3_code, 1, (Option.some Jvm.ClassFile.FieldType.int)), 7, false, mj_dec prog_9_method_3_code) := rfl
theorem dm_X7_sort_0 : mj_dec prog_9_method_3_code 0 = some (.aload_n 0, 1) := by decide +kernel
theorem dm_X7_sort_1 : mj_dec prog_9_method_3_code 1 = some (.getfield 28, 3) := by decide +kernel
theorem dm_X7_sort_4 : mj_dec prog_9_method_3_code 4 = some (.ireturn, 1) := by decide +kernel
theorem d_sort {xt : mj_X} {d : Nat} {h : mj_H} {at_ wr ls : Int} {nm : Int64} {st tl : Value} (hd : 1 ≤ d) (h13 : h[13]? = some (rdC at_ wr ls nm st tl)) : pgP xt d 61 [.ref 13] h (ii ls) := by
  refine x_enter pm_X7_sort (L0 := [(0, .ref 13)]) rfl (Nat.le_of_ble_eq_true rfl) (by omega) ?_
  refine me1 (pc' := 1) (L' := [(0, .ref 13)]) (S' := [.ref 13]) dm_X7_sort_0 rfl rfl rfl rfl ?_
  refine me3 (pc' := 4) (S' := [ii ls]) dm_X7_sort_1 (g_get (v := ii ls) h13 rfl rfl (by decide)) rfl rfl rfl ?_
  refine y_ret (r := some (ii ls)) dm_X7_sort_4 rfl rfl rfl ?_
  exact ⟨rfl, rfl⟩
set_option maxRecDepth 20000 in
theorem pm_X7_named : mj_mmof pg_ms 63 = some ((⟨"ArrayCalculator$Reader", "named", "()J"⟩, prog_9_method_4_code, 1, (Option.some Jvm.ClassFile.FieldType.long)), 7, false, mj_dec prog_9_method_4_code) := rfl
theorem dm_X7_named_0 : mj_dec prog_9_method_4_code 0 = some (.aload_n 0, 1) := by decide +kernel
theorem dm_X7_named_1 : mj_dec prog_9_method_4_code 1 = some (.getfield 31, 3) := by decide +kernel
theorem dm_X7_named_4 : mj_dec prog_9_method_4_code 4 = some (.lreturn, 1) := by decide +kernel
theorem d_named {xt : mj_X} {d : Nat} {h : mj_H} {at_ wr ls : Int} {nm : Int64} {st tl : Value} (hd : 1 ≤ d) (h13 : h[13]? = some (rdC at_ wr ls nm st tl)) : pgP xt d 63 [.ref 13] h (.long nm) := by
  refine x_enter pm_X7_named (L0 := [(0, .ref 13)]) rfl (Nat.le_of_ble_eq_true rfl) (by omega) ?_
  refine me1 (pc' := 1) (L' := [(0, .ref 13)]) (S' := [.ref 13]) dm_X7_named_0 rfl rfl rfl rfl ?_
  refine me3 (pc' := 4) (S' := [.long nm]) dm_X7_named_1 (g_get (v := .long nm) h13 rfl rfl (by decide)) rfl rfl rfl ?_
  refine y_ret (r := some (.long nm)) dm_X7_named_4 rfl rfl rfl ?_
  exact ⟨rfl, rfl⟩
set_option maxRecDepth 20000 in
theorem pm_X7_first : mj_mmof pg_ms 67 = some ((⟨"ArrayCalculator$Reader", "first", "()LArrayCalculator$Op;"⟩, prog_9_method_5_code, 1, (Option.some (Jvm.ClassFile.FieldType.object "ArrayCalculator$Op"))), 7, false, mj_dec prog_9_method_5_code) := rfl
theorem dm_X7_first_0 : mj_dec prog_9_method_5_code 0 = some (.aload_n 0, 1) := by decide +kernel
theorem dm_X7_first_1 : mj_dec prog_9_method_5_code 1 = some (.getfield 35, 3) := by decide +kernel
theorem dm_X7_first_4 : mj_dec prog_9_method_5_code 4 = some (.areturn, 1) := by decide +kernel
theorem d_first {xt : mj_X} {d op : Nat} {h : mj_H} {at_ wr ls : Int} {nm : Int64} {tl : Value} (hd : 1 ≤ d) (h13 : h[13]? = some (rdC at_ wr ls nm (.ref op) tl)) : pgP xt d 67 [.ref 13] h (.ref op) := by
  refine x_enter pm_X7_first (L0 := [(0, .ref 13)]) rfl (Nat.le_of_ble_eq_true rfl) (by omega) ?_
  refine me1 (pc' := 1) (L' := [(0, .ref 13)]) (S' := [.ref 13]) dm_X7_first_0 rfl rfl rfl rfl ?_
  refine me3 (pc' := 4) (S' := [.ref op]) dm_X7_first_1 (g_get (v := .ref op) h13 rfl rfl (by decide)) rfl rfl rfl ?_
  refine y_ret (r := some (.ref op)) dm_X7_first_4 rfl rfl rfl ?_
  exact ⟨rfl, rfl⟩
set_option maxRecDepth 20000 in
theorem pm_X11_endLine : mj_mmof pg_ms 59 = some ((⟨"ArrayCalculator", "endLine", "(II)V"⟩, prog_1_method_5_code, 3, (Option.none : Option Jvm.ClassFile.FieldType)), 11, false, mj_dec prog_1_method_5_code) := rfl
theorem dm_X11_endLine_0 : mj_dec prog_1_method_5_code 0 = some (.aload_n 0, 1) := by decide +kernel
theorem dm_X11_endLine_1 : mj_dec prog_1_method_5_code 1 = some (.iload_n 1, 1) := by decide +kernel
theorem dm_X11_endLine_2 : mj_dec prog_1_method_5_code 2 = some (.putfield 134, 3) := by decide +kernel
theorem dm_X11_endLine_5 : mj_dec prog_1_method_5_code 5 = some (.aload_n 0, 1) := by decide +kernel
theorem dm_X11_endLine_6 : mj_dec prog_1_method_5_code 6 = some (.iload_n 2, 1) := by decide +kernel
theorem dm_X11_endLine_7 : mj_dec prog_1_method_5_code 7 = some (.putfield 73, 3) := by decide +kernel
theorem dm_X11_endLine_10 : mj_dec prog_1_method_5_code 10 = some (.return_, 1) := by decide +kernel
theorem a_endLine {xt : mj_X} {d qr qp : Nat} {h H : mj_H} {fd le lp lw x y : Int} (hd : 1 ≤ d) (h2 : h[2]? = some (acC fd qr qp le lp lw)) (hH : h.set 2 (acC fd qr qp x y lw) = H) : pgN xt d 59 [.ref 2, ii x, ii y] h (fun h' => h' = H) := by
  refine x_enter pm_X11_endLine (L0 := [(0, .ref 2), (1, ii x), (2, ii y)]) rfl (Nat.le_of_ble_eq_true rfl) (by omega) ?_
  refine me1 (pc' := 1) (L' := [(0, .ref 2), (1, ii x), (2, ii y)]) (S' := [.ref 2]) dm_X11_endLine_0 rfl rfl rfl rfl ?_
  refine me1 (pc' := 2) (L' := [(0, .ref 2), (1, ii x), (2, ii y)]) (S' := [ii x, .ref 2]) dm_X11_endLine_1 rfl rfl rfl rfl ?_
  refine me3 (pc' := 5) (S' := []) (h1 := (h).set 2 (cO 11 [.ref 3, ii fd, .ref 4, .ref 9, .ref 13, .ref 15, .ref 16, .ref 98, .ref qr, .ref qp, ii x, ii lp, ii lw])) dm_X11_endLine_2 (g_put (fs' := [.ref 3, ii fd, .ref 4, .ref 9, .ref 13, .ref 15, .ref 16, .ref 98, .ref qr, .ref qp, ii x, ii lp, ii lw]) h2 rfl rfl rfl (by simp) rfl (by decide) (fun z => by cases z) (by decide)) rfl rfl rfl ?_
  refine me1 (pc' := 6) (L' := [(0, .ref 2), (1, ii x), (2, ii y)]) (S' := [.ref 2]) dm_X11_endLine_5 rfl rfl rfl rfl ?_
  refine me1 (pc' := 7) (L' := [(0, .ref 2), (1, ii x), (2, ii y)]) (S' := [ii y, .ref 2]) dm_X11_endLine_6 rfl rfl rfl rfl ?_
  refine me3 (pc' := 10) (S' := []) (h1 := (h).set 2 (cO 11 [.ref 3, ii fd, .ref 4, .ref 9, .ref 13, .ref 15, .ref 16, .ref 98, .ref qr, .ref qp, ii x, ii y, ii lw])) dm_X11_endLine_7 (g_put (fs' := [.ref 3, ii fd, .ref 4, .ref 9, .ref 13, .ref 15, .ref 16, .ref 98, .ref qr, .ref qp, ii x, ii y, ii lw]) (hl_set (hl_lt h2)) rfl (by rw [List.set_set]) rfl (by simp) rfl (by decide) (fun z => by cases z) (by decide)) rfl rfl rfl ?_
  refine y_ret (r := none) dm_X11_endLine_10 rfl rfl rfl ?_
  exact ⟨rfl, hH⟩
