set_option maxRecDepth 20000 in
theorem pm_X11_line : mj_mmof pg_ms 15 = some ((⟨"ArrayCalculator", "line", "(I)I"⟩, prog_1_method_4_code, 3, (Option.some Jvm.ClassFile.FieldType.int)), 11, false, mj_dec prog_1_method_4_code) := rfl
theorem dm_X11_line_0 : mj_dec prog_1_method_4_code 0 = some (.iload_n 1, 1) := by decide +kernel
theorem dm_X11_line_1 : mj_dec prog_1_method_4_code 1 = some (.ifCond .lt 11, 3) := by decide +kernel
theorem dm_X11_line_4 : mj_dec prog_1_method_4_code 4 = some (.iload_n 1, 1) := by decide +kernel
theorem dm_X11_line_5 : mj_dec prog_1_method_4_code 5 = some (.aload_n 0, 1) := by decide +kernel
theorem dm_X11_line_6 : mj_dec prog_1_method_4_code 6 = some (.getfield 77, 3) := by decide +kernel
theorem dm_X11_line_9 : mj_dec prog_1_method_4_code 9 = some (.if_icmp .le 6, 3) := by decide +kernel
theorem dm_X11_line_12 : mj_dec prog_1_method_4_code 12 = some (.bipush (-100), 2) := by decide +kernel
theorem dm_X11_line_14 : mj_dec prog_1_method_4_code 14 = some (.ireturn, 1) := by decide +kernel
theorem cl_no {xt : mj_X} {d qr qp : Nat} {h : mj_H} {fd le lp lw : Int} {Q : Value → mj_H → Prop} (hd : 10 ≤ d) (h2 : h[2]? = some (acC fd qr qp le lp lw)) {x : Int} (hx : -2147483648 ≤ x ∧ x ≤ 2147483647) (hfd : 0 ≤ fd ∧ fd ≤ 300) (hno : x < 0 ∨ fd < x) (k : Q (ii (-100)) h) : pgV xt d 15 [.ref 2, ii x] h Q := by
  refine x_enter pm_X11_line (L0 := [(0, .ref 2), (1, ii x)]) rfl (Nat.le_of_ble_eq_true rfl) (by omega) ?_
  refine me1 (pc' := 1) (L' := [(0, .ref 2), (1, ii x)]) (S' := [ii x]) dm_X11_line_0 rfl rfl rfl rfl ?_
  refine y_1lt (a := x) (t := 12) (pc' := 4) dm_X11_line_1 rfl rfl (by omega) (fun hb1 => ?_) (fun hb1 => ?_)
  · refine me0 (pc' := 14) (S' := [ii (-100)]) dm_X11_line_12 rfl rfl rfl rfl ?_
    refine y_ret (r := some (ii (-100))) dm_X11_line_14 rfl rfl rfl ?_
    exact ⟨_, rfl, k⟩
  · refine me1 (pc' := 5) (L' := [(0, .ref 2), (1, ii x)]) (S' := [ii x]) dm_X11_line_4 rfl rfl rfl rfl ?_
    refine me1 (pc' := 6) (L' := [(0, .ref 2), (1, ii x)]) (S' := [.ref 2, ii x]) dm_X11_line_5 rfl rfl rfl rfl ?_
    refine me3 (pc' := 9) (S' := [ii fd, ii x]) dm_X11_line_6 (g_get (v := ii fd) h2 rfl rfl (by decide)) rfl rfl rfl ?_
    refine y_2le (a := x) (b := fd) (t := 15) (pc' := 12) dm_X11_line_9 rfl rfl (by omega) (fun hb2 => ?_) (fun hb2 => ?_)
    · exfalso; omega
    · refine me0 (pc' := 14) (S' := [ii (-100)]) dm_X11_line_12 rfl rfl rfl rfl ?_
      refine y_ret (r := some (ii (-100))) dm_X11_line_14 rfl rfl rfl ?_
      exact ⟨_, rfl, k⟩
theorem dm_X11_line_15 : mj_dec prog_1_method_4_code 15 = some (.aload_n 0, 1) := by decide +kernel
theorem dm_X11_line_16 : mj_dec prog_1_method_4_code 16 = some (.iconst 0, 1) := by decide +kernel
theorem dm_X11_line_17 : mj_dec prog_1_method_4_code 17 = some (.putfield 77, 3) := by decide +kernel
theorem dm_X11_line_20 : mj_dec prog_1_method_4_code 20 = some (.aload_n 0, 1) := by decide +kernel
theorem dm_X11_line_21 : mj_dec prog_1_method_4_code 21 = some (.getfield 47, 3) := by decide +kernel
theorem dm_X11_line_24 : mj_dec prog_1_method_4_code 24 = some (.invokevirtual 83, 3) := by decide +kernel
theorem dm_X11_line_27 : mj_dec prog_1_method_4_code 27 = some (.istore_n 2, 1) := by decide +kernel
theorem dm_X11_line_28 : mj_dec prog_1_method_4_code 28 = some (.aload_n 0, 1) := by decide +kernel
theorem dm_X11_line_29 : mj_dec prog_1_method_4_code 29 = some (.getfield 25, 3) := by decide +kernel
theorem dm_X11_line_32 : mj_dec prog_1_method_4_code 32 = some (.iload_n 1, 1) := by decide +kernel
theorem dm_X11_line_33 : mj_dec prog_1_method_4_code 33 = some (.invokevirtual 87, 3) := by decide +kernel
theorem dm_X11_line_36 : mj_dec prog_1_method_4_code 36 = some (.aload_n 0, 1) := by decide +kernel
theorem dm_X11_line_37 : mj_dec prog_1_method_4_code 37 = some (.getfield 34, 3) := by decide +kernel
theorem dm_X11_line_40 : mj_dec prog_1_method_4_code 40 = some (.invokevirtual 90, 3) := by decide +kernel
theorem dm_X11_line_43 : mj_dec prog_1_method_4_code 43 = some (.ifCond .ne 18, 3) := by decide +kernel
theorem dm_X11_line_46 : mj_dec prog_1_method_4_code 46 = some (.aload_n 0, 1) := by decide +kernel
theorem dm_X11_line_47 : mj_dec prog_1_method_4_code 47 = some (.iconst 1, 1) := by decide +kernel
theorem dm_X11_line_48 : mj_dec prog_1_method_4_code 48 = some (.aload_n 0, 1) := by decide +kernel
theorem dm_X11_line_49 : mj_dec prog_1_method_4_code 49 = some (.getfield 34, 3) := by decide +kernel
theorem dm_X11_line_52 : mj_dec prog_1_method_4_code 52 = some (.invokevirtual 94, 3) := by decide +kernel
theorem dm_X11_line_55 : mj_dec prog_1_method_4_code 55 = some (.invokevirtual 97, 3) := by decide +kernel
theorem dm_X11_line_58 : mj_dec prog_1_method_4_code 58 = some (.goto 86, 3) := by decide +kernel
theorem dm_X11_line_144 : mj_dec prog_1_method_4_code 144 = some (.aload_n 0, 1) := by decide +kernel
theorem dm_X11_line_145 : mj_dec prog_1_method_4_code 145 = some (.iload_n 2, 1) := by decide +kernel
theorem dm_X11_line_146 : mj_dec prog_1_method_4_code 146 = some (.aload_n 0, 1) := by decide +kernel
theorem dm_X11_line_147 : mj_dec prog_1_method_4_code 147 = some (.getfield 47, 3) := by decide +kernel
theorem dm_X11_line_150 : mj_dec prog_1_method_4_code 150 = some (.invokevirtual 83, 3) := by decide +kernel
theorem dm_X11_line_153 : mj_dec prog_1_method_4_code 153 = some (.isub, 1) := by decide +kernel
theorem dm_X11_line_154 : mj_dec prog_1_method_4_code 154 = some (.putfield 131, 3) := by decide +kernel
theorem dm_X11_line_157 : mj_dec prog_1_method_4_code 157 = some (.aload_n 0, 1) := by decide +kernel
theorem dm_X11_line_158 : mj_dec prog_1_method_4_code 158 = some (.aload_n 0, 1) := by decide +kernel
theorem dm_X11_line_159 : mj_dec prog_1_method_4_code 159 = some (.getfield 66, 3) := by decide +kernel
theorem dm_X11_line_162 : mj_dec prog_1_method_4_code 162 = some (.putfield 70, 3) := by decide +kernel
theorem dm_X11_line_165 : mj_dec prog_1_method_4_code 165 = some (.aload_n 0, 1) := by decide +kernel
theorem dm_X11_line_166 : mj_dec prog_1_method_4_code 166 = some (.getfield 134, 3) := by decide +kernel
theorem dm_X11_line_169 : mj_dec prog_1_method_4_code 169 = some (.ineg, 1) := by decide +kernel
theorem dm_X11_line_170 : mj_dec prog_1_method_4_code 170 = some (.ireturn, 1) := by decide +kernel
theorem cl_bad {xt : mj_X} {d qr qp : Nat} {h : mj_H} {fd le lp lw : Int} {Q : Value → mj_H → Prop} (hd : 10 ≤ d) (h2 : h[2]? = some (acC fd qr qp le lp lw)) {tp dp ca ou wk er pl lv : Int} {nw vx vy dg lf rt : Value} (h16 : h[16]? = some (mcC tp dp ca ou wk er pl nw vx vy dg lv lf rt)) {t9 : List Value} (h9 : h[9]? = some (cO 8 t9)) {ln : Nat} (hfd : 0 ≤ fd ∧ fd ≤ 300) (hln : (ln : Int) ≤ fd) {Q1 : mj_H → Prop} (hsp : pgN xt (d - 1) 17 [.ref 9, ii (ln : Int)] (h.set 2 (acC 0 qr qp le lp lw)) Q1) (hX1 : ∀ h1, Q1 h1 → h1[2]? = some (acC 0 qr qp le lp lw) ∧ ∃ c, h1[13]? = some (cO 7 c)) {Q3 : mj_H → Prop} (hrd : ∀ h1, Q1 h1 → pgV xt (d - 1) 35 [.ref 13] h1 (fun x h3 => x = ii 0 ∧ Q3 h3)) (hX3 : ∀ h3, Q3 h3 → h3[2]? = some (acC 0 qr qp le lp lw) ∧ (∃ c, h3[9]? = some (cO 8 c)) ∧ (∃ c, h3[4]? = some (cO 2 c)) ∧ ∃ (at_ wr ls : Int) (nm : Int64) (st tl : Value), h3[13]? = some (rdC at_ wr ls nm st tl) ∧ ∃ (tp2 dp2 ca2 ou2 wk2 er2 pl2 lv2 : Int) (nw2 vx2 vy2 dg2 lf2 rt2 : Value), h3[16]? = some (mcC tp2 dp2 ca2 ou2 wk2 er2 pl2 nw2 vx2 vy2 dg2 lv2 lf2 rt2)) (k : ∀ h3 (at_ wr ls : Int) (nm : Int64) (st tl : Value) (tp2 dp2 ca2 ou2 wk2 er2 pl2 lv2 : Int) (nw2 vx2 vy2 dg2 lf2 rt2 : Value), Q3 h3 → h3[13]? = some (rdC at_ wr ls nm st tl) → h3[16]? = some (mcC tp2 dp2 ca2 ou2 wk2 er2 pl2 nw2 vx2 vy2 dg2 lv2 lf2 rt2) → Q (ii (-1)) (h3.set 2 (acC 0 qr qr 1 wr (wk - wk2)))) : pgV xt d 15 [.ref 2, ii (ln : Int)] h Q := by
  refine x_enter pm_X11_line (L0 := [(0, .ref 2), (1, ii (ln : Int))]) rfl (Nat.le_of_ble_eq_true rfl) (by omega) ?_
  refine me1 (pc' := 1) (L' := [(0, .ref 2), (1, ii (ln : Int))]) (S' := [ii (ln : Int)]) dm_X11_line_0 rfl rfl rfl rfl ?_
  refine y_1lt (a := (ln : Int)) (t := 12) (pc' := 4) dm_X11_line_1 rfl rfl (by omega) (fun hb1 => ?_) (fun hb1 => ?_)
  · exfalso; omega
  · refine me1 (pc' := 5) (L' := [(0, .ref 2), (1, ii (ln : Int))]) (S' := [ii (ln : Int)]) dm_X11_line_4 rfl rfl rfl rfl ?_
    refine me1 (pc' := 6) (L' := [(0, .ref 2), (1, ii (ln : Int))]) (S' := [.ref 2, ii (ln : Int)]) dm_X11_line_5 rfl rfl rfl rfl ?_
    refine me3 (pc' := 9) (S' := [ii fd, ii (ln : Int)]) dm_X11_line_6 (g_get (v := ii fd) h2 rfl rfl (by decide)) rfl rfl rfl ?_
    refine y_2le (a := (ln : Int)) (b := fd) (t := 15) (pc' := 12) dm_X11_line_9 rfl rfl (by omega) (fun hb2 => ?_) (fun hb2 => ?_)
    · refine me1 (pc' := 16) (L' := [(0, .ref 2), (1, ii (ln : Int))]) (S' := [.ref 2]) dm_X11_line_15 rfl rfl rfl rfl ?_
      refine me0 (pc' := 17) (S' := [ii 0, .ref 2]) dm_X11_line_16 rfl rfl rfl rfl ?_
      refine me3 (pc' := 20) (S' := []) (h1 := (h).set 2 (cO 11 [.ref 3, ii 0, .ref 4, .ref 9, .ref 13, .ref 15, .ref 16, .ref 98, .ref qr, .ref qp, ii le, ii lp, ii lw])) dm_X11_line_17 (g_put (fs' := [.ref 3, ii 0, .ref 4, .ref 9, .ref 13, .ref 15, .ref 16, .ref 98, .ref qr, .ref qp, ii le, ii lp, ii lw]) h2 rfl rfl rfl (by simp) rfl (by decide) (fun z => by cases z) (by decide)) rfl rfl rfl ?_
      refine me1 (pc' := 21) (L' := [(0, .ref 2), (1, ii (ln : Int))]) (S' := [.ref 2]) dm_X11_line_20 rfl rfl rfl rfl ?_
      refine me3 (pc' := 24) (S' := [.ref 16]) dm_X11_line_21 (g_get (v := .ref 16) (hl_set (hl_lt h2)) rfl rfl (by decide)) rfl rfl rfl ?_
      refine x_cp (pc' := 27) (v := ii wk) (rest := []) dm_X11_line_24 rfl (g_inv (As := []) (S := []) (hl_ne (by decide) h16) rfl rfl rfl (by decide)) rfl rfl rfl (m_workLeft (by omega) (hl_ne (by decide) h16)) ?_
      refine me1 (pc' := 28) (L' := [(2, ii wk), (0, .ref 2), (1, ii (ln : Int))]) (S' := []) dm_X11_line_27 rfl rfl rfl rfl ?_
      refine me1 (pc' := 29) (L' := [(2, ii wk), (0, .ref 2), (1, ii (ln : Int))]) (S' := [.ref 2]) dm_X11_line_28 rfl rfl rfl rfl ?_
      refine me3 (pc' := 32) (S' := [.ref 9]) dm_X11_line_29 (g_get (v := .ref 9) (hl_set (hl_lt h2)) rfl rfl (by decide)) rfl rfl rfl ?_
      refine me1 (pc' := 33) (L' := [(2, ii wk), (0, .ref 2), (1, ii (ln : Int))]) (S' := [ii (ln : Int), .ref 9]) dm_X11_line_32 rfl rfl rfl rfl ?_
      refine x_cn (pc' := 36) (rest := []) dm_X11_line_33 rfl (g_inv (As := [ii (ln : Int)]) (S := []) (hl_ne (by decide) h9) rfl rfl rfl (by decide)) rfl rfl rfl (hsp) ?_
      rintro h1 hQ1
      obtain ⟨a2, c13, a13⟩ := hX1 h1 hQ1
      refine me1 (pc' := 37) (L' := [(2, ii wk), (0, .ref 2), (1, ii (ln : Int))]) (S' := [.ref 2]) dm_X11_line_36 rfl rfl rfl rfl ?_
      refine me3 (pc' := 40) (S' := [.ref 13]) dm_X11_line_37 (g_get (v := .ref 13) a2 rfl rfl (by decide)) rfl rfl rfl ?_
      refine x_cv (pc' := 43) (rest := []) dm_X11_line_40 rfl (g_inv (As := []) (S := []) a13 rfl rfl rfl (by decide)) rfl rfl rfl (hrd h1 hQ1) ?_
      rintro _ h3 ⟨rfl, hQ3⟩
      obtain ⟨b2, ⟨c9, b9⟩, ⟨c4, b4⟩, at_, wr, ls, nm, st, tl, b13, tp2, dp2, ca2, ou2, wk2, er2, pl2, lv2, nw2, vx2, vy2, dg2, lf2, rt2, b16⟩ := hX3 h3 hQ3
      refine me_1f (pc' := 46) dm_X11_line_43 rfl (by decide) rfl ?_
      refine me1 (pc' := 47) (L' := [(2, ii wk), (0, .ref 2), (1, ii (ln : Int))]) (S' := [.ref 2]) dm_X11_line_46 rfl rfl rfl rfl ?_
      refine me0 (pc' := 48) (S' := [ii 1, .ref 2]) dm_X11_line_47 rfl rfl rfl rfl ?_
      refine me1 (pc' := 49) (L' := [(2, ii wk), (0, .ref 2), (1, ii (ln : Int))]) (S' := [.ref 2, ii 1, .ref 2]) dm_X11_line_48 rfl rfl rfl rfl ?_
      refine me3 (pc' := 52) (S' := [.ref 13, ii 1, .ref 2]) dm_X11_line_49 (g_get (v := .ref 13) b2 rfl rfl (by decide)) rfl rfl rfl ?_
      refine x_cp (pc' := 55) (v := ii wr) (rest := [ii 1, .ref 2]) dm_X11_line_52 rfl (g_inv (As := []) (S := [ii 1, .ref 2]) b13 rfl rfl rfl (by decide)) rfl rfl rfl (d_wrongPlace (by omega) b13) ?_
      refine x_cn (pc' := 58) (rest := []) dm_X11_line_55 rfl (g_inv (As := [ii 1, ii wr]) (S := []) b2 rfl rfl rfl (by decide)) rfl rfl rfl (a_endLine (by omega) b2 (H := (h3).set 2 (cO 11 [.ref 3, ii 0, .ref 4, .ref 9, .ref 13, .ref 15, .ref 16, .ref 98, .ref qr, .ref qp, ii 1, ii wr, ii lw])) rfl) ?_
      rintro _ rfl
      refine me2 (pc' := 144) (S' := []) dm_X11_line_58 rfl rfl rfl ?_
      refine me1 (pc' := 145) (L' := [(2, ii wk), (0, .ref 2), (1, ii (ln : Int))]) (S' := [.ref 2]) dm_X11_line_144 rfl rfl rfl rfl ?_
      refine me1 (pc' := 146) (L' := [(2, ii wk), (0, .ref 2), (1, ii (ln : Int))]) (S' := [ii wk, .ref 2]) dm_X11_line_145 rfl rfl rfl rfl ?_
      refine me1 (pc' := 147) (L' := [(2, ii wk), (0, .ref 2), (1, ii (ln : Int))]) (S' := [.ref 2, ii wk, .ref 2]) dm_X11_line_146 rfl rfl rfl rfl ?_
      refine me3 (pc' := 150) (S' := [.ref 16, ii wk, .ref 2]) dm_X11_line_147 (g_get (v := .ref 16) (hl_set (hl_lt b2)) rfl rfl (by decide)) rfl rfl rfl ?_
      refine x_cp (pc' := 153) (v := ii wk2) (rest := [ii wk, .ref 2]) dm_X11_line_150 rfl (g_inv (As := []) (S := [ii wk, .ref 2]) (hl_ne (by decide) b16) rfl rfl rfl (by decide)) rfl rfl rfl (m_workLeft (by omega) (hl_ne (by decide) b16)) ?_
      refine y_isub (a := wk) (b := wk2) dm_X11_line_153 (pc' := 154) rfl ?_
      refine me3 (pc' := 157) (S' := []) (h1 := (h3).set 2 (cO 11 [.ref 3, ii 0, .ref 4, .ref 9, .ref 13, .ref 15, .ref 16, .ref 98, .ref qr, .ref qp, ii 1, ii wr, ii (wk - wk2)])) dm_X11_line_154 (g_put (fs' := [.ref 3, ii 0, .ref 4, .ref 9, .ref 13, .ref 15, .ref 16, .ref 98, .ref qr, .ref qp, ii 1, ii wr, ii (wk - wk2)]) (hl_set (hl_lt b2)) rfl (by rw [List.set_set]) rfl (by simp) rfl (by decide) (fun z => by cases z) (by decide)) rfl rfl rfl ?_
      refine me1 (pc' := 158) (L' := [(2, ii wk), (0, .ref 2), (1, ii (ln : Int))]) (S' := [.ref 2]) dm_X11_line_157 rfl rfl rfl rfl ?_
      refine me1 (pc' := 159) (L' := [(2, ii wk), (0, .ref 2), (1, ii (ln : Int))]) (S' := [.ref 2, .ref 2]) dm_X11_line_158 rfl rfl rfl rfl ?_
      refine me3 (pc' := 162) (S' := [.ref qr, .ref 2]) dm_X11_line_159 (g_get (v := .ref qr) (hl_set (hl_lt b2)) rfl rfl (by decide)) rfl rfl rfl ?_
      refine me3 (pc' := 165) (S' := []) (h1 := (h3).set 2 (cO 11 [.ref 3, ii 0, .ref 4, .ref 9, .ref 13, .ref 15, .ref 16, .ref 98, .ref qr, .ref qr, ii 1, ii wr, ii (wk - wk2)])) dm_X11_line_162 (g_put (fs' := [.ref 3, ii 0, .ref 4, .ref 9, .ref 13, .ref 15, .ref 16, .ref 98, .ref qr, .ref qr, ii 1, ii wr, ii (wk - wk2)]) (hl_set (hl_lt b2)) rfl (by rw [List.set_set]) rfl (by simp) rfl (by decide) (fun z => by cases z) (by decide)) rfl rfl rfl ?_
      refine me1 (pc' := 166) (L' := [(2, ii wk), (0, .ref 2), (1, ii (ln : Int))]) (S' := [.ref 2]) dm_X11_line_165 rfl rfl rfl rfl ?_
      refine me3 (pc' := 169) (S' := [ii 1]) dm_X11_line_166 (g_get (v := ii 1) (hl_set (hl_lt b2)) rfl rfl (by decide)) rfl rfl rfl ?_
      refine y_ineg (a := 1) dm_X11_line_169 (pc' := 170) rfl ?_
      refine y_ret (r := some (ii (-1))) dm_X11_line_170 rfl rfl rfl ?_
      exact ⟨_, rfl, k _ _ _ _ _ _ _ _ _ _ _ _ _ _ _ _ _ _ _ _ _ hQ3 b13 b16⟩
    · exfalso; omega
theorem dm_X11_line_61 : mj_dec prog_1_method_4_code 61 = some (.aload_n 0, 1) := by decide +kernel
theorem dm_X11_line_62 : mj_dec prog_1_method_4_code 62 = some (.invokevirtual 101, 3) := by decide +kernel
theorem dm_X11_line_65 : mj_dec prog_1_method_4_code 65 = some (.ifCond .eq 20, 3) := by decide +kernel
theorem dm_X11_line_68 : mj_dec prog_1_method_4_code 68 = some (.aload_n 0, 1) := by decide +kernel
theorem dm_X11_line_69 : mj_dec prog_1_method_4_code 69 = some (.bipush 8, 2) := by decide +kernel
theorem dm_X11_line_71 : mj_dec prog_1_method_4_code 71 = some (.aload_n 0, 1) := by decide +kernel
theorem dm_X11_line_72 : mj_dec prog_1_method_4_code 72 = some (.getfield 25, 3) := by decide +kernel
theorem dm_X11_line_75 : mj_dec prog_1_method_4_code 75 = some (.iconst 0, 1) := by decide +kernel
theorem dm_X11_line_76 : mj_dec prog_1_method_4_code 76 = some (.invokevirtual 104, 3) := by decide +kernel
theorem dm_X11_line_79 : mj_dec prog_1_method_4_code 79 = some (.invokevirtual 97, 3) := by decide +kernel
theorem dm_X11_line_82 : mj_dec prog_1_method_4_code 82 = some (.goto 62, 3) := by decide +kernel
theorem cl_full {xt : mj_X} {d qr qp : Nat} {h : mj_H} {fd le lp lw : Int} {Q : Value → mj_H → Prop} (hd : 10 ≤ d) (h2 : h[2]? = some (acC fd qr qp le lp lw)) {tp dp ca ou wk er pl lv : Int} {nw vx vy dg lf rt : Value} (h16 : h[16]? = some (mcC tp dp ca ou wk er pl nw vx vy dg lv lf rt)) {t9 : List Value} (h9 : h[9]? = some (cO 8 t9)) {ln : Nat} (hfd : 0 ≤ fd ∧ fd ≤ 300) (hln : (ln : Int) ≤ fd) {Q1 : mj_H → Prop} (hsp : pgN xt (d - 1) 17 [.ref 9, ii (ln : Int)] (h.set 2 (acC 0 qr qp le lp lw)) Q1) (hX1 : ∀ h1, Q1 h1 → h1[2]? = some (acC 0 qr qp le lp lw) ∧ ∃ c, h1[13]? = some (cO 7 c)) {Q3 : mj_H → Prop} (hrd : ∀ h1, Q1 h1 → pgV xt (d - 1) 35 [.ref 13] h1 (fun x h3 => x = ii 1 ∧ Q3 h3)) (hX3 : ∀ h3, Q3 h3 → h3[2]? = some (acC 0 qr qp le lp lw) ∧ (∃ c, h3[9]? = some (cO 8 c)) ∧ (∃ c, h3[4]? = some (cO 2 c)) ∧ ∃ (at_ wr ls : Int) (nm : Int64) (st tl : Value), h3[13]? = some (rdC at_ wr ls nm st tl) ∧ ∃ (tp2 dp2 ca2 ou2 wk2 er2 pl2 lv2 : Int) (nw2 vx2 vy2 dg2 lf2 rt2 : Value), h3[16]? = some (mcC tp2 dp2 ca2 ou2 wk2 er2 pl2 nw2 vx2 vy2 dg2 lv2 lf2 rt2)) (hone : ∀ h3, Q3 h3 → pgP xt (d - 1) 60 [.ref 2] h3 (ii 1)) {p0 : Int} (hpl : ∀ h3, Q3 h3 → pgP xt (d - 1) 39 [.ref 9, ii 0] h3 (ii p0)) (k : ∀ h3 (tp2 dp2 ca2 ou2 wk2 er2 pl2 lv2 : Int) (nw2 vx2 vy2 dg2 lf2 rt2 : Value), Q3 h3 → h3[16]? = some (mcC tp2 dp2 ca2 ou2 wk2 er2 pl2 nw2 vx2 vy2 dg2 lv2 lf2 rt2) → Q (ii (-8)) (h3.set 2 (acC 0 qr qr 8 p0 (wk - wk2)))) : pgV xt d 15 [.ref 2, ii (ln : Int)] h Q := by
  refine x_enter pm_X11_line (L0 := [(0, .ref 2), (1, ii (ln : Int))]) rfl (Nat.le_of_ble_eq_true rfl) (by omega) ?_
  refine me1 (pc' := 1) (L' := [(0, .ref 2), (1, ii (ln : Int))]) (S' := [ii (ln : Int)]) dm_X11_line_0 rfl rfl rfl rfl ?_
  refine y_1lt (a := (ln : Int)) (t := 12) (pc' := 4) dm_X11_line_1 rfl rfl (by omega) (fun hb1 => ?_) (fun hb1 => ?_)
  · exfalso; omega
  · refine me1 (pc' := 5) (L' := [(0, .ref 2), (1, ii (ln : Int))]) (S' := [ii (ln : Int)]) dm_X11_line_4 rfl rfl rfl rfl ?_
    refine me1 (pc' := 6) (L' := [(0, .ref 2), (1, ii (ln : Int))]) (S' := [.ref 2, ii (ln : Int)]) dm_X11_line_5 rfl rfl rfl rfl ?_
    refine me3 (pc' := 9) (S' := [ii fd, ii (ln : Int)]) dm_X11_line_6 (g_get (v := ii fd) h2 rfl rfl (by decide)) rfl rfl rfl ?_
    refine y_2le (a := (ln : Int)) (b := fd) (t := 15) (pc' := 12) dm_X11_line_9 rfl rfl (by omega) (fun hb2 => ?_) (fun hb2 => ?_)
    · refine me1 (pc' := 16) (L' := [(0, .ref 2), (1, ii (ln : Int))]) (S' := [.ref 2]) dm_X11_line_15 rfl rfl rfl rfl ?_
      refine me0 (pc' := 17) (S' := [ii 0, .ref 2]) dm_X11_line_16 rfl rfl rfl rfl ?_
      refine me3 (pc' := 20) (S' := []) (h1 := (h).set 2 (cO 11 [.ref 3, ii 0, .ref 4, .ref 9, .ref 13, .ref 15, .ref 16, .ref 98, .ref qr, .ref qp, ii le, ii lp, ii lw])) dm_X11_line_17 (g_put (fs' := [.ref 3, ii 0, .ref 4, .ref 9, .ref 13, .ref 15, .ref 16, .ref 98, .ref qr, .ref qp, ii le, ii lp, ii lw]) h2 rfl rfl rfl (by simp) rfl (by decide) (fun z => by cases z) (by decide)) rfl rfl rfl ?_
      refine me1 (pc' := 21) (L' := [(0, .ref 2), (1, ii (ln : Int))]) (S' := [.ref 2]) dm_X11_line_20 rfl rfl rfl rfl ?_
      refine me3 (pc' := 24) (S' := [.ref 16]) dm_X11_line_21 (g_get (v := .ref 16) (hl_set (hl_lt h2)) rfl rfl (by decide)) rfl rfl rfl ?_
      refine x_cp (pc' := 27) (v := ii wk) (rest := []) dm_X11_line_24 rfl (g_inv (As := []) (S := []) (hl_ne (by decide) h16) rfl rfl rfl (by decide)) rfl rfl rfl (m_workLeft (by omega) (hl_ne (by decide) h16)) ?_
      refine me1 (pc' := 28) (L' := [(2, ii wk), (0, .ref 2), (1, ii (ln : Int))]) (S' := []) dm_X11_line_27 rfl rfl rfl rfl ?_
      refine me1 (pc' := 29) (L' := [(2, ii wk), (0, .ref 2), (1, ii (ln : Int))]) (S' := [.ref 2]) dm_X11_line_28 rfl rfl rfl rfl ?_
      refine me3 (pc' := 32) (S' := [.ref 9]) dm_X11_line_29 (g_get (v := .ref 9) (hl_set (hl_lt h2)) rfl rfl (by decide)) rfl rfl rfl ?_
      refine me1 (pc' := 33) (L' := [(2, ii wk), (0, .ref 2), (1, ii (ln : Int))]) (S' := [ii (ln : Int), .ref 9]) dm_X11_line_32 rfl rfl rfl rfl ?_
      refine x_cn (pc' := 36) (rest := []) dm_X11_line_33 rfl (g_inv (As := [ii (ln : Int)]) (S := []) (hl_ne (by decide) h9) rfl rfl rfl (by decide)) rfl rfl rfl (hsp) ?_
      rintro h1 hQ1
      obtain ⟨a2, c13, a13⟩ := hX1 h1 hQ1
      refine me1 (pc' := 37) (L' := [(2, ii wk), (0, .ref 2), (1, ii (ln : Int))]) (S' := [.ref 2]) dm_X11_line_36 rfl rfl rfl rfl ?_
      refine me3 (pc' := 40) (S' := [.ref 13]) dm_X11_line_37 (g_get (v := .ref 13) a2 rfl rfl (by decide)) rfl rfl rfl ?_
      refine x_cv (pc' := 43) (rest := []) dm_X11_line_40 rfl (g_inv (As := []) (S := []) a13 rfl rfl rfl (by decide)) rfl rfl rfl (hrd h1 hQ1) ?_
      rintro _ h3 ⟨rfl, hQ3⟩
      obtain ⟨b2, ⟨c9, b9⟩, ⟨c4, b4⟩, at_, wr, ls, nm, st, tl, b13, tp2, dp2, ca2, ou2, wk2, er2, pl2, lv2, nw2, vx2, vy2, dg2, lf2, rt2, b16⟩ := hX3 h3 hQ3
      refine me_1t (pc' := 61) dm_X11_line_43 rfl (by decide) ?_
      refine me1 (pc' := 62) (L' := [(2, ii wk), (0, .ref 2), (1, ii (ln : Int))]) (S' := [.ref 2]) dm_X11_line_61 rfl rfl rfl rfl ?_
      refine x_cp (pc' := 65) (v := ii 1) (rest := []) dm_X11_line_62 rfl (g_inv (As := []) (S := []) b2 rfl rfl rfl (by decide)) rfl rfl rfl (hone h3 hQ3) ?_
      refine me_1f (pc' := 68) dm_X11_line_65 rfl (by decide) rfl ?_
      refine me1 (pc' := 69) (L' := [(2, ii wk), (0, .ref 2), (1, ii (ln : Int))]) (S' := [.ref 2]) dm_X11_line_68 rfl rfl rfl rfl ?_
      refine me0 (pc' := 71) (S' := [ii 8, .ref 2]) dm_X11_line_69 rfl rfl rfl rfl ?_
      refine me1 (pc' := 72) (L' := [(2, ii wk), (0, .ref 2), (1, ii (ln : Int))]) (S' := [.ref 2, ii 8, .ref 2]) dm_X11_line_71 rfl rfl rfl rfl ?_
      refine me3 (pc' := 75) (S' := [.ref 9, ii 8, .ref 2]) dm_X11_line_72 (g_get (v := .ref 9) b2 rfl rfl (by decide)) rfl rfl rfl ?_
      refine me0 (pc' := 76) (S' := [ii 0, .ref 9, ii 8, .ref 2]) dm_X11_line_75 rfl rfl rfl rfl ?_
      refine x_cp (pc' := 79) (v := ii p0) (rest := [ii 8, .ref 2]) dm_X11_line_76 rfl (g_inv (As := [ii 0]) (S := [ii 8, .ref 2]) b9 rfl rfl rfl (by decide)) rfl rfl rfl (hpl h3 hQ3) ?_
      refine x_cn (pc' := 82) (rest := []) dm_X11_line_79 rfl (g_inv (As := [ii 8, ii p0]) (S := []) b2 rfl rfl rfl (by decide)) rfl rfl rfl (a_endLine (by omega) b2 (H := (h3).set 2 (cO 11 [.ref 3, ii 0, .ref 4, .ref 9, .ref 13, .ref 15, .ref 16, .ref 98, .ref qr, .ref qp, ii 8, ii p0, ii lw])) rfl) ?_
      rintro _ rfl
      refine me2 (pc' := 144) (S' := []) dm_X11_line_82 rfl rfl rfl ?_
      refine me1 (pc' := 145) (L' := [(2, ii wk), (0, .ref 2), (1, ii (ln : Int))]) (S' := [.ref 2]) dm_X11_line_144 rfl rfl rfl rfl ?_
      refine me1 (pc' := 146) (L' := [(2, ii wk), (0, .ref 2), (1, ii (ln : Int))]) (S' := [ii wk, .ref 2]) dm_X11_line_145 rfl rfl rfl rfl ?_
      refine me1 (pc' := 147) (L' := [(2, ii wk), (0, .ref 2), (1, ii (ln : Int))]) (S' := [.ref 2, ii wk, .ref 2]) dm_X11_line_146 rfl rfl rfl rfl ?_
      refine me3 (pc' := 150) (S' := [.ref 16, ii wk, .ref 2]) dm_X11_line_147 (g_get (v := .ref 16) (hl_set (hl_lt b2)) rfl rfl (by decide)) rfl rfl rfl ?_
      refine x_cp (pc' := 153) (v := ii wk2) (rest := [ii wk, .ref 2]) dm_X11_line_150 rfl (g_inv (As := []) (S := [ii wk, .ref 2]) (hl_ne (by decide) b16) rfl rfl rfl (by decide)) rfl rfl rfl (m_workLeft (by omega) (hl_ne (by decide) b16)) ?_
      refine y_isub (a := wk) (b := wk2) dm_X11_line_153 (pc' := 154) rfl ?_
      refine me3 (pc' := 157) (S' := []) (h1 := (h3).set 2 (cO 11 [.ref 3, ii 0, .ref 4, .ref 9, .ref 13, .ref 15, .ref 16, .ref 98, .ref qr, .ref qp, ii 8, ii p0, ii (wk - wk2)])) dm_X11_line_154 (g_put (fs' := [.ref 3, ii 0, .ref 4, .ref 9, .ref 13, .ref 15, .ref 16, .ref 98, .ref qr, .ref qp, ii 8, ii p0, ii (wk - wk2)]) (hl_set (hl_lt b2)) rfl (by rw [List.set_set]) rfl (by simp) rfl (by decide) (fun z => by cases z) (by decide)) rfl rfl rfl ?_
      refine me1 (pc' := 158) (L' := [(2, ii wk), (0, .ref 2), (1, ii (ln : Int))]) (S' := [.ref 2]) dm_X11_line_157 rfl rfl rfl rfl ?_
      refine me1 (pc' := 159) (L' := [(2, ii wk), (0, .ref 2), (1, ii (ln : Int))]) (S' := [.ref 2, .ref 2]) dm_X11_line_158 rfl rfl rfl rfl ?_
      refine me3 (pc' := 162) (S' := [.ref qr, .ref 2]) dm_X11_line_159 (g_get (v := .ref qr) (hl_set (hl_lt b2)) rfl rfl (by decide)) rfl rfl rfl ?_
      refine me3 (pc' := 165) (S' := []) (h1 := (h3).set 2 (cO 11 [.ref 3, ii 0, .ref 4, .ref 9, .ref 13, .ref 15, .ref 16, .ref 98, .ref qr, .ref qr, ii 8, ii p0, ii (wk - wk2)])) dm_X11_line_162 (g_put (fs' := [.ref 3, ii 0, .ref 4, .ref 9, .ref 13, .ref 15, .ref 16, .ref 98, .ref qr, .ref qr, ii 8, ii p0, ii (wk - wk2)]) (hl_set (hl_lt b2)) rfl (by rw [List.set_set]) rfl (by simp) rfl (by decide) (fun z => by cases z) (by decide)) rfl rfl rfl ?_
      refine me1 (pc' := 166) (L' := [(2, ii wk), (0, .ref 2), (1, ii (ln : Int))]) (S' := [.ref 2]) dm_X11_line_165 rfl rfl rfl rfl ?_
      refine me3 (pc' := 169) (S' := [ii 8]) dm_X11_line_166 (g_get (v := ii 8) (hl_set (hl_lt b2)) rfl rfl (by decide)) rfl rfl rfl ?_
      refine y_ineg (a := 8) dm_X11_line_169 (pc' := 170) rfl ?_
      refine y_ret (r := some (ii (-8))) dm_X11_line_170 rfl rfl rfl ?_
      exact ⟨_, rfl, k _ _ _ _ _ _ _ _ _ _ _ _ _ _ _ hQ3 b16⟩
    · exfalso; omega
theorem dm_X11_line_85 : mj_dec prog_1_method_4_code 85 = some (.aload_n 0, 1) := by decide +kernel
theorem dm_X11_line_86 : mj_dec prog_1_method_4_code 86 = some (.getfield 34, 3) := by decide +kernel
theorem dm_X11_line_89 : mj_dec prog_1_method_4_code 89 = some (.invokevirtual 108, 3) := by decide +kernel
theorem dm_X11_line_92 : mj_dec prog_1_method_4_code 92 = some (.iconst 2, 1) := by decide +kernel
theorem dm_X11_line_93 : mj_dec prog_1_method_4_code 93 = some (.if_icmp .ne 33, 3) := by decide +kernel
theorem dm_X11_line_96 : mj_dec prog_1_method_4_code 96 = some (.aload_n 0, 1) := by decide +kernel
theorem dm_X11_line_97 : mj_dec prog_1_method_4_code 97 = some (.getfield 16, 3) := by decide +kernel
theorem dm_X11_line_100 : mj_dec prog_1_method_4_code 100 = some (.aload_n 0, 1) := by decide +kernel
theorem dm_X11_line_101 : mj_dec prog_1_method_4_code 101 = some (.getfield 34, 3) := by decide +kernel
theorem dm_X11_line_104 : mj_dec prog_1_method_4_code 104 = some (.invokevirtual 111, 3) := by decide +kernel
theorem dm_X11_line_107 : mj_dec prog_1_method_4_code 107 = some (.aload_n 0, 1) := by decide +kernel
theorem dm_X11_line_108 : mj_dec prog_1_method_4_code 108 = some (.getfield 34, 3) := by decide +kernel
theorem dm_X11_line_111 : mj_dec prog_1_method_4_code 111 = some (.invokevirtual 115, 3) := by decide +kernel
theorem dm_X11_line_114 : mj_dec prog_1_method_4_code 114 = some (.invokevirtual 119, 3) := by decide +kernel
theorem dm_X11_line_117 : mj_dec prog_1_method_4_code 117 = some (.aload_n 0, 1) := by decide +kernel
theorem dm_X11_line_118 : mj_dec prog_1_method_4_code 118 = some (.iconst 0, 1) := by decide +kernel
theorem dm_X11_line_119 : mj_dec prog_1_method_4_code 119 = some (.iconst (-1), 1) := by decide +kernel
theorem dm_X11_line_120 : mj_dec prog_1_method_4_code 120 = some (.invokevirtual 97, 3) := by decide +kernel
theorem dm_X11_line_123 : mj_dec prog_1_method_4_code 123 = some (.goto 21, 3) := by decide +kernel
theorem cl_tell {xt : mj_X} {d qr qp : Nat} {h : mj_H} {fd le lp lw : Int} {Q : Value → mj_H → Prop} (hd : 10 ≤ d) (h2 : h[2]? = some (acC fd qr qp le lp lw)) {tp dp ca ou wk er pl lv : Int} {nw vx vy dg lf rt : Value} (h16 : h[16]? = some (mcC tp dp ca ou wk er pl nw vx vy dg lv lf rt)) {t9 : List Value} (h9 : h[9]? = some (cO 8 t9)) {ln : Nat} (hfd : 0 ≤ fd ∧ fd ≤ 300) (hln : (ln : Int) ≤ fd) {Q1 : mj_H → Prop} (hsp : pgN xt (d - 1) 17 [.ref 9, ii (ln : Int)] (h.set 2 (acC 0 qr qp le lp lw)) Q1) (hX1 : ∀ h1, Q1 h1 → h1[2]? = some (acC 0 qr qp le lp lw) ∧ ∃ c, h1[13]? = some (cO 7 c)) {ls : Int} {nm : Int64} {op : Nat} {Q3 : mj_H → Prop} (hrd : ∀ h1, Q1 h1 → pgV xt (d - 1) 35 [.ref 13] h1 (fun x h3 => x = ii 1 ∧ Q3 h3)) (hX3 : ∀ h3, Q3 h3 → h3[2]? = some (acC 0 qr qp le lp lw) ∧ (∃ c, h3[9]? = some (cO 8 c)) ∧ (∃ c, h3[4]? = some (cO 2 c)) ∧ ∃ (at_ wr : Int) (tl : Value), h3[13]? = some (rdC at_ wr ls nm (.ref op) tl) ∧ ∃ (tp2 dp2 ca2 ou2 wk2 er2 pl2 lv2 : Int) (nw2 vx2 vy2 dg2 lf2 rt2 : Value), h3[16]? = some (mcC tp2 dp2 ca2 ou2 wk2 er2 pl2 nw2 vx2 vy2 dg2 lv2 lf2 rt2)) (hone : ∀ h3, Q3 h3 → pgP xt (d - 1) 60 [.ref 2] h3 (ii 0)) (hls : ls = 2) {Q5 : mj_H → Prop} (htl : ∀ h3, Q3 h3 → pgN xt (d - 1) 68 [.ref 4, .long nm, .ref op] h3 Q5) (hX5 : ∀ h5, Q5 h5 → h5[2]? = some (acC 0 qr qp le lp lw) ∧ ∃ (tp3 dp3 ca3 ou3 wk3 er3 pl3 lv3 : Int) (nw3 vx3 vy3 dg3 lf3 rt3 : Value), h5[16]? = some (mcC tp3 dp3 ca3 ou3 wk3 er3 pl3 nw3 vx3 vy3 dg3 lv3 lf3 rt3)) (k : ∀ h5 (tp3 dp3 ca3 ou3 wk3 er3 pl3 lv3 : Int) (nw3 vx3 vy3 dg3 lf3 rt3 : Value), Q5 h5 → h5[16]? = some (mcC tp3 dp3 ca3 ou3 wk3 er3 pl3 nw3 vx3 vy3 dg3 lv3 lf3 rt3) → Q (ii 0) (h5.set 2 (acC 0 qr qr 0 (-1) (wk - wk3)))) : pgV xt d 15 [.ref 2, ii (ln : Int)] h Q := by
  refine x_enter pm_X11_line (L0 := [(0, .ref 2), (1, ii (ln : Int))]) rfl (Nat.le_of_ble_eq_true rfl) (by omega) ?_
  refine me1 (pc' := 1) (L' := [(0, .ref 2), (1, ii (ln : Int))]) (S' := [ii (ln : Int)]) dm_X11_line_0 rfl rfl rfl rfl ?_
  refine y_1lt (a := (ln : Int)) (t := 12) (pc' := 4) dm_X11_line_1 rfl rfl (by omega) (fun hb1 => ?_) (fun hb1 => ?_)
  · exfalso; omega
  · refine me1 (pc' := 5) (L' := [(0, .ref 2), (1, ii (ln : Int))]) (S' := [ii (ln : Int)]) dm_X11_line_4 rfl rfl rfl rfl ?_
    refine me1 (pc' := 6) (L' := [(0, .ref 2), (1, ii (ln : Int))]) (S' := [.ref 2, ii (ln : Int)]) dm_X11_line_5 rfl rfl rfl rfl ?_
    refine me3 (pc' := 9) (S' := [ii fd, ii (ln : Int)]) dm_X11_line_6 (g_get (v := ii fd) h2 rfl rfl (by decide)) rfl rfl rfl ?_
    refine y_2le (a := (ln : Int)) (b := fd) (t := 15) (pc' := 12) dm_X11_line_9 rfl rfl (by omega) (fun hb2 => ?_) (fun hb2 => ?_)
    · refine me1 (pc' := 16) (L' := [(0, .ref 2), (1, ii (ln : Int))]) (S' := [.ref 2]) dm_X11_line_15 rfl rfl rfl rfl ?_
      refine me0 (pc' := 17) (S' := [ii 0, .ref 2]) dm_X11_line_16 rfl rfl rfl rfl ?_
      refine me3 (pc' := 20) (S' := []) (h1 := (h).set 2 (cO 11 [.ref 3, ii 0, .ref 4, .ref 9, .ref 13, .ref 15, .ref 16, .ref 98, .ref qr, .ref qp, ii le, ii lp, ii lw])) dm_X11_line_17 (g_put (fs' := [.ref 3, ii 0, .ref 4, .ref 9, .ref 13, .ref 15, .ref 16, .ref 98, .ref qr, .ref qp, ii le, ii lp, ii lw]) h2 rfl rfl rfl (by simp) rfl (by decide) (fun z => by cases z) (by decide)) rfl rfl rfl ?_
      refine me1 (pc' := 21) (L' := [(0, .ref 2), (1, ii (ln : Int))]) (S' := [.ref 2]) dm_X11_line_20 rfl rfl rfl rfl ?_
      refine me3 (pc' := 24) (S' := [.ref 16]) dm_X11_line_21 (g_get (v := .ref 16) (hl_set (hl_lt h2)) rfl rfl (by decide)) rfl rfl rfl ?_
      refine x_cp (pc' := 27) (v := ii wk) (rest := []) dm_X11_line_24 rfl (g_inv (As := []) (S := []) (hl_ne (by decide) h16) rfl rfl rfl (by decide)) rfl rfl rfl (m_workLeft (by omega) (hl_ne (by decide) h16)) ?_
      refine me1 (pc' := 28) (L' := [(2, ii wk), (0, .ref 2), (1, ii (ln : Int))]) (S' := []) dm_X11_line_27 rfl rfl rfl rfl ?_
      refine me1 (pc' := 29) (L' := [(2, ii wk), (0, .ref 2), (1, ii (ln : Int))]) (S' := [.ref 2]) dm_X11_line_28 rfl rfl rfl rfl ?_
      refine me3 (pc' := 32) (S' := [.ref 9]) dm_X11_line_29 (g_get (v := .ref 9) (hl_set (hl_lt h2)) rfl rfl (by decide)) rfl rfl rfl ?_
      refine me1 (pc' := 33) (L' := [(2, ii wk), (0, .ref 2), (1, ii (ln : Int))]) (S' := [ii (ln : Int), .ref 9]) dm_X11_line_32 rfl rfl rfl rfl ?_
      refine x_cn (pc' := 36) (rest := []) dm_X11_line_33 rfl (g_inv (As := [ii (ln : Int)]) (S := []) (hl_ne (by decide) h9) rfl rfl rfl (by decide)) rfl rfl rfl (hsp) ?_
      rintro h1 hQ1
      obtain ⟨a2, c13, a13⟩ := hX1 h1 hQ1
      refine me1 (pc' := 37) (L' := [(2, ii wk), (0, .ref 2), (1, ii (ln : Int))]) (S' := [.ref 2]) dm_X11_line_36 rfl rfl rfl rfl ?_
      refine me3 (pc' := 40) (S' := [.ref 13]) dm_X11_line_37 (g_get (v := .ref 13) a2 rfl rfl (by decide)) rfl rfl rfl ?_
      refine x_cv (pc' := 43) (rest := []) dm_X11_line_40 rfl (g_inv (As := []) (S := []) a13 rfl rfl rfl (by decide)) rfl rfl rfl (hrd h1 hQ1) ?_
      rintro _ h3 ⟨rfl, hQ3⟩
      obtain ⟨b2, ⟨c9, b9⟩, ⟨c4, b4⟩, at_, wr, tl, b13, tp2, dp2, ca2, ou2, wk2, er2, pl2, lv2, nw2, vx2, vy2, dg2, lf2, rt2, b16⟩ := hX3 h3 hQ3
      refine me_1t (pc' := 61) dm_X11_line_43 rfl (by decide) ?_
      refine me1 (pc' := 62) (L' := [(2, ii wk), (0, .ref 2), (1, ii (ln : Int))]) (S' := [.ref 2]) dm_X11_line_61 rfl rfl rfl rfl ?_
      refine x_cp (pc' := 65) (v := ii 0) (rest := []) dm_X11_line_62 rfl (g_inv (As := []) (S := []) b2 rfl rfl rfl (by decide)) rfl rfl rfl (hone h3 hQ3) ?_
      refine me_1t (pc' := 85) dm_X11_line_65 rfl (by decide) ?_
      refine me1 (pc' := 86) (L' := [(2, ii wk), (0, .ref 2), (1, ii (ln : Int))]) (S' := [.ref 2]) dm_X11_line_85 rfl rfl rfl rfl ?_
      refine me3 (pc' := 89) (S' := [.ref 13]) dm_X11_line_86 (g_get (v := .ref 13) b2 rfl rfl (by decide)) rfl rfl rfl ?_
      refine x_cp (pc' := 92) (v := ii ls) (rest := []) dm_X11_line_89 rfl (g_inv (As := []) (S := []) b13 rfl rfl rfl (by decide)) rfl rfl rfl (d_sort (by omega) b13) ?_
      refine me0 (pc' := 93) (S' := [ii 2, ii ls]) dm_X11_line_92 rfl rfl rfl rfl ?_
      refine y_2ne (a := ls) (b := 2) (t := 126) (pc' := 96) dm_X11_line_93 rfl rfl (by omega) (fun hb3 => ?_) (fun hb3 => ?_)
      · exfalso; omega
      · refine me1 (pc' := 97) (L' := [(2, ii wk), (0, .ref 2), (1, ii (ln : Int))]) (S' := [.ref 2]) dm_X11_line_96 rfl rfl rfl rfl ?_
        refine me3 (pc' := 100) (S' := [.ref 4]) dm_X11_line_97 (g_get (v := .ref 4) b2 rfl rfl (by decide)) rfl rfl rfl ?_
        refine me1 (pc' := 101) (L' := [(2, ii wk), (0, .ref 2), (1, ii (ln : Int))]) (S' := [.ref 2, .ref 4]) dm_X11_line_100 rfl rfl rfl rfl ?_
        refine me3 (pc' := 104) (S' := [.ref 13, .ref 4]) dm_X11_line_101 (g_get (v := .ref 13) b2 rfl rfl (by decide)) rfl rfl rfl ?_
        refine x_cp (pc' := 107) (v := .long nm) (rest := [.ref 4]) dm_X11_line_104 rfl (g_inv (As := []) (S := [.ref 4]) b13 rfl rfl rfl (by decide)) rfl rfl rfl (d_named (by omega) b13) ?_
        refine me1 (pc' := 108) (L' := [(2, ii wk), (0, .ref 2), (1, ii (ln : Int))]) (S' := [.ref 2, .long nm, .ref 4]) dm_X11_line_107 rfl rfl rfl rfl ?_
        refine me3 (pc' := 111) (S' := [.ref 13, .long nm, .ref 4]) dm_X11_line_108 (g_get (v := .ref 13) b2 rfl rfl (by decide)) rfl rfl rfl ?_
        refine x_cp (pc' := 114) (v := .ref op) (rest := [.long nm, .ref 4]) dm_X11_line_111 rfl (g_inv (As := []) (S := [.long nm, .ref 4]) b13 rfl rfl rfl (by decide)) rfl rfl rfl (d_first (by omega) b13) ?_
        refine x_cn (pc' := 117) (rest := []) dm_X11_line_114 rfl (g_inv (As := [.long nm, .ref op]) (S := []) b4 rfl rfl rfl (by decide)) rfl rfl rfl (htl h3 hQ3) ?_
        rintro h5 hQ5
        obtain ⟨c2, tp3, dp3, ca3, ou3, wk3, er3, pl3, lv3, nw3, vx3, vy3, dg3, lf3, rt3, c16⟩ := hX5 h5 hQ5
        refine me1 (pc' := 118) (L' := [(2, ii wk), (0, .ref 2), (1, ii (ln : Int))]) (S' := [.ref 2]) dm_X11_line_117 rfl rfl rfl rfl ?_
        refine me0 (pc' := 119) (S' := [ii 0, .ref 2]) dm_X11_line_118 rfl rfl rfl rfl ?_
        refine me0 (pc' := 120) (S' := [ii (-1), ii 0, .ref 2]) dm_X11_line_119 rfl rfl rfl rfl ?_
        refine x_cn (pc' := 123) (rest := []) dm_X11_line_120 rfl (g_inv (As := [ii 0, ii (-1)]) (S := []) c2 rfl rfl rfl (by decide)) rfl rfl rfl (a_endLine (by omega) c2 (H := (h5).set 2 (cO 11 [.ref 3, ii 0, .ref 4, .ref 9, .ref 13, .ref 15, .ref 16, .ref 98, .ref qr, .ref qp, ii 0, ii (-1), ii lw])) rfl) ?_
        rintro _ rfl
        refine me2 (pc' := 144) (S' := []) dm_X11_line_123 rfl rfl rfl ?_
        refine me1 (pc' := 145) (L' := [(2, ii wk), (0, .ref 2), (1, ii (ln : Int))]) (S' := [.ref 2]) dm_X11_line_144 rfl rfl rfl rfl ?_
        refine me1 (pc' := 146) (L' := [(2, ii wk), (0, .ref 2), (1, ii (ln : Int))]) (S' := [ii wk, .ref 2]) dm_X11_line_145 rfl rfl rfl rfl ?_
        refine me1 (pc' := 147) (L' := [(2, ii wk), (0, .ref 2), (1, ii (ln : Int))]) (S' := [.ref 2, ii wk, .ref 2]) dm_X11_line_146 rfl rfl rfl rfl ?_
        refine me3 (pc' := 150) (S' := [.ref 16, ii wk, .ref 2]) dm_X11_line_147 (g_get (v := .ref 16) (hl_set (hl_lt c2)) rfl rfl (by decide)) rfl rfl rfl ?_
        refine x_cp (pc' := 153) (v := ii wk3) (rest := [ii wk, .ref 2]) dm_X11_line_150 rfl (g_inv (As := []) (S := [ii wk, .ref 2]) (hl_ne (by decide) c16) rfl rfl rfl (by decide)) rfl rfl rfl (m_workLeft (by omega) (hl_ne (by decide) c16)) ?_
        refine y_isub (a := wk) (b := wk3) dm_X11_line_153 (pc' := 154) rfl ?_
        refine me3 (pc' := 157) (S' := []) (h1 := (h5).set 2 (cO 11 [.ref 3, ii 0, .ref 4, .ref 9, .ref 13, .ref 15, .ref 16, .ref 98, .ref qr, .ref qp, ii 0, ii (-1), ii (wk - wk3)])) dm_X11_line_154 (g_put (fs' := [.ref 3, ii 0, .ref 4, .ref 9, .ref 13, .ref 15, .ref 16, .ref 98, .ref qr, .ref qp, ii 0, ii (-1), ii (wk - wk3)]) (hl_set (hl_lt c2)) rfl (by rw [List.set_set]) rfl (by simp) rfl (by decide) (fun z => by cases z) (by decide)) rfl rfl rfl ?_
        refine me1 (pc' := 158) (L' := [(2, ii wk), (0, .ref 2), (1, ii (ln : Int))]) (S' := [.ref 2]) dm_X11_line_157 rfl rfl rfl rfl ?_
        refine me1 (pc' := 159) (L' := [(2, ii wk), (0, .ref 2), (1, ii (ln : Int))]) (S' := [.ref 2, .ref 2]) dm_X11_line_158 rfl rfl rfl rfl ?_
        refine me3 (pc' := 162) (S' := [.ref qr, .ref 2]) dm_X11_line_159 (g_get (v := .ref qr) (hl_set (hl_lt c2)) rfl rfl (by decide)) rfl rfl rfl ?_
        refine me3 (pc' := 165) (S' := []) (h1 := (h5).set 2 (cO 11 [.ref 3, ii 0, .ref 4, .ref 9, .ref 13, .ref 15, .ref 16, .ref 98, .ref qr, .ref qr, ii 0, ii (-1), ii (wk - wk3)])) dm_X11_line_162 (g_put (fs' := [.ref 3, ii 0, .ref 4, .ref 9, .ref 13, .ref 15, .ref 16, .ref 98, .ref qr, .ref qr, ii 0, ii (-1), ii (wk - wk3)]) (hl_set (hl_lt c2)) rfl (by rw [List.set_set]) rfl (by simp) rfl (by decide) (fun z => by cases z) (by decide)) rfl rfl rfl ?_
        refine me1 (pc' := 166) (L' := [(2, ii wk), (0, .ref 2), (1, ii (ln : Int))]) (S' := [.ref 2]) dm_X11_line_165 rfl rfl rfl rfl ?_
        refine me3 (pc' := 169) (S' := [ii 0]) dm_X11_line_166 (g_get (v := ii 0) (hl_set (hl_lt c2)) rfl rfl (by decide)) rfl rfl rfl ?_
        refine y_ineg (a := 0) dm_X11_line_169 (pc' := 170) rfl ?_
        refine y_ret (r := some (ii (-0))) dm_X11_line_170 rfl rfl rfl ?_
        exact ⟨_, rfl, k _ _ _ _ _ _ _ _ _ _ _ _ _ _ _ hQ5 c16⟩
    · exfalso; omega
theorem dm_X11_line_126 : mj_dec prog_1_method_4_code 126 = some (.aload_n 0, 1) := by decide +kernel
theorem dm_X11_line_127 : mj_dec prog_1_method_4_code 127 = some (.aload_n 0, 1) := by decide +kernel
theorem dm_X11_line_128 : mj_dec prog_1_method_4_code 128 = some (.getfield 47, 3) := by decide +kernel
theorem dm_X11_line_131 : mj_dec prog_1_method_4_code 131 = some (.aload_n 0, 1) := by decide +kernel
theorem dm_X11_line_132 : mj_dec prog_1_method_4_code 132 = some (.getfield 34, 3) := by decide +kernel
theorem dm_X11_line_135 : mj_dec prog_1_method_4_code 135 = some (.invokevirtual 115, 3) := by decide +kernel
theorem dm_X11_line_138 : mj_dec prog_1_method_4_code 138 = some (.invokevirtual 123, 3) := by decide +kernel
theorem dm_X11_line_141 : mj_dec prog_1_method_4_code 141 = some (.invokevirtual 127, 3) := by decide +kernel
theorem cl_err {xt : mj_X} {d qr qp : Nat} {h : mj_H} {fd le lp lw : Int} {Q : Value → mj_H → Prop} (hd : 10 ≤ d) (h2 : h[2]? = some (acC fd qr qp le lp lw)) {tp dp ca ou wk er pl lv : Int} {nw vx vy dg lf rt : Value} (h16 : h[16]? = some (mcC tp dp ca ou wk er pl nw vx vy dg lv lf rt)) {t9 : List Value} (h9 : h[9]? = some (cO 8 t9)) {ln : Nat} (hfd : 0 ≤ fd ∧ fd ≤ 300) (hln : (ln : Int) ≤ fd) {Q1 : mj_H → Prop} (hsp : pgN xt (d - 1) 17 [.ref 9, ii (ln : Int)] (h.set 2 (acC 0 qr qp le lp lw)) Q1) (hX1 : ∀ h1, Q1 h1 → h1[2]? = some (acC 0 qr qp le lp lw) ∧ ∃ c, h1[13]? = some (cO 7 c)) {ls : Int} {nm : Int64} {op : Nat} {Q3 : mj_H → Prop} (hrd : ∀ h1, Q1 h1 → pgV xt (d - 1) 35 [.ref 13] h1 (fun x h3 => x = ii 1 ∧ Q3 h3)) (hX3 : ∀ h3, Q3 h3 → h3[2]? = some (acC 0 qr qp le lp lw) ∧ (∃ c, h3[9]? = some (cO 8 c)) ∧ (∃ c, h3[4]? = some (cO 2 c)) ∧ ∃ (at_ wr : Int) (tl : Value), h3[13]? = some (rdC at_ wr ls nm (.ref op) tl) ∧ ∃ (tp2 dp2 ca2 ou2 wk2 er2 pl2 lv2 : Int) (nw2 vx2 vy2 dg2 lf2 rt2 : Value), h3[16]? = some (mcC tp2 dp2 ca2 ou2 wk2 er2 pl2 nw2 vx2 vy2 dg2 lv2 lf2 rt2)) (hone : ∀ h3, Q3 h3 → pgP xt (d - 1) 60 [.ref 2] h3 (ii 0)) (hls : ls ≠ 2 ∧ 0 ≤ ls ∧ ls ≤ 10) {Q5 : mj_H → Prop} (hrun : ∀ h3, Q3 h3 → pgV xt (d - 1) 70 [.ref 16, .ref op] h3 (fun x h5 => x = .null ∧ Q5 h5)) (hX5 : ∀ (h5 : mj_H), Q5 h5 → ∃ c, h5[2]? = some (cO 11 c)) {Q6 : mj_H → Prop} (hti : ∀ (h5 : mj_H), Q5 h5 → pgN xt (d - 1) 176 [.ref 2, .null] h5 Q6) (hX6 : ∀ h6, Q6 h6 → ∃ (qr6 qp6 : Nat) (le6 lp6 lw6 : Int), h6[2]? = some (acC 0 qr6 qp6 le6 lp6 lw6) ∧ ∃ (tp3 dp3 ca3 ou3 wk3 er3 pl3 lv3 : Int) (nw3 vx3 vy3 dg3 lf3 rt3 : Value), h6[16]? = some (mcC tp3 dp3 ca3 ou3 wk3 er3 pl3 nw3 vx3 vy3 dg3 lv3 lf3 rt3)) (k : ∀ h6 (qr6 qp6 : Nat) (le6 lp6 lw6 : Int) (tp3 dp3 ca3 ou3 wk3 er3 pl3 lv3 : Int) (nw3 vx3 vy3 dg3 lf3 rt3 : Value), Q6 h6 → h6[2]? = some (acC 0 qr6 qp6 le6 lp6 lw6) → h6[16]? = some (mcC tp3 dp3 ca3 ou3 wk3 er3 pl3 nw3 vx3 vy3 dg3 lv3 lf3 rt3) → Q (ii (-le6)) (h6.set 2 (acC 0 qr6 qr6 le6 lp6 (wk - wk3)))) : pgV xt d 15 [.ref 2, ii (ln : Int)] h Q := by
  refine x_enter pm_X11_line (L0 := [(0, .ref 2), (1, ii (ln : Int))]) rfl (Nat.le_of_ble_eq_true rfl) (by omega) ?_
  refine me1 (pc' := 1) (L' := [(0, .ref 2), (1, ii (ln : Int))]) (S' := [ii (ln : Int)]) dm_X11_line_0 rfl rfl rfl rfl ?_
  refine y_1lt (a := (ln : Int)) (t := 12) (pc' := 4) dm_X11_line_1 rfl rfl (by omega) (fun hb1 => ?_) (fun hb1 => ?_)
  · exfalso; omega
  · refine me1 (pc' := 5) (L' := [(0, .ref 2), (1, ii (ln : Int))]) (S' := [ii (ln : Int)]) dm_X11_line_4 rfl rfl rfl rfl ?_
    refine me1 (pc' := 6) (L' := [(0, .ref 2), (1, ii (ln : Int))]) (S' := [.ref 2, ii (ln : Int)]) dm_X11_line_5 rfl rfl rfl rfl ?_
    refine me3 (pc' := 9) (S' := [ii fd, ii (ln : Int)]) dm_X11_line_6 (g_get (v := ii fd) h2 rfl rfl (by decide)) rfl rfl rfl ?_
    refine y_2le (a := (ln : Int)) (b := fd) (t := 15) (pc' := 12) dm_X11_line_9 rfl rfl (by omega) (fun hb2 => ?_) (fun hb2 => ?_)
    · refine me1 (pc' := 16) (L' := [(0, .ref 2), (1, ii (ln : Int))]) (S' := [.ref 2]) dm_X11_line_15 rfl rfl rfl rfl ?_
      refine me0 (pc' := 17) (S' := [ii 0, .ref 2]) dm_X11_line_16 rfl rfl rfl rfl ?_
      refine me3 (pc' := 20) (S' := []) (h1 := (h).set 2 (cO 11 [.ref 3, ii 0, .ref 4, .ref 9, .ref 13, .ref 15, .ref 16, .ref 98, .ref qr, .ref qp, ii le, ii lp, ii lw])) dm_X11_line_17 (g_put (fs' := [.ref 3, ii 0, .ref 4, .ref 9, .ref 13, .ref 15, .ref 16, .ref 98, .ref qr, .ref qp, ii le, ii lp, ii lw]) h2 rfl rfl rfl (by simp) rfl (by decide) (fun z => by cases z) (by decide)) rfl rfl rfl ?_
      refine me1 (pc' := 21) (L' := [(0, .ref 2), (1, ii (ln : Int))]) (S' := [.ref 2]) dm_X11_line_20 rfl rfl rfl rfl ?_
      refine me3 (pc' := 24) (S' := [.ref 16]) dm_X11_line_21 (g_get (v := .ref 16) (hl_set (hl_lt h2)) rfl rfl (by decide)) rfl rfl rfl ?_
      refine x_cp (pc' := 27) (v := ii wk) (rest := []) dm_X11_line_24 rfl (g_inv (As := []) (S := []) (hl_ne (by decide) h16) rfl rfl rfl (by decide)) rfl rfl rfl (m_workLeft (by omega) (hl_ne (by decide) h16)) ?_
      refine me1 (pc' := 28) (L' := [(2, ii wk), (0, .ref 2), (1, ii (ln : Int))]) (S' := []) dm_X11_line_27 rfl rfl rfl rfl ?_
      refine me1 (pc' := 29) (L' := [(2, ii wk), (0, .ref 2), (1, ii (ln : Int))]) (S' := [.ref 2]) dm_X11_line_28 rfl rfl rfl rfl ?_
      refine me3 (pc' := 32) (S' := [.ref 9]) dm_X11_line_29 (g_get (v := .ref 9) (hl_set (hl_lt h2)) rfl rfl (by decide)) rfl rfl rfl ?_
      refine me1 (pc' := 33) (L' := [(2, ii wk), (0, .ref 2), (1, ii (ln : Int))]) (S' := [ii (ln : Int), .ref 9]) dm_X11_line_32 rfl rfl rfl rfl ?_
      refine x_cn (pc' := 36) (rest := []) dm_X11_line_33 rfl (g_inv (As := [ii (ln : Int)]) (S := []) (hl_ne (by decide) h9) rfl rfl rfl (by decide)) rfl rfl rfl (hsp) ?_
      rintro h1 hQ1
      obtain ⟨a2, c13, a13⟩ := hX1 h1 hQ1
      refine me1 (pc' := 37) (L' := [(2, ii wk), (0, .ref 2), (1, ii (ln : Int))]) (S' := [.ref 2]) dm_X11_line_36 rfl rfl rfl rfl ?_
      refine me3 (pc' := 40) (S' := [.ref 13]) dm_X11_line_37 (g_get (v := .ref 13) a2 rfl rfl (by decide)) rfl rfl rfl ?_
      refine x_cv (pc' := 43) (rest := []) dm_X11_line_40 rfl (g_inv (As := []) (S := []) a13 rfl rfl rfl (by decide)) rfl rfl rfl (hrd h1 hQ1) ?_
      rintro _ h3 ⟨rfl, hQ3⟩
      obtain ⟨b2, ⟨c9, b9⟩, ⟨c4, b4⟩, at_, wr, tl, b13, tp2, dp2, ca2, ou2, wk2, er2, pl2, lv2, nw2, vx2, vy2, dg2, lf2, rt2, b16⟩ := hX3 h3 hQ3
      refine me_1t (pc' := 61) dm_X11_line_43 rfl (by decide) ?_
      refine me1 (pc' := 62) (L' := [(2, ii wk), (0, .ref 2), (1, ii (ln : Int))]) (S' := [.ref 2]) dm_X11_line_61 rfl rfl rfl rfl ?_
      refine x_cp (pc' := 65) (v := ii 0) (rest := []) dm_X11_line_62 rfl (g_inv (As := []) (S := []) b2 rfl rfl rfl (by decide)) rfl rfl rfl (hone h3 hQ3) ?_
      refine me_1t (pc' := 85) dm_X11_line_65 rfl (by decide) ?_
      refine me1 (pc' := 86) (L' := [(2, ii wk), (0, .ref 2), (1, ii (ln : Int))]) (S' := [.ref 2]) dm_X11_line_85 rfl rfl rfl rfl ?_
      refine me3 (pc' := 89) (S' := [.ref 13]) dm_X11_line_86 (g_get (v := .ref 13) b2 rfl rfl (by decide)) rfl rfl rfl ?_
      refine x_cp (pc' := 92) (v := ii ls) (rest := []) dm_X11_line_89 rfl (g_inv (As := []) (S := []) b13 rfl rfl rfl (by decide)) rfl rfl rfl (d_sort (by omega) b13) ?_
      refine me0 (pc' := 93) (S' := [ii 2, ii ls]) dm_X11_line_92 rfl rfl rfl rfl ?_
      refine y_2ne (a := ls) (b := 2) (t := 126) (pc' := 96) dm_X11_line_93 rfl rfl (by omega) (fun hb3 => ?_) (fun hb3 => ?_)
      · refine me1 (pc' := 127) (L' := [(2, ii wk), (0, .ref 2), (1, ii (ln : Int))]) (S' := [.ref 2]) dm_X11_line_126 rfl rfl rfl rfl ?_
        refine me1 (pc' := 128) (L' := [(2, ii wk), (0, .ref 2), (1, ii (ln : Int))]) (S' := [.ref 2, .ref 2]) dm_X11_line_127 rfl rfl rfl rfl ?_
        refine me3 (pc' := 131) (S' := [.ref 16, .ref 2]) dm_X11_line_128 (g_get (v := .ref 16) b2 rfl rfl (by decide)) rfl rfl rfl ?_
        refine me1 (pc' := 132) (L' := [(2, ii wk), (0, .ref 2), (1, ii (ln : Int))]) (S' := [.ref 2, .ref 16, .ref 2]) dm_X11_line_131 rfl rfl rfl rfl ?_
        refine me3 (pc' := 135) (S' := [.ref 13, .ref 16, .ref 2]) dm_X11_line_132 (g_get (v := .ref 13) b2 rfl rfl (by decide)) rfl rfl rfl ?_
        refine x_cp (pc' := 138) (v := .ref op) (rest := [.ref 16, .ref 2]) dm_X11_line_135 rfl (g_inv (As := []) (S := [.ref 16, .ref 2]) b13 rfl rfl rfl (by decide)) rfl rfl rfl (d_first (by omega) b13) ?_
        refine x_cv (pc' := 141) (rest := [.ref 2]) dm_X11_line_138 rfl (g_inv (As := [.ref op]) (S := [.ref 2]) b16 rfl rfl rfl (by decide)) rfl rfl rfl (hrun h3 hQ3) ?_
        rintro _ h5 ⟨rfl, hQ5⟩
        obtain ⟨c2l, c2⟩ := hX5 h5 hQ5
        refine x_cn (pc' := 144) (rest := []) dm_X11_line_141 rfl (g_inv (As := [.null]) (S := []) c2 rfl rfl rfl (by decide)) rfl rfl rfl (hti h5 hQ5) ?_
        rintro h6 hQ6
        obtain ⟨qr6, qp6, le6, lp6, lw6, e2, tp3, dp3, ca3, ou3, wk3, er3, pl3, lv3, nw3, vx3, vy3, dg3, lf3, rt3, e16⟩ := hX6 h6 hQ6
        refine me1 (pc' := 145) (L' := [(2, ii wk), (0, .ref 2), (1, ii (ln : Int))]) (S' := [.ref 2]) dm_X11_line_144 rfl rfl rfl rfl ?_
        refine me1 (pc' := 146) (L' := [(2, ii wk), (0, .ref 2), (1, ii (ln : Int))]) (S' := [ii wk, .ref 2]) dm_X11_line_145 rfl rfl rfl rfl ?_
        refine me1 (pc' := 147) (L' := [(2, ii wk), (0, .ref 2), (1, ii (ln : Int))]) (S' := [.ref 2, ii wk, .ref 2]) dm_X11_line_146 rfl rfl rfl rfl ?_
        refine me3 (pc' := 150) (S' := [.ref 16, ii wk, .ref 2]) dm_X11_line_147 (g_get (v := .ref 16) e2 rfl rfl (by decide)) rfl rfl rfl ?_
        refine x_cp (pc' := 153) (v := ii wk3) (rest := [ii wk, .ref 2]) dm_X11_line_150 rfl (g_inv (As := []) (S := [ii wk, .ref 2]) e16 rfl rfl rfl (by decide)) rfl rfl rfl (m_workLeft (by omega) e16) ?_
        refine y_isub (a := wk) (b := wk3) dm_X11_line_153 (pc' := 154) rfl ?_
        refine me3 (pc' := 157) (S' := []) (h1 := (h6).set 2 (cO 11 [.ref 3, ii 0, .ref 4, .ref 9, .ref 13, .ref 15, .ref 16, .ref 98, .ref qr6, .ref qp6, ii le6, ii lp6, ii (wk - wk3)])) dm_X11_line_154 (g_put (fs' := [.ref 3, ii 0, .ref 4, .ref 9, .ref 13, .ref 15, .ref 16, .ref 98, .ref qr6, .ref qp6, ii le6, ii lp6, ii (wk - wk3)]) e2 rfl rfl rfl (by simp) rfl (by decide) (fun z => by cases z) (by decide)) rfl rfl rfl ?_
        refine me1 (pc' := 158) (L' := [(2, ii wk), (0, .ref 2), (1, ii (ln : Int))]) (S' := [.ref 2]) dm_X11_line_157 rfl rfl rfl rfl ?_
        refine me1 (pc' := 159) (L' := [(2, ii wk), (0, .ref 2), (1, ii (ln : Int))]) (S' := [.ref 2, .ref 2]) dm_X11_line_158 rfl rfl rfl rfl ?_
        refine me3 (pc' := 162) (S' := [.ref qr6, .ref 2]) dm_X11_line_159 (g_get (v := .ref qr6) (hl_set (hl_lt e2)) rfl rfl (by decide)) rfl rfl rfl ?_
        refine me3 (pc' := 165) (S' := []) (h1 := (h6).set 2 (cO 11 [.ref 3, ii 0, .ref 4, .ref 9, .ref 13, .ref 15, .ref 16, .ref 98, .ref qr6, .ref qr6, ii le6, ii lp6, ii (wk - wk3)])) dm_X11_line_162 (g_put (fs' := [.ref 3, ii 0, .ref 4, .ref 9, .ref 13, .ref 15, .ref 16, .ref 98, .ref qr6, .ref qr6, ii le6, ii lp6, ii (wk - wk3)]) (hl_set (hl_lt e2)) rfl (by rw [List.set_set]) rfl (by simp) rfl (by decide) (fun z => by cases z) (by decide)) rfl rfl rfl ?_
        refine me1 (pc' := 166) (L' := [(2, ii wk), (0, .ref 2), (1, ii (ln : Int))]) (S' := [.ref 2]) dm_X11_line_165 rfl rfl rfl rfl ?_
        refine me3 (pc' := 169) (S' := [ii le6]) dm_X11_line_166 (g_get (v := ii le6) (hl_set (hl_lt e2)) rfl rfl (by decide)) rfl rfl rfl ?_
        refine y_ineg (a := le6) dm_X11_line_169 (pc' := 170) rfl ?_
        refine y_ret (r := some (ii (-le6))) dm_X11_line_170 rfl rfl rfl ?_
        exact ⟨_, rfl, k _ _ _ _ _ _ _ _ _ _ _ _ _ _ _ _ _ _ _ _ hQ6 e2 e16⟩
      · exfalso; omega
    · exfalso; omega
theorem cl_val {xt : mj_X} {d qr qp : Nat} {h : mj_H} {fd le lp lw : Int} {Q : Value → mj_H → Prop} (hd : 10 ≤ d) (h2 : h[2]? = some (acC fd qr qp le lp lw)) {tp dp ca ou wk er pl lv : Int} {nw vx vy dg lf rt : Value} (h16 : h[16]? = some (mcC tp dp ca ou wk er pl nw vx vy dg lv lf rt)) {t9 : List Value} (h9 : h[9]? = some (cO 8 t9)) {ln : Nat} (hfd : 0 ≤ fd ∧ fd ≤ 300) (hln : (ln : Int) ≤ fd) {Q1 : mj_H → Prop} (hsp : pgN xt (d - 1) 17 [.ref 9, ii (ln : Int)] (h.set 2 (acC 0 qr qp le lp lw)) Q1) (hX1 : ∀ h1, Q1 h1 → h1[2]? = some (acC 0 qr qp le lp lw) ∧ ∃ c, h1[13]? = some (cO 7 c)) {ls : Int} {nm : Int64} {op : Nat} {Q3 : mj_H → Prop} (hrd : ∀ h1, Q1 h1 → pgV xt (d - 1) 35 [.ref 13] h1 (fun x h3 => x = ii 1 ∧ Q3 h3)) (hX3 : ∀ h3, Q3 h3 → h3[2]? = some (acC 0 qr qp le lp lw) ∧ (∃ c, h3[9]? = some (cO 8 c)) ∧ (∃ c, h3[4]? = some (cO 2 c)) ∧ ∃ (at_ wr : Int) (tl : Value), h3[13]? = some (rdC at_ wr ls nm (.ref op) tl) ∧ ∃ (tp2 dp2 ca2 ou2 wk2 er2 pl2 lv2 : Int) (nw2 vx2 vy2 dg2 lf2 rt2 : Value), h3[16]? = some (mcC tp2 dp2 ca2 ou2 wk2 er2 pl2 nw2 vx2 vy2 dg2 lv2 lf2 rt2)) (hone : ∀ h3, Q3 h3 → pgP xt (d - 1) 60 [.ref 2] h3 (ii 0)) (hls : ls ≠ 2 ∧ 0 ≤ ls ∧ ls ≤ 10) {Q5 : Nat → mj_H → Prop} (hrun : ∀ h3, Q3 h3 → pgV xt (d - 1) 70 [.ref 16, .ref op] h3 (fun x h5 => ∃ q5 : Nat, x = .ref q5 ∧ Q5 q5 h5)) (hX5 : ∀ (h5 : mj_H) (q5 : Nat), Q5 q5 h5 → ∃ c, h5[2]? = some (cO 11 c)) {Q6 : mj_H → Prop} (hti : ∀ (h5 : mj_H) (q5 : Nat), Q5 q5 h5 → pgN xt (d - 1) 176 [.ref 2, .ref q5] h5 Q6) (hX6 : ∀ h6, Q6 h6 → ∃ (qr6 qp6 : Nat) (le6 lp6 lw6 : Int), h6[2]? = some (acC 0 qr6 qp6 le6 lp6 lw6) ∧ ∃ (tp3 dp3 ca3 ou3 wk3 er3 pl3 lv3 : Int) (nw3 vx3 vy3 dg3 lf3 rt3 : Value), h6[16]? = some (mcC tp3 dp3 ca3 ou3 wk3 er3 pl3 nw3 vx3 vy3 dg3 lv3 lf3 rt3)) (k : ∀ h6 (qr6 qp6 : Nat) (le6 lp6 lw6 : Int) (tp3 dp3 ca3 ou3 wk3 er3 pl3 lv3 : Int) (nw3 vx3 vy3 dg3 lf3 rt3 : Value), Q6 h6 → h6[2]? = some (acC 0 qr6 qp6 le6 lp6 lw6) → h6[16]? = some (mcC tp3 dp3 ca3 ou3 wk3 er3 pl3 nw3 vx3 vy3 dg3 lv3 lf3 rt3) → Q (ii (-le6)) (h6.set 2 (acC 0 qr6 qr6 le6 lp6 (wk - wk3)))) : pgV xt d 15 [.ref 2, ii (ln : Int)] h Q := by
  refine x_enter pm_X11_line (L0 := [(0, .ref 2), (1, ii (ln : Int))]) rfl (Nat.le_of_ble_eq_true rfl) (by omega) ?_
  refine me1 (pc' := 1) (L' := [(0, .ref 2), (1, ii (ln : Int))]) (S' := [ii (ln : Int)]) dm_X11_line_0 rfl rfl rfl rfl ?_
  refine y_1lt (a := (ln : Int)) (t := 12) (pc' := 4) dm_X11_line_1 rfl rfl (by omega) (fun hb1 => ?_) (fun hb1 => ?_)
  · exfalso; omega
  · refine me1 (pc' := 5) (L' := [(0, .ref 2), (1, ii (ln : Int))]) (S' := [ii (ln : Int)]) dm_X11_line_4 rfl rfl rfl rfl ?_
    refine me1 (pc' := 6) (L' := [(0, .ref 2), (1, ii (ln : Int))]) (S' := [.ref 2, ii (ln : Int)]) dm_X11_line_5 rfl rfl rfl rfl ?_
    refine me3 (pc' := 9) (S' := [ii fd, ii (ln : Int)]) dm_X11_line_6 (g_get (v := ii fd) h2 rfl rfl (by decide)) rfl rfl rfl ?_
    refine y_2le (a := (ln : Int)) (b := fd) (t := 15) (pc' := 12) dm_X11_line_9 rfl rfl (by omega) (fun hb2 => ?_) (fun hb2 => ?_)
    · refine me1 (pc' := 16) (L' := [(0, .ref 2), (1, ii (ln : Int))]) (S' := [.ref 2]) dm_X11_line_15 rfl rfl rfl rfl ?_
      refine me0 (pc' := 17) (S' := [ii 0, .ref 2]) dm_X11_line_16 rfl rfl rfl rfl ?_
      refine me3 (pc' := 20) (S' := []) (h1 := (h).set 2 (cO 11 [.ref 3, ii 0, .ref 4, .ref 9, .ref 13, .ref 15, .ref 16, .ref 98, .ref qr, .ref qp, ii le, ii lp, ii lw])) dm_X11_line_17 (g_put (fs' := [.ref 3, ii 0, .ref 4, .ref 9, .ref 13, .ref 15, .ref 16, .ref 98, .ref qr, .ref qp, ii le, ii lp, ii lw]) h2 rfl rfl rfl (by simp) rfl (by decide) (fun z => by cases z) (by decide)) rfl rfl rfl ?_
      refine me1 (pc' := 21) (L' := [(0, .ref 2), (1, ii (ln : Int))]) (S' := [.ref 2]) dm_X11_line_20 rfl rfl rfl rfl ?_
      refine me3 (pc' := 24) (S' := [.ref 16]) dm_X11_line_21 (g_get (v := .ref 16) (hl_set (hl_lt h2)) rfl rfl (by decide)) rfl rfl rfl ?_
      refine x_cp (pc' := 27) (v := ii wk) (rest := []) dm_X11_line_24 rfl (g_inv (As := []) (S := []) (hl_ne (by decide) h16) rfl rfl rfl (by decide)) rfl rfl rfl (m_workLeft (by omega) (hl_ne (by decide) h16)) ?_
      refine me1 (pc' := 28) (L' := [(2, ii wk), (0, .ref 2), (1, ii (ln : Int))]) (S' := []) dm_X11_line_27 rfl rfl rfl rfl ?_
      refine me1 (pc' := 29) (L' := [(2, ii wk), (0, .ref 2), (1, ii (ln : Int))]) (S' := [.ref 2]) dm_X11_line_28 rfl rfl rfl rfl ?_
      refine me3 (pc' := 32) (S' := [.ref 9]) dm_X11_line_29 (g_get (v := .ref 9) (hl_set (hl_lt h2)) rfl rfl (by decide)) rfl rfl rfl ?_
      refine me1 (pc' := 33) (L' := [(2, ii wk), (0, .ref 2), (1, ii (ln : Int))]) (S' := [ii (ln : Int), .ref 9]) dm_X11_line_32 rfl rfl rfl rfl ?_
      refine x_cn (pc' := 36) (rest := []) dm_X11_line_33 rfl (g_inv (As := [ii (ln : Int)]) (S := []) (hl_ne (by decide) h9) rfl rfl rfl (by decide)) rfl rfl rfl (hsp) ?_
      rintro h1 hQ1
      obtain ⟨a2, c13, a13⟩ := hX1 h1 hQ1
      refine me1 (pc' := 37) (L' := [(2, ii wk), (0, .ref 2), (1, ii (ln : Int))]) (S' := [.ref 2]) dm_X11_line_36 rfl rfl rfl rfl ?_
      refine me3 (pc' := 40) (S' := [.ref 13]) dm_X11_line_37 (g_get (v := .ref 13) a2 rfl rfl (by decide)) rfl rfl rfl ?_
      refine x_cv (pc' := 43) (rest := []) dm_X11_line_40 rfl (g_inv (As := []) (S := []) a13 rfl rfl rfl (by decide)) rfl rfl rfl (hrd h1 hQ1) ?_
      rintro _ h3 ⟨rfl, hQ3⟩
      obtain ⟨b2, ⟨c9, b9⟩, ⟨c4, b4⟩, at_, wr, tl, b13, tp2, dp2, ca2, ou2, wk2, er2, pl2, lv2, nw2, vx2, vy2, dg2, lf2, rt2, b16⟩ := hX3 h3 hQ3
      refine me_1t (pc' := 61) dm_X11_line_43 rfl (by decide) ?_
      refine me1 (pc' := 62) (L' := [(2, ii wk), (0, .ref 2), (1, ii (ln : Int))]) (S' := [.ref 2]) dm_X11_line_61 rfl rfl rfl rfl ?_
      refine x_cp (pc' := 65) (v := ii 0) (rest := []) dm_X11_line_62 rfl (g_inv (As := []) (S := []) b2 rfl rfl rfl (by decide)) rfl rfl rfl (hone h3 hQ3) ?_
      refine me_1t (pc' := 85) dm_X11_line_65 rfl (by decide) ?_
      refine me1 (pc' := 86) (L' := [(2, ii wk), (0, .ref 2), (1, ii (ln : Int))]) (S' := [.ref 2]) dm_X11_line_85 rfl rfl rfl rfl ?_
      refine me3 (pc' := 89) (S' := [.ref 13]) dm_X11_line_86 (g_get (v := .ref 13) b2 rfl rfl (by decide)) rfl rfl rfl ?_
      refine x_cp (pc' := 92) (v := ii ls) (rest := []) dm_X11_line_89 rfl (g_inv (As := []) (S := []) b13 rfl rfl rfl (by decide)) rfl rfl rfl (d_sort (by omega) b13) ?_
      refine me0 (pc' := 93) (S' := [ii 2, ii ls]) dm_X11_line_92 rfl rfl rfl rfl ?_
      refine y_2ne (a := ls) (b := 2) (t := 126) (pc' := 96) dm_X11_line_93 rfl rfl (by omega) (fun hb3 => ?_) (fun hb3 => ?_)
      · refine me1 (pc' := 127) (L' := [(2, ii wk), (0, .ref 2), (1, ii (ln : Int))]) (S' := [.ref 2]) dm_X11_line_126 rfl rfl rfl rfl ?_
        refine me1 (pc' := 128) (L' := [(2, ii wk), (0, .ref 2), (1, ii (ln : Int))]) (S' := [.ref 2, .ref 2]) dm_X11_line_127 rfl rfl rfl rfl ?_
        refine me3 (pc' := 131) (S' := [.ref 16, .ref 2]) dm_X11_line_128 (g_get (v := .ref 16) b2 rfl rfl (by decide)) rfl rfl rfl ?_
        refine me1 (pc' := 132) (L' := [(2, ii wk), (0, .ref 2), (1, ii (ln : Int))]) (S' := [.ref 2, .ref 16, .ref 2]) dm_X11_line_131 rfl rfl rfl rfl ?_
        refine me3 (pc' := 135) (S' := [.ref 13, .ref 16, .ref 2]) dm_X11_line_132 (g_get (v := .ref 13) b2 rfl rfl (by decide)) rfl rfl rfl ?_
        refine x_cp (pc' := 138) (v := .ref op) (rest := [.ref 16, .ref 2]) dm_X11_line_135 rfl (g_inv (As := []) (S := [.ref 16, .ref 2]) b13 rfl rfl rfl (by decide)) rfl rfl rfl (d_first (by omega) b13) ?_
        refine x_cv (pc' := 141) (rest := [.ref 2]) dm_X11_line_138 rfl (g_inv (As := [.ref op]) (S := [.ref 2]) b16 rfl rfl rfl (by decide)) rfl rfl rfl (hrun h3 hQ3) ?_
        rintro _ h5 ⟨q5, rfl, hQ5⟩
        obtain ⟨c2l, c2⟩ := hX5 h5 q5 hQ5
        refine x_cn (pc' := 144) (rest := []) dm_X11_line_141 rfl (g_inv (As := [.ref q5]) (S := []) c2 rfl rfl rfl (by decide)) rfl rfl rfl (hti h5 q5 hQ5) ?_
        rintro h6 hQ6
        obtain ⟨qr6, qp6, le6, lp6, lw6, e2, tp3, dp3, ca3, ou3, wk3, er3, pl3, lv3, nw3, vx3, vy3, dg3, lf3, rt3, e16⟩ := hX6 h6 hQ6
        refine me1 (pc' := 145) (L' := [(2, ii wk), (0, .ref 2), (1, ii (ln : Int))]) (S' := [.ref 2]) dm_X11_line_144 rfl rfl rfl rfl ?_
        refine me1 (pc' := 146) (L' := [(2, ii wk), (0, .ref 2), (1, ii (ln : Int))]) (S' := [ii wk, .ref 2]) dm_X11_line_145 rfl rfl rfl rfl ?_
        refine me1 (pc' := 147) (L' := [(2, ii wk), (0, .ref 2), (1, ii (ln : Int))]) (S' := [.ref 2, ii wk, .ref 2]) dm_X11_line_146 rfl rfl rfl rfl ?_
        refine me3 (pc' := 150) (S' := [.ref 16, ii wk, .ref 2]) dm_X11_line_147 (g_get (v := .ref 16) e2 rfl rfl (by decide)) rfl rfl rfl ?_
        refine x_cp (pc' := 153) (v := ii wk3) (rest := [ii wk, .ref 2]) dm_X11_line_150 rfl (g_inv (As := []) (S := [ii wk, .ref 2]) e16 rfl rfl rfl (by decide)) rfl rfl rfl (m_workLeft (by omega) e16) ?_
        refine y_isub (a := wk) (b := wk3) dm_X11_line_153 (pc' := 154) rfl ?_
        refine me3 (pc' := 157) (S' := []) (h1 := (h6).set 2 (cO 11 [.ref 3, ii 0, .ref 4, .ref 9, .ref 13, .ref 15, .ref 16, .ref 98, .ref qr6, .ref qp6, ii le6, ii lp6, ii (wk - wk3)])) dm_X11_line_154 (g_put (fs' := [.ref 3, ii 0, .ref 4, .ref 9, .ref 13, .ref 15, .ref 16, .ref 98, .ref qr6, .ref qp6, ii le6, ii lp6, ii (wk - wk3)]) e2 rfl rfl rfl (by simp) rfl (by decide) (fun z => by cases z) (by decide)) rfl rfl rfl ?_
        refine me1 (pc' := 158) (L' := [(2, ii wk), (0, .ref 2), (1, ii (ln : Int))]) (S' := [.ref 2]) dm_X11_line_157 rfl rfl rfl rfl ?_
        refine me1 (pc' := 159) (L' := [(2, ii wk), (0, .ref 2), (1, ii (ln : Int))]) (S' := [.ref 2, .ref 2]) dm_X11_line_158 rfl rfl rfl rfl ?_
        refine me3 (pc' := 162) (S' := [.ref qr6, .ref 2]) dm_X11_line_159 (g_get (v := .ref qr6) (hl_set (hl_lt e2)) rfl rfl (by decide)) rfl rfl rfl ?_
        refine me3 (pc' := 165) (S' := []) (h1 := (h6).set 2 (cO 11 [.ref 3, ii 0, .ref 4, .ref 9, .ref 13, .ref 15, .ref 16, .ref 98, .ref qr6, .ref qr6, ii le6, ii lp6, ii (wk - wk3)])) dm_X11_line_162 (g_put (fs' := [.ref 3, ii 0, .ref 4, .ref 9, .ref 13, .ref 15, .ref 16, .ref 98, .ref qr6, .ref qr6, ii le6, ii lp6, ii (wk - wk3)]) (hl_set (hl_lt e2)) rfl (by rw [List.set_set]) rfl (by simp) rfl (by decide) (fun z => by cases z) (by decide)) rfl rfl rfl ?_
        refine me1 (pc' := 166) (L' := [(2, ii wk), (0, .ref 2), (1, ii (ln : Int))]) (S' := [.ref 2]) dm_X11_line_165 rfl rfl rfl rfl ?_
        refine me3 (pc' := 169) (S' := [ii le6]) dm_X11_line_166 (g_get (v := ii le6) (hl_set (hl_lt e2)) rfl rfl (by decide)) rfl rfl rfl ?_
        refine y_ineg (a := le6) dm_X11_line_169 (pc' := 170) rfl ?_
        refine y_ret (r := some (ii (-le6))) dm_X11_line_170 rfl rfl rfl ?_
        exact ⟨_, rfl, k _ _ _ _ _ _ _ _ _ _ _ _ _ _ _ _ _ _ _ _ hQ6 e2 e16⟩
      · exfalso; omega
    · exfalso; omega
set_option maxRecDepth 20000 in
theorem pm_X11_takeIn : mj_mmof pg_ms 176 = some ((⟨"ArrayCalculator", "takeIn", "(LArrayCalculator$Value;)V"⟩, prog_1_method_7_code, 2, (Option.none : Option Jvm.ClassFile.FieldType)), 11, false, mj_dec prog_1_method_7_code) := rfl
theorem dm_X11_takeIn_0 : mj_dec prog_1_method_7_code 0 = some (.aload_n 1, 1) := by decide +kernel
theorem dm_X11_takeIn_1 : mj_dec prog_1_method_7_code 1 = some (.ifnonnull 22, 3) := by decide +kernel
theorem dm_X11_takeIn_4 : mj_dec prog_1_method_7_code 4 = some (.aload_n 0, 1) := by decide +kernel
theorem dm_X11_takeIn_5 : mj_dec prog_1_method_7_code 5 = some (.aload_n 0, 1) := by decide +kernel
theorem dm_X11_takeIn_6 : mj_dec prog_1_method_7_code 6 = some (.getfield 47, 3) := by decide +kernel
theorem dm_X11_takeIn_9 : mj_dec prog_1_method_7_code 9 = some (.invokevirtual 144, 3) := by decide +kernel
theorem dm_X11_takeIn_12 : mj_dec prog_1_method_7_code 12 = some (.aload_n 0, 1) := by decide +kernel
theorem dm_X11_takeIn_13 : mj_dec prog_1_method_7_code 13 = some (.getfield 47, 3) := by decide +kernel
theorem dm_X11_takeIn_16 : mj_dec prog_1_method_7_code 16 = some (.invokevirtual 147, 3) := by decide +kernel
theorem dm_X11_takeIn_19 : mj_dec prog_1_method_7_code 19 = some (.invokevirtual 97, 3) := by decide +kernel
theorem dm_X11_takeIn_22 : mj_dec prog_1_method_7_code 22 = some (.return_, 1) := by decide +kernel
theorem ti_err {xt : mj_X} {d qr qp : Nat} {h : mj_H} {fd le lp lw : Int} {Q : mj_H → Prop} (hd : 3 ≤ d) (h2 : h[2]? = some (acC fd qr qp le lp lw)) {tp dp ca ou wk er pl lv : Int} {nw vx vy dg lf rt : Value} (h16 : h[16]? = some (mcC tp dp ca ou wk er pl nw vx vy dg lv lf rt)) (k : Q (h.set 2 (acC fd qr qp er pl lw))) : pgN xt d 176 [.ref 2, .null] h Q := by
  refine x_enter pm_X11_takeIn (L0 := [(0, .ref 2), (1, .null)]) rfl (Nat.le_of_ble_eq_true rfl) (by omega) ?_
  refine me1 (pc' := 1) (L' := [(0, .ref 2), (1, .null)]) (S' := [.null]) dm_X11_takeIn_0 rfl rfl rfl rfl ?_
  refine me2 (pc' := 4) (S' := []) dm_X11_takeIn_1 rfl rfl rfl ?_
  refine me1 (pc' := 5) (L' := [(0, .ref 2), (1, .null)]) (S' := [.ref 2]) dm_X11_takeIn_4 rfl rfl rfl rfl ?_
  refine me1 (pc' := 6) (L' := [(0, .ref 2), (1, .null)]) (S' := [.ref 2, .ref 2]) dm_X11_takeIn_5 rfl rfl rfl rfl ?_
  refine me3 (pc' := 9) (S' := [.ref 16, .ref 2]) dm_X11_takeIn_6 (g_get (v := .ref 16) h2 rfl rfl (by decide)) rfl rfl rfl ?_
  refine x_cp (pc' := 12) (v := ii er) (rest := [.ref 2]) dm_X11_takeIn_9 rfl (g_inv (As := []) (S := [.ref 2]) h16 rfl rfl rfl (by decide)) rfl rfl rfl (m_error (by omega) h16) ?_
  refine me1 (pc' := 13) (L' := [(0, .ref 2), (1, .null)]) (S' := [.ref 2, ii er, .ref 2]) dm_X11_takeIn_12 rfl rfl rfl rfl ?_
  refine me3 (pc' := 16) (S' := [.ref 16, ii er, .ref 2]) dm_X11_takeIn_13 (g_get (v := .ref 16) h2 rfl rfl (by decide)) rfl rfl rfl ?_
  refine x_cp (pc' := 19) (v := ii pl) (rest := [ii er, .ref 2]) dm_X11_takeIn_16 rfl (g_inv (As := []) (S := [ii er, .ref 2]) h16 rfl rfl rfl (by decide)) rfl rfl rfl (m_errorPlace (by omega) h16) ?_
  refine x_cn (pc' := 22) (rest := []) dm_X11_takeIn_19 rfl (g_inv (As := [ii er, ii pl]) (S := []) h2 rfl rfl rfl (by decide)) rfl rfl rfl (a_endLine (by omega) h2 (H := (h).set 2 (cO 11 [.ref 3, ii fd, .ref 4, .ref 9, .ref 13, .ref 15, .ref 16, .ref 98, .ref qr, .ref qp, ii er, ii pl, ii lw])) rfl) ?_
  rintro _ rfl
  refine y_ret (r := none) dm_X11_takeIn_22 rfl rfl rfl ?_
  exact ⟨rfl, k⟩
theorem dm_X11_takeIn_23 : mj_dec prog_1_method_7_code 23 = some (.aload_n 0, 1) := by decide +kernel
theorem dm_X11_takeIn_24 : mj_dec prog_1_method_7_code 24 = some (.getfield 34, 3) := by decide +kernel
theorem dm_X11_takeIn_27 : mj_dec prog_1_method_7_code 27 = some (.invokevirtual 108, 3) := by decide +kernel
theorem dm_X11_takeIn_30 : mj_dec prog_1_method_7_code 30 = some (.ifCond .eq 18, 3) := by decide +kernel
theorem dm_X11_takeIn_48 : mj_dec prog_1_method_7_code 48 = some (.aload_n 0, 1) := by decide +kernel
theorem dm_X11_takeIn_49 : mj_dec prog_1_method_7_code 49 = some (.aload_n 1, 1) := by decide +kernel
theorem dm_X11_takeIn_50 : mj_dec prog_1_method_7_code 50 = some (.putfield 66, 3) := by decide +kernel
theorem dm_X11_takeIn_53 : mj_dec prog_1_method_7_code 53 = some (.aload_n 0, 1) := by decide +kernel
theorem dm_X11_takeIn_54 : mj_dec prog_1_method_7_code 54 = some (.iconst 0, 1) := by decide +kernel
theorem dm_X11_takeIn_55 : mj_dec prog_1_method_7_code 55 = some (.iconst (-1), 1) := by decide +kernel
theorem dm_X11_takeIn_56 : mj_dec prog_1_method_7_code 56 = some (.invokevirtual 97, 3) := by decide +kernel
theorem dm_X11_takeIn_59 : mj_dec prog_1_method_7_code 59 = some (.return_, 1) := by decide +kernel
theorem ti_plain {xt : mj_X} {d qr qp : Nat} {h : mj_H} {fd le lp lw : Int} {Q : mj_H → Prop} (hd : 3 ≤ d) (h2 : h[2]? = some (acC fd qr qp le lp lw)) {at_ wr ls : Int} {nm : Int64} {st tl : Value} (h13 : h[13]? = some (rdC at_ wr ls nm st tl)) {q : Nat} (hls : ls = 0) (k : Q (h.set 2 (acC fd q qp 0 (-1) lw))) : pgN xt d 176 [.ref 2, .ref q] h Q := by
  refine x_enter pm_X11_takeIn (L0 := [(0, .ref 2), (1, .ref q)]) rfl (Nat.le_of_ble_eq_true rfl) (by omega) ?_
  refine me1 (pc' := 1) (L' := [(0, .ref 2), (1, .ref q)]) (S' := [.ref q]) dm_X11_takeIn_0 rfl rfl rfl rfl ?_
  refine me2 (pc' := 23) (S' := []) dm_X11_takeIn_1 rfl rfl rfl ?_
  refine me1 (pc' := 24) (L' := [(0, .ref 2), (1, .ref q)]) (S' := [.ref 2]) dm_X11_takeIn_23 rfl rfl rfl rfl ?_
  refine me3 (pc' := 27) (S' := [.ref 13]) dm_X11_takeIn_24 (g_get (v := .ref 13) h2 rfl rfl (by decide)) rfl rfl rfl ?_
  refine x_cp (pc' := 30) (v := ii ls) (rest := []) dm_X11_takeIn_27 rfl (g_inv (As := []) (S := []) h13 rfl rfl rfl (by decide)) rfl rfl rfl (d_sort (by omega) h13) ?_
  refine y_1eq (a := ls) (t := 48) (pc' := 33) dm_X11_takeIn_30 rfl rfl (by omega) (fun hb1 => ?_) (fun hb1 => ?_)
  · refine me1 (pc' := 49) (L' := [(0, .ref 2), (1, .ref q)]) (S' := [.ref 2]) dm_X11_takeIn_48 rfl rfl rfl rfl ?_
    refine me1 (pc' := 50) (L' := [(0, .ref 2), (1, .ref q)]) (S' := [.ref q, .ref 2]) dm_X11_takeIn_49 rfl rfl rfl rfl ?_
    refine me3 (pc' := 53) (S' := []) (h1 := (h).set 2 (cO 11 [.ref 3, ii fd, .ref 4, .ref 9, .ref 13, .ref 15, .ref 16, .ref 98, .ref q, .ref qp, ii le, ii lp, ii lw])) dm_X11_takeIn_50 (g_put (fs' := [.ref 3, ii fd, .ref 4, .ref 9, .ref 13, .ref 15, .ref 16, .ref 98, .ref q, .ref qp, ii le, ii lp, ii lw]) h2 rfl rfl rfl (by simp) rfl (by decide) (fun z => by cases z) (by decide)) rfl rfl rfl ?_
    refine me1 (pc' := 54) (L' := [(0, .ref 2), (1, .ref q)]) (S' := [.ref 2]) dm_X11_takeIn_53 rfl rfl rfl rfl ?_
    refine me0 (pc' := 55) (S' := [ii 0, .ref 2]) dm_X11_takeIn_54 rfl rfl rfl rfl ?_
    refine me0 (pc' := 56) (S' := [ii (-1), ii 0, .ref 2]) dm_X11_takeIn_55 rfl rfl rfl rfl ?_
    refine x_cn (pc' := 59) (rest := []) dm_X11_takeIn_56 rfl (g_inv (As := [ii 0, ii (-1)]) (S := []) (hl_set (hl_lt h2)) rfl rfl rfl (by decide)) rfl rfl rfl (a_endLine (by omega) (hl_set (hl_lt h2)) (H := (h).set 2 (cO 11 [.ref 3, ii fd, .ref 4, .ref 9, .ref 13, .ref 15, .ref 16, .ref 98, .ref q, .ref qp, ii 0, ii (-1), ii lw])) (by rw [List.set_set])) ?_
    rintro _ rfl
    refine y_ret (r := none) dm_X11_takeIn_59 rfl rfl rfl ?_
    exact ⟨rfl, k⟩
  · exfalso; omega
theorem dm_X11_takeIn_33 : mj_dec prog_1_method_7_code 33 = some (.aload_n 0, 1) := by decide +kernel
theorem dm_X11_takeIn_34 : mj_dec prog_1_method_7_code 34 = some (.getfield 16, 3) := by decide +kernel
theorem dm_X11_takeIn_37 : mj_dec prog_1_method_7_code 37 = some (.aload_n 0, 1) := by decide +kernel
theorem dm_X11_takeIn_38 : mj_dec prog_1_method_7_code 38 = some (.getfield 34, 3) := by decide +kernel
theorem dm_X11_takeIn_41 : mj_dec prog_1_method_7_code 41 = some (.invokevirtual 111, 3) := by decide +kernel
theorem dm_X11_takeIn_44 : mj_dec prog_1_method_7_code 44 = some (.aload_n 1, 1) := by decide +kernel
theorem dm_X11_takeIn_45 : mj_dec prog_1_method_7_code 45 = some (.invokevirtual 150, 3) := by decide +kernel
theorem ti_give {xt : mj_X} {d qr qp : Nat} {h : mj_H} {fd le lp lw : Int} {Q : mj_H → Prop} (hd : 3 ≤ d) (h2 : h[2]? = some (acC fd qr qp le lp lw)) {at_ wr ls : Int} {nm : Int64} {st tl : Value} (h13 : h[13]? = some (rdC at_ wr ls nm st tl)) {c4 : List Value} (h4 : h[4]? = some (cO 2 c4)) {q : Nat} (hls : ls ≠ 0 ∧ 0 ≤ ls ∧ ls ≤ 10) {Q1 : mj_H → Prop} (hgv : pgN xt (d - 1) 179 [.ref 4, .long nm, .ref q] h Q1) (hX1 : ∀ h1, Q1 h1 → h1[2]? = some (acC fd qr qp le lp lw)) (k : ∀ h1, Q1 h1 → Q (h1.set 2 (acC fd q qp 0 (-1) lw))) : pgN xt d 176 [.ref 2, .ref q] h Q := by
  refine x_enter pm_X11_takeIn (L0 := [(0, .ref 2), (1, .ref q)]) rfl (Nat.le_of_ble_eq_true rfl) (by omega) ?_
  refine me1 (pc' := 1) (L' := [(0, .ref 2), (1, .ref q)]) (S' := [.ref q]) dm_X11_takeIn_0 rfl rfl rfl rfl ?_
  refine me2 (pc' := 23) (S' := []) dm_X11_takeIn_1 rfl rfl rfl ?_
  refine me1 (pc' := 24) (L' := [(0, .ref 2), (1, .ref q)]) (S' := [.ref 2]) dm_X11_takeIn_23 rfl rfl rfl rfl ?_
  refine me3 (pc' := 27) (S' := [.ref 13]) dm_X11_takeIn_24 (g_get (v := .ref 13) h2 rfl rfl (by decide)) rfl rfl rfl ?_
  refine x_cp (pc' := 30) (v := ii ls) (rest := []) dm_X11_takeIn_27 rfl (g_inv (As := []) (S := []) h13 rfl rfl rfl (by decide)) rfl rfl rfl (d_sort (by omega) h13) ?_
  refine y_1eq (a := ls) (t := 48) (pc' := 33) dm_X11_takeIn_30 rfl rfl (by omega) (fun hb1 => ?_) (fun hb1 => ?_)
  · exfalso; omega
  · refine me1 (pc' := 34) (L' := [(0, .ref 2), (1, .ref q)]) (S' := [.ref 2]) dm_X11_takeIn_33 rfl rfl rfl rfl ?_
    refine me3 (pc' := 37) (S' := [.ref 4]) dm_X11_takeIn_34 (g_get (v := .ref 4) h2 rfl rfl (by decide)) rfl rfl rfl ?_
    refine me1 (pc' := 38) (L' := [(0, .ref 2), (1, .ref q)]) (S' := [.ref 2, .ref 4]) dm_X11_takeIn_37 rfl rfl rfl rfl ?_
    refine me3 (pc' := 41) (S' := [.ref 13, .ref 4]) dm_X11_takeIn_38 (g_get (v := .ref 13) h2 rfl rfl (by decide)) rfl rfl rfl ?_
    refine x_cp (pc' := 44) (v := .long nm) (rest := [.ref 4]) dm_X11_takeIn_41 rfl (g_inv (As := []) (S := [.ref 4]) h13 rfl rfl rfl (by decide)) rfl rfl rfl (d_named (by omega) h13) ?_
    refine me1 (pc' := 45) (L' := [(0, .ref 2), (1, .ref q)]) (S' := [.ref q, .long nm, .ref 4]) dm_X11_takeIn_44 rfl rfl rfl rfl ?_
    refine x_cn (pc' := 48) (rest := []) dm_X11_takeIn_45 rfl (g_inv (As := [.long nm, .ref q]) (S := []) h4 rfl rfl rfl (by decide)) rfl rfl rfl (hgv) ?_
    rintro h1 hQ1
    have a2 := hX1 h1 hQ1
    refine me1 (pc' := 49) (L' := [(0, .ref 2), (1, .ref q)]) (S' := [.ref 2]) dm_X11_takeIn_48 rfl rfl rfl rfl ?_
    refine me1 (pc' := 50) (L' := [(0, .ref 2), (1, .ref q)]) (S' := [.ref q, .ref 2]) dm_X11_takeIn_49 rfl rfl rfl rfl ?_
    refine me3 (pc' := 53) (S' := []) (h1 := (h1).set 2 (cO 11 [.ref 3, ii fd, .ref 4, .ref 9, .ref 13, .ref 15, .ref 16, .ref 98, .ref q, .ref qp, ii le, ii lp, ii lw])) dm_X11_takeIn_50 (g_put (fs' := [.ref 3, ii fd, .ref 4, .ref 9, .ref 13, .ref 15, .ref 16, .ref 98, .ref q, .ref qp, ii le, ii lp, ii lw]) a2 rfl rfl rfl (by simp) rfl (by decide) (fun z => by cases z) (by decide)) rfl rfl rfl ?_
    refine me1 (pc' := 54) (L' := [(0, .ref 2), (1, .ref q)]) (S' := [.ref 2]) dm_X11_takeIn_53 rfl rfl rfl rfl ?_
    refine me0 (pc' := 55) (S' := [ii 0, .ref 2]) dm_X11_takeIn_54 rfl rfl rfl rfl ?_
    refine me0 (pc' := 56) (S' := [ii (-1), ii 0, .ref 2]) dm_X11_takeIn_55 rfl rfl rfl rfl ?_
    refine x_cn (pc' := 59) (rest := []) dm_X11_takeIn_56 rfl (g_inv (As := [ii 0, ii (-1)]) (S := []) (hl_set (hl_lt a2)) rfl rfl rfl (by decide)) rfl rfl rfl (a_endLine (by omega) (hl_set (hl_lt a2)) (H := (h1).set 2 (cO 11 [.ref 3, ii fd, .ref 4, .ref 9, .ref 13, .ref 15, .ref 16, .ref 98, .ref q, .ref qp, ii 0, ii (-1), ii lw])) (by rw [List.set_set])) ?_
    rintro _ rfl
    refine y_ret (r := none) dm_X11_takeIn_59 rfl rfl rfl ?_
    exact ⟨rfl, k h1 hQ1⟩
