set_option maxRecDepth 20000 in
theorem pm_X1_amend : mj_mmof pg_ms 169 = some ((⟨"ArrayCalculator$Machine", "amend", "(LArrayCalculator$Op;)V"⟩, prog_3_method_15_code, 5, (Option.none : Option Jvm.ClassFile.FieldType)), 1, false, mj_dec prog_3_method_15_code) := rfl
theorem dm_X1_amend_0 : mj_dec prog_3_method_15_code 0 = some (.aload_n 0, 1) := by decide +kernel
theorem dm_X1_amend_1 : mj_dec prog_3_method_15_code 1 = some (.invokevirtual 113, 3) := by decide +kernel
theorem dm_X1_amend_4 : mj_dec prog_3_method_15_code 4 = some (.astore_n 2, 1) := by decide +kernel
theorem dm_X1_amend_5 : mj_dec prog_3_method_15_code 5 = some (.aload_n 0, 1) := by decide +kernel
theorem dm_X1_amend_6 : mj_dec prog_3_method_15_code 6 = some (.invokevirtual 113, 3) := by decide +kernel
theorem dm_X1_amend_9 : mj_dec prog_3_method_15_code 9 = some (.astore_n 3, 1) := by decide +kernel
theorem dm_X1_amend_10 : mj_dec prog_3_method_15_code 10 = some (.aload_n 0, 1) := by decide +kernel
theorem dm_X1_amend_11 : mj_dec prog_3_method_15_code 11 = some (.invokevirtual 113, 3) := by decide +kernel
theorem dm_X1_amend_14 : mj_dec prog_3_method_15_code 14 = some (.astore 4, 2) := by decide +kernel
theorem dm_X1_amend_16 : mj_dec prog_3_method_15_code 16 = some (.aload_n 0, 1) := by decide +kernel
theorem dm_X1_amend_17 : mj_dec prog_3_method_15_code 17 = some (.iconst 3, 1) := by decide +kernel
theorem dm_X1_amend_18 : mj_dec prog_3_method_15_code 18 = some (.aload_n 2, 1) := by decide +kernel
theorem dm_X1_amend_19 : mj_dec prog_3_method_15_code 19 = some (.getfield 189, 3) := by decide +kernel
theorem dm_X1_amend_22 : mj_dec prog_3_method_15_code 22 = some (.iadd, 1) := by decide +kernel
theorem dm_X1_amend_23 : mj_dec prog_3_method_15_code 23 = some (.aload_n 3, 1) := by decide +kernel
theorem dm_X1_amend_24 : mj_dec prog_3_method_15_code 24 = some (.getfield 189, 3) := by decide +kernel
theorem dm_X1_amend_27 : mj_dec prog_3_method_15_code 27 = some (.iadd, 1) := by decide +kernel
theorem dm_X1_amend_28 : mj_dec prog_3_method_15_code 28 = some (.aload 4, 2) := by decide +kernel
theorem dm_X1_amend_30 : mj_dec prog_3_method_15_code 30 = some (.getfield 189, 3) := by decide +kernel
theorem dm_X1_amend_33 : mj_dec prog_3_method_15_code 33 = some (.iadd, 1) := by decide +kernel
theorem dm_X1_amend_34 : mj_dec prog_3_method_15_code 34 = some (.aload_n 1, 1) := by decide +kernel
theorem dm_X1_amend_35 : mj_dec prog_3_method_15_code 35 = some (.invokevirtual 192, 3) := by decide +kernel
theorem dm_X1_amend_38 : mj_dec prog_3_method_15_code 38 = some (.ifCond .eq 19, 3) := by decide +kernel
theorem dm_X1_amend_41 : mj_dec prog_3_method_15_code 41 = some (.aload_n 0, 1) := by decide +kernel
theorem dm_X1_amend_42 : mj_dec prog_3_method_15_code 42 = some (.aload_n 0, 1) := by decide +kernel
theorem dm_X1_amend_43 : mj_dec prog_3_method_15_code 43 = some (.getfield 21, 3) := by decide +kernel
theorem dm_X1_amend_46 : mj_dec prog_3_method_15_code 46 = some (.aload_n 2, 1) := by decide +kernel
theorem dm_X1_amend_47 : mj_dec prog_3_method_15_code 47 = some (.aload_n 3, 1) := by decide +kernel
theorem dm_X1_amend_48 : mj_dec prog_3_method_15_code 48 = some (.aload 4, 2) := by decide +kernel
theorem dm_X1_amend_50 : mj_dec prog_3_method_15_code 50 = some (.invokevirtual 196, 3) := by decide +kernel
theorem dm_X1_amend_53 : mj_dec prog_3_method_15_code 53 = some (.aload_n 1, 1) := by decide +kernel
theorem dm_X1_amend_54 : mj_dec prog_3_method_15_code 54 = some (.invokevirtual 200, 3) := by decide +kernel
theorem dm_X1_amend_57 : mj_dec prog_3_method_15_code 57 = some (.return_, 1) := by decide +kernel
theorem m_amend {xt : mj_X} {f1 : Nat → Value} {d t e ql qw qu : Nat} {A : Nat → Prop} {h : mj_H} {v w u : VV} {sf : Nat → Option Nat} {dp ca ou wk pl lv : Int} {nw vx vy lf rt : Value} (hx1 : xt 1 = some (.long, 0, f1)) (hd : 14 ≤ d) (hl : 127 ≤ h.length) (hA : okA A h) (hH0 : actH h) (h16 : h[16]? = some (mcC ((t + 2 + 1 : Nat) : Int) dp ca ou wk 0 pl nw vx vy .null lv lf rt)) (h32 : h[32]? = some (cA 4 8192 sf)) (ht : t + 3 ≤ 8192) (hs1 : sf (t + 2) = some ql) (hs2 : sf (t + 1) = some qw) (hs3 : sf t = some qu) {p : Nat} {od pp ov oa om ot : Int} {onm : Int64} {ovl onx oot : Value} (hp : h[p]? = some (opC od pp ov onm oa om ot ovl onx oot)) (hp2 : 127 ≤ p) (hca : -2147483648 ≤ ca ∧ ca ≤ 2147483647) (hv1 : cv A h (e + 1) ql v) (hv2 : cv A h (e + 1) qw w) (hv3 : cv A h (e + 1) qu u) (hset : vsz (e + 1) v ≤ 1000) (hset2 : vsz (e + 1) w ≤ 1000) (hset3 : vsz (e + 1) u ≤ 1000) (he : e ≤ 18) (hwk : 0 ≤ wk ∧ wk ≤ 1000000) : pgN xt d 169 [.ref 16, .ref p] h (fun h' => mAct A h (e + 2) t sf dp ca ou pl pp nw vx vy lv lf rt (mOut (e + 2) wk (3 + (vsz (e + 1) v : Int) + (vsz (e + 1) w : Int) + (vsz (e + 1) u : Int)) (d_amend v w u)) (mA0 wk (3 + (vsz (e + 1) v : Int) + (vsz (e + 1) w : Int) + (vsz (e + 1) u : Int)) (vm w + vm v + 2)) (mA0 wk (3 + (vsz (e + 1) v : Int) + (vsz (e + 1) w : Int) + (vsz (e + 1) u : Int)) (9 * vm w + 10 * vm v + vq v + 9)) h') := by
  obtain ⟨f26, h26⟩ := hH0.2.2.2.2.2.2.2.2.1
  obtain ⟨hw1, ⟨hq1, hqA1⟩, hsz1, hlv1, row1, fr1, vals1, hc1, -, -, -, -⟩ := id hv1
  have hk1 : ql = 25 ∨ ql = 101 ∨ 127 ≤ ql := (hA ql hqA1).2
  obtain ⟨hw2, ⟨hq2, hqA2⟩, hsz2, hlv2, row2, fr2, vals2, hc2, -, -, -, -⟩ := id hv2
  have hk2 : qw = 25 ∨ qw = 101 ∨ 127 ≤ qw := (hA qw hqA2).2
  obtain ⟨hw3, ⟨hq3, hqA3⟩, hsz3, hlv3, row3, fr3, vals3, hc3, -, -, -, -⟩ := id hv3
  have hk3 : qu = 25 ∨ qu = 101 ∨ 127 ≤ qu := (hA qu hqA3).2
  refine x_enter pm_X1_amend (L0 := [(0, .ref 16), (1, .ref p)]) rfl (Nat.le_of_ble_eq_true rfl) (by omega) ?_
  refine me1 (pc' := 1) (L' := [(0, .ref 16), (1, .ref p)]) (S' := [.ref 16]) dm_X1_amend_0 rfl rfl rfl rfl ?_
  refine x_cv (pc' := 4) (rest := []) dm_X1_amend_1 rfl (g_inv (As := []) (S := []) h16 rfl rfl rfl (by decide)) rfl rfl rfl (m_pop (t := t + 2) (by omega) h16 h32 (by omega) hs1 rfl) ?_
  rintro _ _ ⟨rfl, rfl⟩
  refine me1 (pc' := 5) (L' := [(2, .ref ql), (0, .ref 16), (1, .ref p)]) (S' := []) dm_X1_amend_4 rfl rfl rfl rfl ?_
  refine me1 (pc' := 6) (L' := [(2, .ref ql), (0, .ref 16), (1, .ref p)]) (S' := [.ref 16]) dm_X1_amend_5 rfl rfl rfl rfl ?_
  refine x_cv (pc' := 9) (rest := []) dm_X1_amend_6 rfl (g_inv (As := []) (S := []) (hl_set (hl_lt h16)) rfl rfl rfl (by decide)) rfl rfl rfl (m_pop (t := t + 1) (by omega) (hl_set (hl_lt h16)) (hl_ne (by decide) h32) (by omega) hs2 (by rw [List.set_set])) ?_
  rintro _ _ ⟨rfl, rfl⟩
  refine me1 (pc' := 10) (L' := [(3, .ref qw), (2, .ref ql), (0, .ref 16), (1, .ref p)]) (S' := []) dm_X1_amend_9 rfl rfl rfl rfl ?_
  refine me1 (pc' := 11) (L' := [(3, .ref qw), (2, .ref ql), (0, .ref 16), (1, .ref p)]) (S' := [.ref 16]) dm_X1_amend_10 rfl rfl rfl rfl ?_
  refine x_cv (pc' := 14) (rest := []) dm_X1_amend_11 rfl (g_inv (As := []) (S := []) (hl_set (hl_lt h16)) rfl rfl rfl (by decide)) rfl rfl rfl (m_pop (t := t) (by omega) (hl_set (hl_lt h16)) (hl_ne (by decide) h32) (by omega) hs3 (by rw [List.set_set])) ?_
  rintro _ _ ⟨rfl, rfl⟩
  refine me1 (pc' := 16) (L' := [(4, .ref qu), (3, .ref qw), (2, .ref ql), (0, .ref 16), (1, .ref p)]) (S' := []) dm_X1_amend_14 rfl rfl rfl rfl ?_
  refine me1 (pc' := 17) (L' := [(4, .ref qu), (3, .ref qw), (2, .ref ql), (0, .ref 16), (1, .ref p)]) (S' := [.ref 16]) dm_X1_amend_16 rfl rfl rfl rfl ?_
  refine me0 (pc' := 18) (S' := [ii 3, .ref 16]) dm_X1_amend_17 rfl rfl rfl rfl ?_
  refine me1 (pc' := 19) (L' := [(4, .ref qu), (3, .ref qw), (2, .ref ql), (0, .ref 16), (1, .ref p)]) (S' := [.ref ql, ii 3, .ref 16]) dm_X1_amend_18 rfl rfl rfl rfl ?_
  refine me3 (pc' := 22) (S' := [ii (vsz (e + 1) v : Int), ii 3, .ref 16]) dm_X1_amend_19 (g_get (v := ii (vsz (e + 1) v : Int)) (hl_ne (by omega) hc1) rfl rfl (by omega)) rfl rfl rfl ?_
  refine y_iadd (a := 3) (b := (vsz (e + 1) v : Int)) dm_X1_amend_22 (pc' := 23) rfl ?_
  refine me1 (pc' := 24) (L' := [(4, .ref qu), (3, .ref qw), (2, .ref ql), (0, .ref 16), (1, .ref p)]) (S' := [.ref qw, ii (3 + (vsz (e + 1) v : Int)), .ref 16]) dm_X1_amend_23 rfl rfl rfl rfl ?_
  refine me3 (pc' := 27) (S' := [ii (vsz (e + 1) w : Int), ii (3 + (vsz (e + 1) v : Int)), .ref 16]) dm_X1_amend_24 (g_get (v := ii (vsz (e + 1) w : Int)) (hl_ne (by omega) hc2) rfl rfl (by omega)) rfl rfl rfl ?_
  refine y_iadd (a := 3 + (vsz (e + 1) v : Int)) (b := (vsz (e + 1) w : Int)) dm_X1_amend_27 (pc' := 28) rfl ?_
  refine me1 (pc' := 30) (L' := [(4, .ref qu), (3, .ref qw), (2, .ref ql), (0, .ref 16), (1, .ref p)]) (S' := [.ref qu, ii ((3 + (vsz (e + 1) v : Int)) + (vsz (e + 1) w : Int)), .ref 16]) dm_X1_amend_28 rfl rfl rfl rfl ?_
  refine me3 (pc' := 33) (S' := [ii (vsz (e + 1) u : Int), ii ((3 + (vsz (e + 1) v : Int)) + (vsz (e + 1) w : Int)), .ref 16]) dm_X1_amend_30 (g_get (v := ii (vsz (e + 1) u : Int)) (hl_ne (by omega) hc3) rfl rfl (by omega)) rfl rfl rfl ?_
  refine y_iadd (a := (3 + (vsz (e + 1) v : Int)) + (vsz (e + 1) w : Int)) (b := (vsz (e + 1) u : Int)) dm_X1_amend_33 (pc' := 34) rfl ?_
  by_cases hW : wk < 3 + (vsz (e + 1) v : Int) + (vsz (e + 1) w : Int) + (vsz (e + 1) u : Int)
  · refine me1 (pc' := 35) (L' := [(4, .ref qu), (3, .ref qw), (2, .ref ql), (0, .ref 16), (1, .ref p)]) (S' := [.ref p, ii (((3 + (vsz (e + 1) v : Int)) + (vsz (e + 1) w : Int)) + (vsz (e + 1) u : Int)), .ref 16]) dm_X1_amend_34 rfl rfl rfl rfl ?_
    refine x_cv (pc' := 38) (rest := []) dm_X1_amend_35 rfl (g_inv (As := [ii (((3 + (vsz (e + 1) v : Int)) + (vsz (e + 1) w : Int)) + (vsz (e + 1) u : Int)), .ref p]) (S := []) (hl_set (hl_lt h16)) rfl rfl rfl (by decide)) rfl rfl rfl (m_takeF (n := ((3 + (vsz (e + 1) v : Int)) + (vsz (e + 1) w : Int)) + (vsz (e + 1) u : Int)) (by omega) (hl_set (hl_lt h16)) (hl_ne (by omega) hp) hp2 hca (by omega) hwk hW (by rw [List.set_set])) ?_
    rintro _ _ ⟨rfl, rfl⟩
    refine me_1t (pc' := 57) dm_X1_amend_38 rfl (by decide) ?_
    refine y_ret (r := none) dm_X1_amend_57 rfl rfl rfl ?_
    refine ⟨rfl, ?_⟩
    rw [mOut_w hW, mA0_w hW, mA0_w hW]
    exact mAct_w hl h16 (fun _ _ _ => rfl) hH0 h32
  · refine me1 (pc' := 35) (L' := [(4, .ref qu), (3, .ref qw), (2, .ref ql), (0, .ref 16), (1, .ref p)]) (S' := [.ref p, ii (((3 + (vsz (e + 1) v : Int)) + (vsz (e + 1) w : Int)) + (vsz (e + 1) u : Int)), .ref 16]) dm_X1_amend_34 rfl rfl rfl rfl ?_
    refine x_cv (pc' := 38) (rest := []) dm_X1_amend_35 rfl (g_inv (As := [ii (((3 + (vsz (e + 1) v : Int)) + (vsz (e + 1) w : Int)) + (vsz (e + 1) u : Int)), .ref p]) (S := []) (hl_set (hl_lt h16)) rfl rfl rfl (by decide)) rfl rfl rfl (m_takeT (n := ((3 + (vsz (e + 1) v : Int)) + (vsz (e + 1) w : Int)) + (vsz (e + 1) u : Int)) (by omega) (hl_set (hl_lt h16)) (hl_ne (by omega) hp) hp2 hca (by omega) hwk (by omega) (by rw [List.set_set])) ?_
    rintro _ _ ⟨rfl, rfl⟩
    refine me_1f (pc' := 41) dm_X1_amend_38 rfl (by decide) rfl ?_
    refine me1 (pc' := 42) (L' := [(4, .ref qu), (3, .ref qw), (2, .ref ql), (0, .ref 16), (1, .ref p)]) (S' := [.ref 16]) dm_X1_amend_41 rfl rfl rfl rfl ?_
    refine me1 (pc' := 43) (L' := [(4, .ref qu), (3, .ref qw), (2, .ref ql), (0, .ref 16), (1, .ref p)]) (S' := [.ref 16, .ref 16]) dm_X1_amend_42 rfl rfl rfl rfl ?_
    refine me3 (pc' := 46) (S' := [.ref 26, .ref 16]) dm_X1_amend_43 (g_get (v := .ref 26) (hl_set (hl_lt h16)) rfl rfl (by decide)) rfl rfl rfl ?_
    refine me1 (pc' := 47) (L' := [(4, .ref qu), (3, .ref qw), (2, .ref ql), (0, .ref 16), (1, .ref p)]) (S' := [.ref ql, .ref 26, .ref 16]) dm_X1_amend_46 rfl rfl rfl rfl ?_
    refine me1 (pc' := 48) (L' := [(4, .ref qu), (3, .ref qw), (2, .ref ql), (0, .ref 16), (1, .ref p)]) (S' := [.ref qw, .ref ql, .ref 26, .ref 16]) dm_X1_amend_47 rfl rfl rfl rfl ?_
    refine me1 (pc' := 50) (L' := [(4, .ref qu), (3, .ref qw), (2, .ref ql), (0, .ref 16), (1, .ref p)]) (S' := [.ref qu, .ref qw, .ref ql, .ref 26, .ref 16]) dm_X1_amend_48 rfl rfl rfl rfl ?_
    obtain ⟨g1, g1e⟩ : ∃ g1, g1 = (h).set 16 (cO 1 [.ref 4, .ref 17, .ref 26, .ref 32, ii (t : Int), .ref 33, ii dp, ii ca, ii ou, ii (wk - (3 + (vsz (e + 1) v : Int) + (vsz (e + 1) w : Int) + (vsz (e + 1) u : Int))), ii 0, ii pl, nw, vx, vy, .null, ii lv, lf, rt]) := ⟨_, rfl⟩
    refine x_cv (pc' := 53) (rest := [.ref 16]) dm_X1_amend_50 rfl (g_inv (As := [.ref ql, .ref qw, .ref qu]) (S := [.ref 16]) (hl_ne (by decide) h26) rfl rfl rfl (by decide)) rfl rfl rfl ((show pgV xt (d - 1) _ _ _ (aact A ((h).set 16 (cO 1 [.ref 4, .ref 17, .ref 26, .ref 32, ii (t : Int), .ref 33, ii dp, ii ca, ii ou, ii (wk - (3 + (vsz (e + 1) v : Int) + (vsz (e + 1) w : Int) + (vsz (e + 1) u : Int))), ii 0, ii pl, nw, vx, vy, .null, ii lv, lf, rt])) (e + 2) (d_amend v w u) (vm w + vm v + 2) (9 * vm w + 10 * vm v + vq v + 9)) from t_amended hx1 (by omega) (by rw [List.length_set]; exact hl) (okA_st hA) (actH_st (Or.inl rfl) hH0) (cv_set (nA_st hA (Or.inl rfl)) hv1) (cv_set (nA_st hA (Or.inl rfl)) hv2) (cv_set (nA_st hA (Or.inl rfl)) hv3) (by omega) hset hset2 hset3)) ?_
    rintro x9 g2 hres
    rw [← g1e] at hres
    obtain ⟨qz, rfl, gk, gl1, gl2, gs2, gH, gO⟩ := aact_o hres
    have g1l : g1.length = h.length := by rw [g1e, List.length_set]
    have g216 : g2[16]? = some (cO 1 [.ref 4, .ref 17, .ref 26, .ref 32, ii (t : Int), .ref 33, ii dp, ii ca, ii ou, ii (wk - (3 + (vsz (e + 1) v : Int) + (vsz (e + 1) w : Int) + (vsz (e + 1) u : Int))), ii 0, ii pl, nw, vx, vy, .null, ii lv, lf, rt]) := by rw [gk 16 (by omega) (by unfold scr; omega), g1e, List.getElem?_set_self (by omega)]
    have g232 : g2[32]? = some (cA 4 8192 sf) := by rw [gk 32 (by omega) (by unfold scr; omega), g1e, List.getElem?_set_ne (by decide)]; exact h32
    have g2p : g2[p]? = some (cO 4 [ii od, ii pp, ii ov, .long onm, ii oa, ii om, ii ot, ovl, onx, oot]) := by rw [gk p (by have := hl_lt hp; omega) (by unfold scr; omega), g1e, List.getElem?_set_ne (by omega)]; exact hp
    refine me1 (pc' := 54) (L' := [(4, .ref qu), (3, .ref qw), (2, .ref ql), (0, .ref 16), (1, .ref p)]) (S' := [.ref p, .ref qz, .ref 16]) dm_X1_amend_53 rfl rfl rfl rfl ?_
    rcases ho : (d_amend v w u) with n9 | v9
    · rw [ho] at gO
      have gO : 2 ≤ qz ∧ g2[qz]? = some (cVal 8 (Int64.ofInt (n9 : Int)) 1 0 0 0) := gO
      refine x_cn (pc' := 57) (rest := []) dm_X1_amend_54 rfl (g_inv (As := [.ref qz, .ref p]) (S := []) g216 rfl rfl rfl (by decide)) rfl rfl rfl (m_finF (t := t) (by omega) g216 g232 (by omega) g2p hp2 hca gO.2 gO.1 rfl) ?_
      rintro _ rfl
      refine y_ret (r := none) dm_X1_amend_57 rfl rfl rfl ?_
      refine ⟨rfl, ?_⟩
      rw [mOut_f hW]
      rw [mA0_n hW, mA0_n hW]
      exact mAct_e hl h16 (fun _ _ _ => rfl) g1e gk gl1 gl2 gs2 gH h32
    · rw [ho] at gO
      have gO : cv (newA A g1 g2) g2 (e + 2) qz v9 := gO
      have gA : okA (newA A g1 g2) g2 := fun y hy => by rcases hy with z | z; (have := hA y z; exact ⟨by omega, this.2⟩); (exact ⟨z.2, by omega⟩)
      by_cases hbig : 1000 < vsz (e + 1 + 1) v9 ∨ 5 < vlv (e + 1 + 1) v9
      · refine x_cn (pc' := 57) (rest := []) dm_X1_amend_54 rfl (g_inv (As := [.ref qz, .ref p]) (S := []) g216 rfl rfl rfl (by decide)) rfl rfl rfl (m_finB (e := e + 1) (t := t) (by omega) g216 g232 (by omega) g2p hp2 hca gA gO hbig rfl) ?_
        rintro _ rfl
        refine y_ret (r := none) dm_X1_amend_57 rfl rfl rfl ?_
        refine ⟨rfl, ?_⟩
        rw [mOut_b hW hbig]
        rw [mA0_n hW, mA0_n hW]
        exact mAct_e hl h16 (fun _ _ _ => rfl) g1e gk gl1 gl2 gs2 gH h32
      · by_cases hw9 : wk - (3 + (vsz (e + 1) v : Int) + (vsz (e + 1) w : Int) + (vsz (e + 1) u : Int)) < (vsz (e + 1 + 1) v9 : Int)
        · refine x_cn (pc' := 57) (rest := []) dm_X1_amend_54 rfl (g_inv (As := [.ref qz, .ref p]) (S := []) g216 rfl rfl rfl (by decide)) rfl rfl rfl (m_finW (e := e + 1) (t := t) (by omega) g216 g232 (by omega) g2p hp2 hca gA gO (by omega) (by omega) hw9 rfl) ?_
          rintro _ rfl
          refine y_ret (r := none) dm_X1_amend_57 rfl rfl rfl ?_
          refine ⟨rfl, ?_⟩
          rw [mOut_2 hW hbig hw9]
          rw [mA0_n hW, mA0_n hW]
          exact mAct_e hl h16 (fun _ _ _ => rfl) g1e gk gl1 gl2 gs2 gH h32
        · refine x_cn (pc' := 57) (rest := []) dm_X1_amend_54 rfl (g_inv (As := [.ref qz, .ref p]) (S := []) g216 rfl rfl rfl (by decide)) rfl rfl rfl (m_finK (e := e + 1) (t := t) (by omega) g216 g232 (by omega) g2p hp2 hca gA gO (by omega) (by omega) (by omega) rfl) ?_
          rintro _ rfl
          refine y_ret (r := none) dm_X1_amend_57 rfl rfl rfl ?_
          refine ⟨rfl, ?_⟩
          rw [mOut_v hW hbig hw9]
          rw [mA0_n hW, mA0_n hW]
          exact mAct_v hl hA h16 (fun _ _ _ => rfl) g1e gk gl1 gl2 gs2 gH h32 gO
