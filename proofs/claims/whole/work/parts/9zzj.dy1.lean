set_option maxRecDepth 20000 in
theorem pm_X12_dyad : mj_mmof pg_ms 255 = some ((⟨"ArrayCalculatorModel", "dyad", "(IIII)I"⟩, prog_14_method_48_code, 5, (Option.some Jvm.ClassFile.FieldType.int)), 12, false, mj_dec prog_14_method_48_code) := rfl
theorem dm_X12_dyad_0 : mj_dec prog_14_method_48_code 0 = some (.aload_n 0, 1) := by decide +kernel
theorem dm_X12_dyad_1 : mj_dec prog_14_method_48_code 1 = some (.iconst 3, 1) := by decide +kernel
theorem dm_X12_dyad_2 : mj_dec prog_14_method_48_code 2 = some (.aload_n 0, 1) := by decide +kernel
theorem dm_X12_dyad_3 : mj_dec prog_14_method_48_code 3 = some (.iload_n 2, 1) := by decide +kernel
theorem dm_X12_dyad_4 : mj_dec prog_14_method_48_code 4 = some (.invokevirtual 165, 3) := by decide +kernel
theorem dm_X12_dyad_7 : mj_dec prog_14_method_48_code 7 = some (.iadd, 1) := by decide +kernel
theorem dm_X12_dyad_8 : mj_dec prog_14_method_48_code 8 = some (.aload_n 0, 1) := by decide +kernel
theorem dm_X12_dyad_9 : mj_dec prog_14_method_48_code 9 = some (.iload_n 3, 1) := by decide +kernel
theorem dm_X12_dyad_10 : mj_dec prog_14_method_48_code 10 = some (.invokevirtual 165, 3) := by decide +kernel
theorem dm_X12_dyad_13 : mj_dec prog_14_method_48_code 13 = some (.iadd, 1) := by decide +kernel
theorem dm_X12_dyad_14 : mj_dec prog_14_method_48_code 14 = some (.iload 4, 2) := by decide +kernel
theorem dm_X12_dyad_16 : mj_dec prog_14_method_48_code 16 = some (.invokevirtual 199, 3) := by decide +kernel
theorem dm_X12_dyad_19 : mj_dec prog_14_method_48_code 19 = some (.ifCond .ne 5, 3) := by decide +kernel
theorem dm_X12_dyad_22 : mj_dec prog_14_method_48_code 22 = some (.iconst (-1), 1) := by decide +kernel
theorem dm_X12_dyad_23 : mj_dec prog_14_method_48_code 23 = some (.ireturn, 1) := by decide +kernel
theorem dm_X12_dyad_24 : mj_dec prog_14_method_48_code 24 = some (.aload_n 0, 1) := by decide +kernel
theorem dm_X12_dyad_25 : mj_dec prog_14_method_48_code 25 = some (.iconst 0, 1) := by decide +kernel
theorem dm_X12_dyad_26 : mj_dec prog_14_method_48_code 26 = some (.putfield 196, 3) := by decide +kernel
theorem dm_X12_dyad_29 : mj_dec prog_14_method_48_code 29 = some (.iload_n 1, 1) := by decide +kernel
theorem dm_X12_dyad_30 : mj_dec prog_14_method_48_code 30 = some (.lookupswitch 258 #[(35, 123), (36, 213), (44, 108), (46, 243), (63, 183), (64, 198), (94, 228), (95, 167), (126, 82)], 82) := by decide +kernel
theorem dm_X12_dyad_213 : mj_dec prog_14_method_48_code 213 = some (.aload_n 0, 1) := by decide +kernel
theorem dm_X12_dyad_214 : mj_dec prog_14_method_48_code 214 = some (.aload_n 0, 1) := by decide +kernel
theorem dm_X12_dyad_215 : mj_dec prog_14_method_48_code 215 = some (.iload_n 2, 1) := by decide +kernel
theorem dm_X12_dyad_216 : mj_dec prog_14_method_48_code 216 = some (.iload_n 3, 1) := by decide +kernel
theorem dm_X12_dyad_217 : mj_dec prog_14_method_48_code 217 = some (.iload 4, 2) := by decide +kernel
theorem dm_X12_dyad_219 : mj_dec prog_14_method_48_code 219 = some (.invokevirtual 314, 3) := by decide +kernel
theorem dm_X12_dyad_222 : mj_dec prog_14_method_48_code 222 = some (.iload 4, 2) := by decide +kernel
theorem dm_X12_dyad_224 : mj_dec prog_14_method_48_code 224 = some (.invokevirtual 208, 3) := by decide +kernel
theorem dm_X12_dyad_227 : mj_dec prog_14_method_48_code 227 = some (.ireturn, 1) := by decide +kernel
theorem r_dy63 {xt : mj_X} {d hd hd2 q b base W : Nat} {pre post : mj_H} {s : RS} {v w : VV} {place nd verb : Int} (hm : pre.length = 102) (hd1 : 60 ≤ d) (hRS : RST2) (hB : rB s) (hv : rv s 7 hd v) (hh3 : 3 ≤ hd) (hw : rv s 7 hd2 w) (hh4 : 3 ≤ hd2) (hz1 : vsz 7 v ≤ 1000) (hz2 : vlv 7 v ≤ 5) (hz3 : vsz 7 w ≤ 1000) (hz4 : vlv 7 w ≤ 5) (hq : s.1 4 = (q : Int)) (hb : s.1 3 = (b : Int)) (hq3 : 3 ≤ q) (hV2 : q + 2100 < 310000) (he0 : s.1 5 = 0) (hca : 0 ≤ s.1 10 ∧ s.1 10 ≤ 100) (hC : b + 291000 ≤ 820000) (hw13 : s.1 13 = (base : Int)) (hbs : base ≤ 7900) (h8 : s.1 8 = (W : Int)) (hW5 : W ≤ 500000) (hnd : 0 ≤ nd) (hvb : verb = 63) : pgV xt d 255 [.ref 102, ii verb, ii (hd : Int), ii (hd2 : Int), ii place] (rS pre post s) (dres pre post s W 9 nd (dTwo (cpS s) W verb v w place)) := by
  have hB0 := hB
  obtain ⟨hB1, hB2, hB3, hB4⟩ := hB
  obtain ⟨fr, hfr, hsh, hlt, hcl, hvk, hvm, hvc, hvq, hvcl⟩ := rv_val hv
  obtain ⟨fw, hfw, hshw, hltw, hclw, hwk, hwm, hwc, hwq, hwcl⟩ := rv_val hw
  have hvb2 : -2147483648 ≤ verb ∧ verb ≤ 2147483647 := by omega
  refine x_enter pm_X12_dyad (L0 := [(0, .ref 102), (1, ii verb), (2, ii (hd : Int)), (3, ii (hd2 : Int)), (4, ii place)]) rfl (Nat.le_of_ble_eq_true rfl) (by omega) ?_
  refine me1 (pc' := 1) (L' := [(0, .ref 102), (1, ii verb), (2, ii (hd : Int)), (3, ii (hd2 : Int)), (4, ii place)]) (S' := [.ref 102]) dm_X12_dyad_0 rfl rfl rfl rfl ?_
  refine me0 (pc' := 2) (S' := [ii 3, .ref 102]) dm_X12_dyad_1 rfl rfl rfl rfl ?_
  refine me1 (pc' := 3) (L' := [(0, .ref 102), (1, ii verb), (2, ii (hd : Int)), (3, ii (hd2 : Int)), (4, ii place)]) (S' := [.ref 102, ii 3, .ref 102]) dm_X12_dyad_2 rfl rfl rfl rfl ?_
  refine me1 (pc' := 4) (L' := [(0, .ref 102), (1, ii verb), (2, ii (hd : Int)), (3, ii (hd2 : Int)), (4, ii place)]) (S' := [ii (hd : Int), .ref 102, ii 3, .ref 102]) dm_X12_dyad_3 rfl rfl rfl rfl ?_
  refine x_cp (pc' := 7) (v := ii (vsz 7 v : Int)) (rest := [ii 3, .ref 102]) dm_X12_dyad_4 rfl (q_inv (As := [ii (hd : Int)]) (S := [ii 3, .ref 102]) hm rfl rfl rfl) rfl rfl rfl (r_sizeOf_ hm hB0 7 (by omega) hv) ?_
  refine y_iadd (a := 3) (b := (vsz 7 v : Int)) dm_X12_dyad_7 (pc' := 8) rfl ?_
  refine me1 (pc' := 9) (L' := [(0, .ref 102), (1, ii verb), (2, ii (hd : Int)), (3, ii (hd2 : Int)), (4, ii place)]) (S' := [.ref 102, ii (3 + (vsz 7 v : Int)), .ref 102]) dm_X12_dyad_8 rfl rfl rfl rfl ?_
  refine me1 (pc' := 10) (L' := [(0, .ref 102), (1, ii verb), (2, ii (hd : Int)), (3, ii (hd2 : Int)), (4, ii place)]) (S' := [ii (hd2 : Int), .ref 102, ii (3 + (vsz 7 v : Int)), .ref 102]) dm_X12_dyad_9 rfl rfl rfl rfl ?_
  refine x_cp (pc' := 13) (v := ii (vsz 7 w : Int)) (rest := [ii (3 + (vsz 7 v : Int)), .ref 102]) dm_X12_dyad_10 rfl (q_inv (As := [ii (hd2 : Int)]) (S := [ii (3 + (vsz 7 v : Int)), .ref 102]) hm rfl rfl rfl) rfl rfl rfl (r_sizeOf_ hm hB0 7 (by omega) hw) ?_
  refine y_iadd (a := 3 + (vsz 7 v : Int)) (b := (vsz 7 w : Int)) dm_X12_dyad_13 (pc' := 14) rfl ?_
  refine pg_st (S' := [ii ((3 + vS v + vS w : Nat) : Int), .ref 102]) (congrArg (fun z => ii z :: [.ref 102]) (show (3 + (vsz 7 v : Int)) + (vsz 7 w : Int) = ((3 + vS v + vS w : Nat) : Int) by show _ = ((3 + vsz 7 v + vsz 7 w : Nat) : Int); omega)) ?_
  have hvS : vS v = vsz 7 v := rfl
  have hwS9 : vS w = vsz 7 w := rfl
  have hg1 : 1 ≤ vsz 7 v := vsz_ge1 (d := 6)
  have hg2 : 1 ≤ vsz 7 w := vsz_ge1 (d := 6)
  by_cases hW : W < (3 + vS v + vS w)
  · refine me1 (pc' := 16) (L' := [(0, .ref 102), (1, ii verb), (2, ii (hd : Int)), (3, ii (hd2 : Int)), (4, ii place)]) (S' := [ii place, ii ((3 + vS v + vS w : Nat) : Int), .ref 102]) dm_X12_dyad_14 rfl rfl rfl rfl ?_
    refine x_cv (pc' := 19) (rest := []) dm_X12_dyad_16 rfl (q_inv (As := [ii ((3 + vS v + vS w : Nat) : Int), ii place]) (S := []) hm rfl rfl rfl) rfl rfl rfl ((by have z := r_takes_ (xt := xt) (d := d - 1) (pre := pre) (post := post) (s := s) (n := ((3 + vS v + vS w : Nat) : Int)) (place := place) hm (by omega) he0 hca.1 hca.2 (by omega) (by omega) (by omega); rw [tkS_f (by omega), decide_eq_false (by omega)] at z; exact z)) ?_
    rintro _ _ ⟨rfl, rfl⟩
    refine me_1f (pc' := 22) dm_X12_dyad_19 rfl (by decide) rfl ?_
    refine me0 (pc' := 23) (S' := [ii (-1)]) dm_X12_dyad_22 rfl rfl rfl rfl ?_
    refine y_ret (r := some (ii (-1))) dm_X12_dyad_23 rfl rfl rfl ?_
    refine ⟨_, rfl, ?_⟩
    rw [show dTwo (cpS s) W verb v w place = dEr (cpS s) W 10 place from dAc_no hW]
    exact tk_no (n := 0) he0 h8 hnd
  · refine me1 (pc' := 16) (L' := [(0, .ref 102), (1, ii verb), (2, ii (hd : Int)), (3, ii (hd2 : Int)), (4, ii place)]) (S' := [ii place, ii ((3 + vS v + vS w : Nat) : Int), .ref 102]) dm_X12_dyad_14 rfl rfl rfl rfl ?_
    refine x_cv (pc' := 19) (rest := []) dm_X12_dyad_16 rfl (q_inv (As := [ii ((3 + vS v + vS w : Nat) : Int), ii place]) (S := []) hm rfl rfl rfl) rfl rfl rfl ((by have z := r_takes_ (xt := xt) (d := d - 1) (pre := pre) (post := post) (s := s) (n := ((3 + vS v + vS w : Nat) : Int)) (place := place) hm (by omega) he0 hca.1 hca.2 (by omega) (by omega) (by omega); rw [tkS_t (by omega), decide_eq_true (by omega)] at z; exact z)) ?_
    rintro _ _ ⟨rfl, rfl⟩
    refine me_1t (pc' := 24) dm_X12_dyad_19 rfl (by decide) ?_
    refine me1 (pc' := 25) (L' := [(0, .ref 102), (1, ii verb), (2, ii (hd : Int)), (3, ii (hd2 : Int)), (4, ii place)]) (S' := [.ref 102]) dm_X12_dyad_24 rfl rfl rfl rfl ?_
    refine me0 (pc' := 26) (S' := [ii 0, .ref 102]) dm_X12_dyad_25 rfl rfl rfl rfl ?_
    refine me3 (pc' := 29) (S' := []) (h1 := rI pre post (va_up ((takeS s ((3 + vS v + vS w : Nat) : Int)).1) 9 0) ((takeS s ((3 + vS v + vS w : Nat) : Int)).2.1) ((takeS s ((3 + vS v + vS w : Nat) : Int)).2.2.1) ((takeS s ((3 + vS v + vS w : Nat) : Int)).2.2.2)) dm_X12_dyad_26 (q_puti hm rfl rfl (fun m i l v => rf_9 m i l v)) rfl rfl rfl ?_
    obtain ⟨s2, hs2⟩ : ∃ s2 : RS, s2 = (va_up (takeS s ((3 + vS v + vS w : Nat) : Int)).1 9 0, (takeS s ((3 + vS v + vS w : Nat) : Int)).2.1, (takeS s ((3 + vS v + vS w : Nat) : Int)).2.2.1, (takeS s ((3 + vS v + vS w : Nat) : Int)).2.2.2) := ⟨_, rfl⟩
    have hT := tk_tkd (W := W) hs2 he0 h8 (by omega)
    have hqS : s2.1 4 = (q : Int) := hT.2.2.2.1.trans hq
    have hbS : s2.1 3 = (b : Int) := hT.2.2.1.trans hb
    have heS : s2.1 5 = 0 := hT.2.2.2.2.1
    have hwS : s2.1 13 = (base : Int) := hT.2.2.2.2.2.2.1.trans hw13
    have hcaS : 0 ≤ s2.1 10 ∧ s2.1 10 ≤ 100 := by rw [hT.2.1.1 10 (by decide) (by decide) (by decide) (by decide) (by decide) (by decide) (by decide) (by decide) (by decide) (by decide)]; exact hca
    have hBs : rB s2 := ⟨by omega, by omega, by omega, by omega⟩
    have hvs := rv_ext hT.1 hh3 hv
    have hws := rv_ext hT.1 hh4 hw
    have hrs := hRS verb v w (rv_wf hv) (rv_wf hw) hz1 hz3 hz2 hz4
    have hww : W - (3 + vS v + vS w) + (3 + vS v + vS w) = W := by omega
    refine pg_cast (h2 := rI pre post s2.1 s2.2.1 s2.2.2.1 s2.2.2.2) (by rw [hs2]) ?_
    refine me1 (pc' := 30) (L' := [(0, .ref 102), (1, ii verb), (2, ii (hd : Int)), (3, ii (hd2 : Int)), (4, ii place)]) (S' := [ii verb]) dm_X12_dyad_29 rfl rfl rfl rfl ?_
    have hsp : s_two verb 6 v w = d_find 7 v w := by unfold s_two; rw [if_neg (by omega), if_neg (by omega), if_neg (by omega), if_neg (by omega), if_pos (by omega)]
    refine y_sw (a := verb) (35) (t := 153) (i := .lookupswitch 258 #[(35, 123), (36, 213), (44, 108), (46, 243), (63, 183), (64, 198), (94, 228), (95, 167), (126, 82)]) (len := 82) dm_X12_dyad_30 rfl rfl rfl (by omega) (by decide) (fun hb1 => ?_) (fun hb1 => ?_)
    · exfalso; omega
    refine y_sw (a := verb) (36) (t := 243) (i := .lookupswitch 258 #[(35, 123), (36, 213), (44, 108), (46, 243), (63, 183), (64, 198), (94, 228), (95, 167), (126, 82)]) (len := 82) dm_X12_dyad_30 rfl rfl rfl (by omega) (by decide) (fun hb2 => ?_) (fun hb2 => ?_)
    · exfalso; omega
    refine y_sw (a := verb) (44) (t := 138) (i := .lookupswitch 258 #[(35, 123), (36, 213), (44, 108), (46, 243), (63, 183), (64, 198), (94, 228), (95, 167), (126, 82)]) (len := 82) dm_X12_dyad_30 rfl rfl rfl (by omega) (by decide) (fun hb3 => ?_) (fun hb3 => ?_)
    · exfalso; omega
    refine y_sw (a := verb) (46) (t := 273) (i := .lookupswitch 258 #[(35, 123), (36, 213), (44, 108), (46, 243), (63, 183), (64, 198), (94, 228), (95, 167), (126, 82)]) (len := 82) dm_X12_dyad_30 rfl rfl rfl (by omega) (by decide) (fun hb4 => ?_) (fun hb4 => ?_)
    · exfalso; omega
    refine y_sw (a := verb) (63) (t := 213) (i := .lookupswitch 258 #[(35, 123), (36, 213), (44, 108), (46, 243), (63, 183), (64, 198), (94, 228), (95, 167), (126, 82)]) (len := 82) dm_X12_dyad_30 rfl rfl rfl (by omega) (by decide) (fun hb5 => ?_) (fun hb5 => ?_)
    · refine me1 (pc' := 214) (L' := [(0, .ref 102), (1, ii verb), (2, ii (hd : Int)), (3, ii (hd2 : Int)), (4, ii place)]) (S' := [.ref 102]) dm_X12_dyad_213 rfl rfl rfl rfl ?_
      refine me1 (pc' := 215) (L' := [(0, .ref 102), (1, ii verb), (2, ii (hd : Int)), (3, ii (hd2 : Int)), (4, ii place)]) (S' := [.ref 102, .ref 102]) dm_X12_dyad_214 rfl rfl rfl rfl ?_
      refine me1 (pc' := 216) (L' := [(0, .ref 102), (1, ii verb), (2, ii (hd : Int)), (3, ii (hd2 : Int)), (4, ii place)]) (S' := [ii (hd : Int), .ref 102, .ref 102]) dm_X12_dyad_215 rfl rfl rfl rfl ?_
      refine me1 (pc' := 217) (L' := [(0, .ref 102), (1, ii verb), (2, ii (hd : Int)), (3, ii (hd2 : Int)), (4, ii place)]) (S' := [ii (hd2 : Int), ii (hd : Int), .ref 102, .ref 102]) dm_X12_dyad_216 rfl rfl rfl rfl ?_
      refine me1 (pc' := 219) (L' := [(0, .ref 102), (1, ii verb), (2, ii (hd : Int)), (3, ii (hd2 : Int)), (4, ii place)]) (S' := [ii place, ii (hd2 : Int), ii (hd : Int), .ref 102, .ref 102]) dm_X12_dyad_217 rfl rfl rfl rfl ?_
      refine x_cv (pc' := 222) (rest := [.ref 102]) dm_X12_dyad_219 rfl (q_inv (As := [ii (hd : Int), ii (hd2 : Int), ii place]) (S := [.ref 102]) hm rfl rfl rfl) rfl rfl rfl (r_found_ (e := 6) (q := q) (b := b) (s := s2) (place := place) hm (by omega) hBs hvs hh3 hws hh4 hqS hbS hq3 (by omega) heS hcaS (by omega)) ?_
      rintro x1 g1 hres
      have hG : rG pre post s2 8 (d_find 7 v w) place (rcb (d_find 7 v w) 120) (rvb (d_find 7 v w) 1) x1 g1 := rG_up (rG_r hres)
      obtain ⟨z1, rfl⟩ := rG_ii hG
      obtain ⟨t1, rfl⟩ := rG_st hG
      refine me1 (pc' := 224) (L' := [(0, .ref 102), (1, ii verb), (2, ii (hd : Int)), (3, ii (hd2 : Int)), (4, ii place)]) (S' := [ii place, ii z1, .ref 102]) dm_X12_dyad_222 rfl rfl rfl rfl ?_
      refine x_cv (pc' := 227) (rest := []) dm_X12_dyad_224 rfl (q_inv (As := [ii z1, ii place]) (S := []) hm rfl rfl rfl) rfl rfl rfl (r_mdo1 (s := s) (s2 := s2) (W2 := W - (3 + vS v + vS w)) (cost := (3 + vS v + vS w)) (cb := 120) (o := d_find 7 v w) (c := 9) (nd := nd) hm (by omega) hT hB0 hG hca (by omega) hnd (fun n hn => hrs.1 n (hsp.trans hn)) (fun r hr => hrs.2 r (hsp.trans hr)) (by omega) (by omega) (by omega)) ?_
      rintro x9 g9 hfin
      obtain ⟨z9, rfl⟩ := dres_ii hfin
      obtain ⟨t9, rfl⟩ := dres_st hfin
      refine y_ret (r := some (ii z9)) dm_X12_dyad_227 rfl rfl rfl ?_
      have e9 : dTwo (cpS s) W verb v w place = dMo (cpS s) (W - (3 + vS v + vS w)) 0 (d_find 7 v w) place := by unfold dTwo; rw [dAc_mo (by omega), hsp]
      rw [hww] at hfin
      rw [e9]
      exact ⟨_, rfl, hfin⟩
    refine y_sw (a := verb) (64) (t := 228) (i := .lookupswitch 258 #[(35, 123), (36, 213), (44, 108), (46, 243), (63, 183), (64, 198), (94, 228), (95, 167), (126, 82)]) (len := 82) dm_X12_dyad_30 rfl rfl rfl (by omega) (by decide) (fun hb6 => ?_) (fun hb6 => ?_)
    · exfalso; omega
    refine y_sw (a := verb) (94) (t := 258) (i := .lookupswitch 258 #[(35, 123), (36, 213), (44, 108), (46, 243), (63, 183), (64, 198), (94, 228), (95, 167), (126, 82)]) (len := 82) dm_X12_dyad_30 rfl rfl rfl (by omega) (by decide) (fun hb7 => ?_) (fun hb7 => ?_)
    · exfalso; omega
    refine y_sw (a := verb) (95) (t := 197) (i := .lookupswitch 258 #[(35, 123), (36, 213), (44, 108), (46, 243), (63, 183), (64, 198), (94, 228), (95, 167), (126, 82)]) (len := 82) dm_X12_dyad_30 rfl rfl rfl (by omega) (by decide) (fun hb8 => ?_) (fun hb8 => ?_)
    · exfalso; omega
    refine y_sw (a := verb) (126) (t := 112) (i := .lookupswitch 258 #[(35, 123), (36, 213), (44, 108), (46, 243), (63, 183), (64, 198), (94, 228), (95, 167), (126, 82)]) (len := 82) dm_X12_dyad_30 rfl rfl rfl (by omega) (by decide) (fun hb9 => ?_) (fun hb9 => ?_)
    · exfalso; omega
    exfalso; omega
theorem dm_X12_dyad_228 : mj_dec prog_14_method_48_code 228 = some (.aload_n 0, 1) := by decide +kernel
theorem dm_X12_dyad_229 : mj_dec prog_14_method_48_code 229 = some (.aload_n 0, 1) := by decide +kernel
theorem dm_X12_dyad_230 : mj_dec prog_14_method_48_code 230 = some (.iload_n 2, 1) := by decide +kernel
theorem dm_X12_dyad_231 : mj_dec prog_14_method_48_code 231 = some (.iload_n 3, 1) := by decide +kernel
theorem dm_X12_dyad_232 : mj_dec prog_14_method_48_code 232 = some (.iload 4, 2) := by decide +kernel
theorem dm_X12_dyad_234 : mj_dec prog_14_method_48_code 234 = some (.invokevirtual 317, 3) := by decide +kernel
theorem dm_X12_dyad_237 : mj_dec prog_14_method_48_code 237 = some (.iload 4, 2) := by decide +kernel
theorem dm_X12_dyad_239 : mj_dec prog_14_method_48_code 239 = some (.invokevirtual 208, 3) := by decide +kernel
theorem dm_X12_dyad_242 : mj_dec prog_14_method_48_code 242 = some (.ireturn, 1) := by decide +kernel
theorem r_dy64 {xt : mj_X} {d hd hd2 q b base W : Nat} {pre post : mj_H} {s : RS} {v w : VV} {place nd verb : Int} (hm : pre.length = 102) (hd1 : 60 ≤ d) (hRS : RST2) (hB : rB s) (hv : rv s 7 hd v) (hh3 : 3 ≤ hd) (hw : rv s 7 hd2 w) (hh4 : 3 ≤ hd2) (hz1 : vsz 7 v ≤ 1000) (hz2 : vlv 7 v ≤ 5) (hz3 : vsz 7 w ≤ 1000) (hz4 : vlv 7 w ≤ 5) (hq : s.1 4 = (q : Int)) (hb : s.1 3 = (b : Int)) (hq3 : 3 ≤ q) (hV2 : q + 2100 < 310000) (he0 : s.1 5 = 0) (hca : 0 ≤ s.1 10 ∧ s.1 10 ≤ 100) (hC : b + 291000 ≤ 820000) (hw13 : s.1 13 = (base : Int)) (hbs : base ≤ 7900) (h8 : s.1 8 = (W : Int)) (hW5 : W ≤ 500000) (hnd : 0 ≤ nd) (hvb : verb = 64) : pgV xt d 255 [.ref 102, ii verb, ii (hd : Int), ii (hd2 : Int), ii place] (rS pre post s) (dres pre post s W 9 nd (dTwo (cpS s) W verb v w place)) := by
  have hB0 := hB
  obtain ⟨hB1, hB2, hB3, hB4⟩ := hB
  obtain ⟨fr, hfr, hsh, hlt, hcl, hvk, hvm, hvc, hvq, hvcl⟩ := rv_val hv
  obtain ⟨fw, hfw, hshw, hltw, hclw, hwk, hwm, hwc, hwq, hwcl⟩ := rv_val hw
  have hvb2 : -2147483648 ≤ verb ∧ verb ≤ 2147483647 := by omega
  refine x_enter pm_X12_dyad (L0 := [(0, .ref 102), (1, ii verb), (2, ii (hd : Int)), (3, ii (hd2 : Int)), (4, ii place)]) rfl (Nat.le_of_ble_eq_true rfl) (by omega) ?_
  refine me1 (pc' := 1) (L' := [(0, .ref 102), (1, ii verb), (2, ii (hd : Int)), (3, ii (hd2 : Int)), (4, ii place)]) (S' := [.ref 102]) dm_X12_dyad_0 rfl rfl rfl rfl ?_
  refine me0 (pc' := 2) (S' := [ii 3, .ref 102]) dm_X12_dyad_1 rfl rfl rfl rfl ?_
  refine me1 (pc' := 3) (L' := [(0, .ref 102), (1, ii verb), (2, ii (hd : Int)), (3, ii (hd2 : Int)), (4, ii place)]) (S' := [.ref 102, ii 3, .ref 102]) dm_X12_dyad_2 rfl rfl rfl rfl ?_
  refine me1 (pc' := 4) (L' := [(0, .ref 102), (1, ii verb), (2, ii (hd : Int)), (3, ii (hd2 : Int)), (4, ii place)]) (S' := [ii (hd : Int), .ref 102, ii 3, .ref 102]) dm_X12_dyad_3 rfl rfl rfl rfl ?_
  refine x_cp (pc' := 7) (v := ii (vsz 7 v : Int)) (rest := [ii 3, .ref 102]) dm_X12_dyad_4 rfl (q_inv (As := [ii (hd : Int)]) (S := [ii 3, .ref 102]) hm rfl rfl rfl) rfl rfl rfl (r_sizeOf_ hm hB0 7 (by omega) hv) ?_
  refine y_iadd (a := 3) (b := (vsz 7 v : Int)) dm_X12_dyad_7 (pc' := 8) rfl ?_
  refine me1 (pc' := 9) (L' := [(0, .ref 102), (1, ii verb), (2, ii (hd : Int)), (3, ii (hd2 : Int)), (4, ii place)]) (S' := [.ref 102, ii (3 + (vsz 7 v : Int)), .ref 102]) dm_X12_dyad_8 rfl rfl rfl rfl ?_
  refine me1 (pc' := 10) (L' := [(0, .ref 102), (1, ii verb), (2, ii (hd : Int)), (3, ii (hd2 : Int)), (4, ii place)]) (S' := [ii (hd2 : Int), .ref 102, ii (3 + (vsz 7 v : Int)), .ref 102]) dm_X12_dyad_9 rfl rfl rfl rfl ?_
  refine x_cp (pc' := 13) (v := ii (vsz 7 w : Int)) (rest := [ii (3 + (vsz 7 v : Int)), .ref 102]) dm_X12_dyad_10 rfl (q_inv (As := [ii (hd2 : Int)]) (S := [ii (3 + (vsz 7 v : Int)), .ref 102]) hm rfl rfl rfl) rfl rfl rfl (r_sizeOf_ hm hB0 7 (by omega) hw) ?_
  refine y_iadd (a := 3 + (vsz 7 v : Int)) (b := (vsz 7 w : Int)) dm_X12_dyad_13 (pc' := 14) rfl ?_
  refine pg_st (S' := [ii ((3 + vS v + vS w : Nat) : Int), .ref 102]) (congrArg (fun z => ii z :: [.ref 102]) (show (3 + (vsz 7 v : Int)) + (vsz 7 w : Int) = ((3 + vS v + vS w : Nat) : Int) by show _ = ((3 + vsz 7 v + vsz 7 w : Nat) : Int); omega)) ?_
  have hvS : vS v = vsz 7 v := rfl
  have hwS9 : vS w = vsz 7 w := rfl
  have hg1 : 1 ≤ vsz 7 v := vsz_ge1 (d := 6)
  have hg2 : 1 ≤ vsz 7 w := vsz_ge1 (d := 6)
  by_cases hW : W < (3 + vS v + vS w)
  · refine me1 (pc' := 16) (L' := [(0, .ref 102), (1, ii verb), (2, ii (hd : Int)), (3, ii (hd2 : Int)), (4, ii place)]) (S' := [ii place, ii ((3 + vS v + vS w : Nat) : Int), .ref 102]) dm_X12_dyad_14 rfl rfl rfl rfl ?_
    refine x_cv (pc' := 19) (rest := []) dm_X12_dyad_16 rfl (q_inv (As := [ii ((3 + vS v + vS w : Nat) : Int), ii place]) (S := []) hm rfl rfl rfl) rfl rfl rfl ((by have z := r_takes_ (xt := xt) (d := d - 1) (pre := pre) (post := post) (s := s) (n := ((3 + vS v + vS w : Nat) : Int)) (place := place) hm (by omega) he0 hca.1 hca.2 (by omega) (by omega) (by omega); rw [tkS_f (by omega), decide_eq_false (by omega)] at z; exact z)) ?_
    rintro _ _ ⟨rfl, rfl⟩
    refine me_1f (pc' := 22) dm_X12_dyad_19 rfl (by decide) rfl ?_
    refine me0 (pc' := 23) (S' := [ii (-1)]) dm_X12_dyad_22 rfl rfl rfl rfl ?_
    refine y_ret (r := some (ii (-1))) dm_X12_dyad_23 rfl rfl rfl ?_
    refine ⟨_, rfl, ?_⟩
    rw [show dTwo (cpS s) W verb v w place = dEr (cpS s) W 10 place from dAc_no hW]
    exact tk_no (n := 0) he0 h8 hnd
  · refine me1 (pc' := 16) (L' := [(0, .ref 102), (1, ii verb), (2, ii (hd : Int)), (3, ii (hd2 : Int)), (4, ii place)]) (S' := [ii place, ii ((3 + vS v + vS w : Nat) : Int), .ref 102]) dm_X12_dyad_14 rfl rfl rfl rfl ?_
    refine x_cv (pc' := 19) (rest := []) dm_X12_dyad_16 rfl (q_inv (As := [ii ((3 + vS v + vS w : Nat) : Int), ii place]) (S := []) hm rfl rfl rfl) rfl rfl rfl ((by have z := r_takes_ (xt := xt) (d := d - 1) (pre := pre) (post := post) (s := s) (n := ((3 + vS v + vS w : Nat) : Int)) (place := place) hm (by omega) he0 hca.1 hca.2 (by omega) (by omega) (by omega); rw [tkS_t (by omega), decide_eq_true (by omega)] at z; exact z)) ?_
    rintro _ _ ⟨rfl, rfl⟩
    refine me_1t (pc' := 24) dm_X12_dyad_19 rfl (by decide) ?_
    refine me1 (pc' := 25) (L' := [(0, .ref 102), (1, ii verb), (2, ii (hd : Int)), (3, ii (hd2 : Int)), (4, ii place)]) (S' := [.ref 102]) dm_X12_dyad_24 rfl rfl rfl rfl ?_
    refine me0 (pc' := 26) (S' := [ii 0, .ref 102]) dm_X12_dyad_25 rfl rfl rfl rfl ?_
    refine me3 (pc' := 29) (S' := []) (h1 := rI pre post (va_up ((takeS s ((3 + vS v + vS w : Nat) : Int)).1) 9 0) ((takeS s ((3 + vS v + vS w : Nat) : Int)).2.1) ((takeS s ((3 + vS v + vS w : Nat) : Int)).2.2.1) ((takeS s ((3 + vS v + vS w : Nat) : Int)).2.2.2)) dm_X12_dyad_26 (q_puti hm rfl rfl (fun m i l v => rf_9 m i l v)) rfl rfl rfl ?_
    obtain ⟨s2, hs2⟩ : ∃ s2 : RS, s2 = (va_up (takeS s ((3 + vS v + vS w : Nat) : Int)).1 9 0, (takeS s ((3 + vS v + vS w : Nat) : Int)).2.1, (takeS s ((3 + vS v + vS w : Nat) : Int)).2.2.1, (takeS s ((3 + vS v + vS w : Nat) : Int)).2.2.2) := ⟨_, rfl⟩
    have hT := tk_tkd (W := W) hs2 he0 h8 (by omega)
    have hqS : s2.1 4 = (q : Int) := hT.2.2.2.1.trans hq
    have hbS : s2.1 3 = (b : Int) := hT.2.2.1.trans hb
    have heS : s2.1 5 = 0 := hT.2.2.2.2.1
    have hwS : s2.1 13 = (base : Int) := hT.2.2.2.2.2.2.1.trans hw13
    have hcaS : 0 ≤ s2.1 10 ∧ s2.1 10 ≤ 100 := by rw [hT.2.1.1 10 (by decide) (by decide) (by decide) (by decide) (by decide) (by decide) (by decide) (by decide) (by decide) (by decide)]; exact hca
    have hBs : rB s2 := ⟨by omega, by omega, by omega, by omega⟩
    have hvs := rv_ext hT.1 hh3 hv
    have hws := rv_ext hT.1 hh4 hw
    have hrs := hRS verb v w (rv_wf hv) (rv_wf hw) hz1 hz3 hz2 hz4
    have hww : W - (3 + vS v + vS w) + (3 + vS v + vS w) = W := by omega
    refine pg_cast (h2 := rI pre post s2.1 s2.2.1 s2.2.2.1 s2.2.2.2) (by rw [hs2]) ?_
    refine me1 (pc' := 30) (L' := [(0, .ref 102), (1, ii verb), (2, ii (hd : Int)), (3, ii (hd2 : Int)), (4, ii place)]) (S' := [ii verb]) dm_X12_dyad_29 rfl rfl rfl rfl ?_
    have hsp : s_two verb 6 v w = d_at v w := by unfold s_two; rw [if_neg (by omega), if_neg (by omega), if_neg (by omega), if_neg (by omega), if_neg (by omega), if_pos (by omega)]
    refine y_sw (a := verb) (35) (t := 153) (i := .lookupswitch 258 #[(35, 123), (36, 213), (44, 108), (46, 243), (63, 183), (64, 198), (94, 228), (95, 167), (126, 82)]) (len := 82) dm_X12_dyad_30 rfl rfl rfl (by omega) (by decide) (fun hb1 => ?_) (fun hb1 => ?_)
    · exfalso; omega
    refine y_sw (a := verb) (36) (t := 243) (i := .lookupswitch 258 #[(35, 123), (36, 213), (44, 108), (46, 243), (63, 183), (64, 198), (94, 228), (95, 167), (126, 82)]) (len := 82) dm_X12_dyad_30 rfl rfl rfl (by omega) (by decide) (fun hb2 => ?_) (fun hb2 => ?_)
    · exfalso; omega
    refine y_sw (a := verb) (44) (t := 138) (i := .lookupswitch 258 #[(35, 123), (36, 213), (44, 108), (46, 243), (63, 183), (64, 198), (94, 228), (95, 167), (126, 82)]) (len := 82) dm_X12_dyad_30 rfl rfl rfl (by omega) (by decide) (fun hb3 => ?_) (fun hb3 => ?_)
    · exfalso; omega
    refine y_sw (a := verb) (46) (t := 273) (i := .lookupswitch 258 #[(35, 123), (36, 213), (44, 108), (46, 243), (63, 183), (64, 198), (94, 228), (95, 167), (126, 82)]) (len := 82) dm_X12_dyad_30 rfl rfl rfl (by omega) (by decide) (fun hb4 => ?_) (fun hb4 => ?_)
    · exfalso; omega
    refine y_sw (a := verb) (63) (t := 213) (i := .lookupswitch 258 #[(35, 123), (36, 213), (44, 108), (46, 243), (63, 183), (64, 198), (94, 228), (95, 167), (126, 82)]) (len := 82) dm_X12_dyad_30 rfl rfl rfl (by omega) (by decide) (fun hb5 => ?_) (fun hb5 => ?_)
    · exfalso; omega
    refine y_sw (a := verb) (64) (t := 228) (i := .lookupswitch 258 #[(35, 123), (36, 213), (44, 108), (46, 243), (63, 183), (64, 198), (94, 228), (95, 167), (126, 82)]) (len := 82) dm_X12_dyad_30 rfl rfl rfl (by omega) (by decide) (fun hb6 => ?_) (fun hb6 => ?_)
    · refine me1 (pc' := 229) (L' := [(0, .ref 102), (1, ii verb), (2, ii (hd : Int)), (3, ii (hd2 : Int)), (4, ii place)]) (S' := [.ref 102]) dm_X12_dyad_228 rfl rfl rfl rfl ?_
      refine me1 (pc' := 230) (L' := [(0, .ref 102), (1, ii verb), (2, ii (hd : Int)), (3, ii (hd2 : Int)), (4, ii place)]) (S' := [.ref 102, .ref 102]) dm_X12_dyad_229 rfl rfl rfl rfl ?_
      refine me1 (pc' := 231) (L' := [(0, .ref 102), (1, ii verb), (2, ii (hd : Int)), (3, ii (hd2 : Int)), (4, ii place)]) (S' := [ii (hd : Int), .ref 102, .ref 102]) dm_X12_dyad_230 rfl rfl rfl rfl ?_
      refine me1 (pc' := 232) (L' := [(0, .ref 102), (1, ii verb), (2, ii (hd : Int)), (3, ii (hd2 : Int)), (4, ii place)]) (S' := [ii (hd2 : Int), ii (hd : Int), .ref 102, .ref 102]) dm_X12_dyad_231 rfl rfl rfl rfl ?_
      refine me1 (pc' := 234) (L' := [(0, .ref 102), (1, ii verb), (2, ii (hd : Int)), (3, ii (hd2 : Int)), (4, ii place)]) (S' := [ii place, ii (hd2 : Int), ii (hd : Int), .ref 102, .ref 102]) dm_X12_dyad_232 rfl rfl rfl rfl ?_
      refine x_cv (pc' := 237) (rest := [.ref 102]) dm_X12_dyad_234 rfl (q_inv (As := [ii (hd : Int), ii (hd2 : Int), ii place]) (S := [.ref 102]) hm rfl rfl rfl) rfl rfl rfl (r_picks_ (e := 6) (q := q) (b := b) (s := s2) (place := place) hm (by omega) hBs hvs hh3 hws hh4 hqS hbS hq3 (by omega) heS hcaS (by omega)) ?_
      rintro x1 g1 hres
      have hG : rG pre post s2 8 (d_at v w) place (rcb (d_at v w) 144) (rvb (d_at v w) 1) x1 g1 := rG_up (rG_r hres)
      obtain ⟨z1, rfl⟩ := rG_ii hG
      obtain ⟨t1, rfl⟩ := rG_st hG
      refine me1 (pc' := 239) (L' := [(0, .ref 102), (1, ii verb), (2, ii (hd : Int)), (3, ii (hd2 : Int)), (4, ii place)]) (S' := [ii place, ii z1, .ref 102]) dm_X12_dyad_237 rfl rfl rfl rfl ?_
      refine x_cv (pc' := 242) (rest := []) dm_X12_dyad_239 rfl (q_inv (As := [ii z1, ii place]) (S := []) hm rfl rfl rfl) rfl rfl rfl (r_mdo1 (s := s) (s2 := s2) (W2 := W - (3 + vS v + vS w)) (cost := (3 + vS v + vS w)) (cb := 144) (o := d_at v w) (c := 9) (nd := nd) hm (by omega) hT hB0 hG hca (by omega) hnd (fun n hn => hrs.1 n (hsp.trans hn)) (fun r hr => hrs.2 r (hsp.trans hr)) (by omega) (by omega) (by omega)) ?_
      rintro x9 g9 hfin
      obtain ⟨z9, rfl⟩ := dres_ii hfin
      obtain ⟨t9, rfl⟩ := dres_st hfin
      refine y_ret (r := some (ii z9)) dm_X12_dyad_242 rfl rfl rfl ?_
      have e9 : dTwo (cpS s) W verb v w place = dMo (cpS s) (W - (3 + vS v + vS w)) 0 (d_at v w) place := by unfold dTwo; rw [dAc_mo (by omega), hsp]
      rw [hww] at hfin
      rw [e9]
      exact ⟨_, rfl, hfin⟩
    refine y_sw (a := verb) (94) (t := 258) (i := .lookupswitch 258 #[(35, 123), (36, 213), (44, 108), (46, 243), (63, 183), (64, 198), (94, 228), (95, 167), (126, 82)]) (len := 82) dm_X12_dyad_30 rfl rfl rfl (by omega) (by decide) (fun hb7 => ?_) (fun hb7 => ?_)
    · exfalso; omega
    refine y_sw (a := verb) (95) (t := 197) (i := .lookupswitch 258 #[(35, 123), (36, 213), (44, 108), (46, 243), (63, 183), (64, 198), (94, 228), (95, 167), (126, 82)]) (len := 82) dm_X12_dyad_30 rfl rfl rfl (by omega) (by decide) (fun hb8 => ?_) (fun hb8 => ?_)
    · exfalso; omega
    refine y_sw (a := verb) (126) (t := 112) (i := .lookupswitch 258 #[(35, 123), (36, 213), (44, 108), (46, 243), (63, 183), (64, 198), (94, 228), (95, 167), (126, 82)]) (len := 82) dm_X12_dyad_30 rfl rfl rfl (by omega) (by decide) (fun hb9 => ?_) (fun hb9 => ?_)
    · exfalso; omega
    exfalso; omega
theorem dm_X12_dyad_243 : mj_dec prog_14_method_48_code 243 = some (.aload_n 0, 1) := by decide +kernel
theorem dm_X12_dyad_244 : mj_dec prog_14_method_48_code 244 = some (.aload_n 0, 1) := by decide +kernel
theorem dm_X12_dyad_245 : mj_dec prog_14_method_48_code 245 = some (.iload_n 2, 1) := by decide +kernel
theorem dm_X12_dyad_246 : mj_dec prog_14_method_48_code 246 = some (.iload_n 3, 1) := by decide +kernel
theorem dm_X12_dyad_247 : mj_dec prog_14_method_48_code 247 = some (.iload 4, 2) := by decide +kernel
theorem dm_X12_dyad_249 : mj_dec prog_14_method_48_code 249 = some (.invokevirtual 320, 3) := by decide +kernel
theorem dm_X12_dyad_252 : mj_dec prog_14_method_48_code 252 = some (.iload 4, 2) := by decide +kernel
theorem dm_X12_dyad_254 : mj_dec prog_14_method_48_code 254 = some (.invokevirtual 208, 3) := by decide +kernel
theorem dm_X12_dyad_257 : mj_dec prog_14_method_48_code 257 = some (.ireturn, 1) := by decide +kernel
theorem r_dy36 {xt : mj_X} {d hd hd2 q b base W : Nat} {pre post : mj_H} {s : RS} {v w : VV} {place nd verb : Int} (hm : pre.length = 102) (hd1 : 60 ≤ d) (hRS : RST2) (hB : rB s) (hv : rv s 7 hd v) (hh3 : 3 ≤ hd) (hw : rv s 7 hd2 w) (hh4 : 3 ≤ hd2) (hz1 : vsz 7 v ≤ 1000) (hz2 : vlv 7 v ≤ 5) (hz3 : vsz 7 w ≤ 1000) (hz4 : vlv 7 w ≤ 5) (hq : s.1 4 = (q : Int)) (hb : s.1 3 = (b : Int)) (hq3 : 3 ≤ q) (hV2 : q + 2100 < 310000) (he0 : s.1 5 = 0) (hca : 0 ≤ s.1 10 ∧ s.1 10 ≤ 100) (hC : b + 291000 ≤ 820000) (hw13 : s.1 13 = (base : Int)) (hbs : base ≤ 7900) (h8 : s.1 8 = (W : Int)) (hW5 : W ≤ 500000) (hnd : 0 ≤ nd) (hvb : verb = 36) : pgV xt d 255 [.ref 102, ii verb, ii (hd : Int), ii (hd2 : Int), ii place] (rS pre post s) (dres pre post s W 9 nd (dTwo (cpS s) W verb v w place)) := by
  have hB0 := hB
  obtain ⟨hB1, hB2, hB3, hB4⟩ := hB
  obtain ⟨fr, hfr, hsh, hlt, hcl, hvk, hvm, hvc, hvq, hvcl⟩ := rv_val hv
  obtain ⟨fw, hfw, hshw, hltw, hclw, hwk, hwm, hwc, hwq, hwcl⟩ := rv_val hw
  have hvb2 : -2147483648 ≤ verb ∧ verb ≤ 2147483647 := by omega
  refine x_enter pm_X12_dyad (L0 := [(0, .ref 102), (1, ii verb), (2, ii (hd : Int)), (3, ii (hd2 : Int)), (4, ii place)]) rfl (Nat.le_of_ble_eq_true rfl) (by omega) ?_
  refine me1 (pc' := 1) (L' := [(0, .ref 102), (1, ii verb), (2, ii (hd : Int)), (3, ii (hd2 : Int)), (4, ii place)]) (S' := [.ref 102]) dm_X12_dyad_0 rfl rfl rfl rfl ?_
  refine me0 (pc' := 2) (S' := [ii 3, .ref 102]) dm_X12_dyad_1 rfl rfl rfl rfl ?_
  refine me1 (pc' := 3) (L' := [(0, .ref 102), (1, ii verb), (2, ii (hd : Int)), (3, ii (hd2 : Int)), (4, ii place)]) (S' := [.ref 102, ii 3, .ref 102]) dm_X12_dyad_2 rfl rfl rfl rfl ?_
  refine me1 (pc' := 4) (L' := [(0, .ref 102), (1, ii verb), (2, ii (hd : Int)), (3, ii (hd2 : Int)), (4, ii place)]) (S' := [ii (hd : Int), .ref 102, ii 3, .ref 102]) dm_X12_dyad_3 rfl rfl rfl rfl ?_
  refine x_cp (pc' := 7) (v := ii (vsz 7 v : Int)) (rest := [ii 3, .ref 102]) dm_X12_dyad_4 rfl (q_inv (As := [ii (hd : Int)]) (S := [ii 3, .ref 102]) hm rfl rfl rfl) rfl rfl rfl (r_sizeOf_ hm hB0 7 (by omega) hv) ?_
  refine y_iadd (a := 3) (b := (vsz 7 v : Int)) dm_X12_dyad_7 (pc' := 8) rfl ?_
  refine me1 (pc' := 9) (L' := [(0, .ref 102), (1, ii verb), (2, ii (hd : Int)), (3, ii (hd2 : Int)), (4, ii place)]) (S' := [.ref 102, ii (3 + (vsz 7 v : Int)), .ref 102]) dm_X12_dyad_8 rfl rfl rfl rfl ?_
  refine me1 (pc' := 10) (L' := [(0, .ref 102), (1, ii verb), (2, ii (hd : Int)), (3, ii (hd2 : Int)), (4, ii place)]) (S' := [ii (hd2 : Int), .ref 102, ii (3 + (vsz 7 v : Int)), .ref 102]) dm_X12_dyad_9 rfl rfl rfl rfl ?_
  refine x_cp (pc' := 13) (v := ii (vsz 7 w : Int)) (rest := [ii (3 + (vsz 7 v : Int)), .ref 102]) dm_X12_dyad_10 rfl (q_inv (As := [ii (hd2 : Int)]) (S := [ii (3 + (vsz 7 v : Int)), .ref 102]) hm rfl rfl rfl) rfl rfl rfl (r_sizeOf_ hm hB0 7 (by omega) hw) ?_
  refine y_iadd (a := 3 + (vsz 7 v : Int)) (b := (vsz 7 w : Int)) dm_X12_dyad_13 (pc' := 14) rfl ?_
  refine pg_st (S' := [ii ((3 + vS v + vS w : Nat) : Int), .ref 102]) (congrArg (fun z => ii z :: [.ref 102]) (show (3 + (vsz 7 v : Int)) + (vsz 7 w : Int) = ((3 + vS v + vS w : Nat) : Int) by show _ = ((3 + vsz 7 v + vsz 7 w : Nat) : Int); omega)) ?_
  have hvS : vS v = vsz 7 v := rfl
  have hwS9 : vS w = vsz 7 w := rfl
  have hg1 : 1 ≤ vsz 7 v := vsz_ge1 (d := 6)
  have hg2 : 1 ≤ vsz 7 w := vsz_ge1 (d := 6)
  by_cases hW : W < (3 + vS v + vS w)
  · refine me1 (pc' := 16) (L' := [(0, .ref 102), (1, ii verb), (2, ii (hd : Int)), (3, ii (hd2 : Int)), (4, ii place)]) (S' := [ii place, ii ((3 + vS v + vS w : Nat) : Int), .ref 102]) dm_X12_dyad_14 rfl rfl rfl rfl ?_
    refine x_cv (pc' := 19) (rest := []) dm_X12_dyad_16 rfl (q_inv (As := [ii ((3 + vS v + vS w : Nat) : Int), ii place]) (S := []) hm rfl rfl rfl) rfl rfl rfl ((by have z := r_takes_ (xt := xt) (d := d - 1) (pre := pre) (post := post) (s := s) (n := ((3 + vS v + vS w : Nat) : Int)) (place := place) hm (by omega) he0 hca.1 hca.2 (by omega) (by omega) (by omega); rw [tkS_f (by omega), decide_eq_false (by omega)] at z; exact z)) ?_
    rintro _ _ ⟨rfl, rfl⟩
    refine me_1f (pc' := 22) dm_X12_dyad_19 rfl (by decide) rfl ?_
    refine me0 (pc' := 23) (S' := [ii (-1)]) dm_X12_dyad_22 rfl rfl rfl rfl ?_
    refine y_ret (r := some (ii (-1))) dm_X12_dyad_23 rfl rfl rfl ?_
    refine ⟨_, rfl, ?_⟩
    rw [show dTwo (cpS s) W verb v w place = dEr (cpS s) W 10 place from dAc_no hW]
    exact tk_no (n := 0) he0 h8 hnd
  · refine me1 (pc' := 16) (L' := [(0, .ref 102), (1, ii verb), (2, ii (hd : Int)), (3, ii (hd2 : Int)), (4, ii place)]) (S' := [ii place, ii ((3 + vS v + vS w : Nat) : Int), .ref 102]) dm_X12_dyad_14 rfl rfl rfl rfl ?_
    refine x_cv (pc' := 19) (rest := []) dm_X12_dyad_16 rfl (q_inv (As := [ii ((3 + vS v + vS w : Nat) : Int), ii place]) (S := []) hm rfl rfl rfl) rfl rfl rfl ((by have z := r_takes_ (xt := xt) (d := d - 1) (pre := pre) (post := post) (s := s) (n := ((3 + vS v + vS w : Nat) : Int)) (place := place) hm (by omega) he0 hca.1 hca.2 (by omega) (by omega) (by omega); rw [tkS_t (by omega), decide_eq_true (by omega)] at z; exact z)) ?_
    rintro _ _ ⟨rfl, rfl⟩
    refine me_1t (pc' := 24) dm_X12_dyad_19 rfl (by decide) ?_
    refine me1 (pc' := 25) (L' := [(0, .ref 102), (1, ii verb), (2, ii (hd : Int)), (3, ii (hd2 : Int)), (4, ii place)]) (S' := [.ref 102]) dm_X12_dyad_24 rfl rfl rfl rfl ?_
    refine me0 (pc' := 26) (S' := [ii 0, .ref 102]) dm_X12_dyad_25 rfl rfl rfl rfl ?_
    refine me3 (pc' := 29) (S' := []) (h1 := rI pre post (va_up ((takeS s ((3 + vS v + vS w : Nat) : Int)).1) 9 0) ((takeS s ((3 + vS v + vS w : Nat) : Int)).2.1) ((takeS s ((3 + vS v + vS w : Nat) : Int)).2.2.1) ((takeS s ((3 + vS v + vS w : Nat) : Int)).2.2.2)) dm_X12_dyad_26 (q_puti hm rfl rfl (fun m i l v => rf_9 m i l v)) rfl rfl rfl ?_
    obtain ⟨s2, hs2⟩ : ∃ s2 : RS, s2 = (va_up (takeS s ((3 + vS v + vS w : Nat) : Int)).1 9 0, (takeS s ((3 + vS v + vS w : Nat) : Int)).2.1, (takeS s ((3 + vS v + vS w : Nat) : Int)).2.2.1, (takeS s ((3 + vS v + vS w : Nat) : Int)).2.2.2) := ⟨_, rfl⟩
    have hT := tk_tkd (W := W) hs2 he0 h8 (by omega)
    have hqS : s2.1 4 = (q : Int) := hT.2.2.2.1.trans hq
    have hbS : s2.1 3 = (b : Int) := hT.2.2.1.trans hb
    have heS : s2.1 5 = 0 := hT.2.2.2.2.1
    have hwS : s2.1 13 = (base : Int) := hT.2.2.2.2.2.2.1.trans hw13
    have hcaS : 0 ≤ s2.1 10 ∧ s2.1 10 ≤ 100 := by rw [hT.2.1.1 10 (by decide) (by decide) (by decide) (by decide) (by decide) (by decide) (by decide) (by decide) (by decide) (by decide)]; exact hca
    have hBs : rB s2 := ⟨by omega, by omega, by omega, by omega⟩
    have hvs := rv_ext hT.1 hh3 hv
    have hws := rv_ext hT.1 hh4 hw
    have hrs := hRS verb v w (rv_wf hv) (rv_wf hw) hz1 hz3 hz2 hz4
    have hww : W - (3 + vS v + vS w) + (3 + vS v + vS w) = W := by omega
    refine pg_cast (h2 := rI pre post s2.1 s2.2.1 s2.2.2.1 s2.2.2.2) (by rw [hs2]) ?_
    refine me1 (pc' := 30) (L' := [(0, .ref 102), (1, ii verb), (2, ii (hd : Int)), (3, ii (hd2 : Int)), (4, ii place)]) (S' := [ii verb]) dm_X12_dyad_29 rfl rfl rfl rfl ?_
    have hsp : s_two verb 6 v w = d_fit v w := by unfold s_two; rw [if_neg (by omega), if_neg (by omega), if_neg (by omega), if_neg (by omega), if_neg (by omega), if_neg (by omega), if_pos (by omega)]
    refine y_sw (a := verb) (35) (t := 153) (i := .lookupswitch 258 #[(35, 123), (36, 213), (44, 108), (46, 243), (63, 183), (64, 198), (94, 228), (95, 167), (126, 82)]) (len := 82) dm_X12_dyad_30 rfl rfl rfl (by omega) (by decide) (fun hb1 => ?_) (fun hb1 => ?_)
    · exfalso; omega
    refine y_sw (a := verb) (36) (t := 243) (i := .lookupswitch 258 #[(35, 123), (36, 213), (44, 108), (46, 243), (63, 183), (64, 198), (94, 228), (95, 167), (126, 82)]) (len := 82) dm_X12_dyad_30 rfl rfl rfl (by omega) (by decide) (fun hb2 => ?_) (fun hb2 => ?_)
    · refine me1 (pc' := 244) (L' := [(0, .ref 102), (1, ii verb), (2, ii (hd : Int)), (3, ii (hd2 : Int)), (4, ii place)]) (S' := [.ref 102]) dm_X12_dyad_243 rfl rfl rfl rfl ?_
      refine me1 (pc' := 245) (L' := [(0, .ref 102), (1, ii verb), (2, ii (hd : Int)), (3, ii (hd2 : Int)), (4, ii place)]) (S' := [.ref 102, .ref 102]) dm_X12_dyad_244 rfl rfl rfl rfl ?_
      refine me1 (pc' := 246) (L' := [(0, .ref 102), (1, ii verb), (2, ii (hd : Int)), (3, ii (hd2 : Int)), (4, ii place)]) (S' := [ii (hd : Int), .ref 102, .ref 102]) dm_X12_dyad_245 rfl rfl rfl rfl ?_
      refine me1 (pc' := 247) (L' := [(0, .ref 102), (1, ii verb), (2, ii (hd : Int)), (3, ii (hd2 : Int)), (4, ii place)]) (S' := [ii (hd2 : Int), ii (hd : Int), .ref 102, .ref 102]) dm_X12_dyad_246 rfl rfl rfl rfl ?_
      refine me1 (pc' := 249) (L' := [(0, .ref 102), (1, ii verb), (2, ii (hd : Int)), (3, ii (hd2 : Int)), (4, ii place)]) (S' := [ii place, ii (hd2 : Int), ii (hd : Int), .ref 102, .ref 102]) dm_X12_dyad_247 rfl rfl rfl rfl ?_
      refine x_cv (pc' := 252) (rest := [.ref 102]) dm_X12_dyad_249 rfl (q_inv (As := [ii (hd : Int), ii (hd2 : Int), ii place]) (S := [.ref 102]) hm rfl rfl rfl) rfl rfl rfl (r_fit_ (e := 6) (q := q) (b := b) (s := s2) (place := place) hm (by omega) hBs hvs hh3 hws hh4 hqS hbS hq3 (by omega) heS hcaS (by omega)) ?_
      rintro x1 g1 hres
      have hG : rG pre post s2 8 (d_fit v w) place (rcb (d_fit v w) 120) (rvb (d_fit v w) 1) x1 g1 := rG_up (rG_r hres)
      obtain ⟨z1, rfl⟩ := rG_ii hG
      obtain ⟨t1, rfl⟩ := rG_st hG
      refine me1 (pc' := 254) (L' := [(0, .ref 102), (1, ii verb), (2, ii (hd : Int)), (3, ii (hd2 : Int)), (4, ii place)]) (S' := [ii place, ii z1, .ref 102]) dm_X12_dyad_252 rfl rfl rfl rfl ?_
      refine x_cv (pc' := 257) (rest := []) dm_X12_dyad_254 rfl (q_inv (As := [ii z1, ii place]) (S := []) hm rfl rfl rfl) rfl rfl rfl (r_mdo1 (s := s) (s2 := s2) (W2 := W - (3 + vS v + vS w)) (cost := (3 + vS v + vS w)) (cb := 120) (o := d_fit v w) (c := 9) (nd := nd) hm (by omega) hT hB0 hG hca (by omega) hnd (fun n hn => hrs.1 n (hsp.trans hn)) (fun r hr => hrs.2 r (hsp.trans hr)) (by omega) (by omega) (by omega)) ?_
      rintro x9 g9 hfin
      obtain ⟨z9, rfl⟩ := dres_ii hfin
      obtain ⟨t9, rfl⟩ := dres_st hfin
      refine y_ret (r := some (ii z9)) dm_X12_dyad_257 rfl rfl rfl ?_
      have e9 : dTwo (cpS s) W verb v w place = dMo (cpS s) (W - (3 + vS v + vS w)) 0 (d_fit v w) place := by unfold dTwo; rw [dAc_mo (by omega), hsp]
      rw [hww] at hfin
      rw [e9]
      exact ⟨_, rfl, hfin⟩
    refine y_sw (a := verb) (44) (t := 138) (i := .lookupswitch 258 #[(35, 123), (36, 213), (44, 108), (46, 243), (63, 183), (64, 198), (94, 228), (95, 167), (126, 82)]) (len := 82) dm_X12_dyad_30 rfl rfl rfl (by omega) (by decide) (fun hb3 => ?_) (fun hb3 => ?_)
    · exfalso; omega
    refine y_sw (a := verb) (46) (t := 273) (i := .lookupswitch 258 #[(35, 123), (36, 213), (44, 108), (46, 243), (63, 183), (64, 198), (94, 228), (95, 167), (126, 82)]) (len := 82) dm_X12_dyad_30 rfl rfl rfl (by omega) (by decide) (fun hb4 => ?_) (fun hb4 => ?_)
    · exfalso; omega
    refine y_sw (a := verb) (63) (t := 213) (i := .lookupswitch 258 #[(35, 123), (36, 213), (44, 108), (46, 243), (63, 183), (64, 198), (94, 228), (95, 167), (126, 82)]) (len := 82) dm_X12_dyad_30 rfl rfl rfl (by omega) (by decide) (fun hb5 => ?_) (fun hb5 => ?_)
    · exfalso; omega
    refine y_sw (a := verb) (64) (t := 228) (i := .lookupswitch 258 #[(35, 123), (36, 213), (44, 108), (46, 243), (63, 183), (64, 198), (94, 228), (95, 167), (126, 82)]) (len := 82) dm_X12_dyad_30 rfl rfl rfl (by omega) (by decide) (fun hb6 => ?_) (fun hb6 => ?_)
    · exfalso; omega
    refine y_sw (a := verb) (94) (t := 258) (i := .lookupswitch 258 #[(35, 123), (36, 213), (44, 108), (46, 243), (63, 183), (64, 198), (94, 228), (95, 167), (126, 82)]) (len := 82) dm_X12_dyad_30 rfl rfl rfl (by omega) (by decide) (fun hb7 => ?_) (fun hb7 => ?_)
    · exfalso; omega
    refine y_sw (a := verb) (95) (t := 197) (i := .lookupswitch 258 #[(35, 123), (36, 213), (44, 108), (46, 243), (63, 183), (64, 198), (94, 228), (95, 167), (126, 82)]) (len := 82) dm_X12_dyad_30 rfl rfl rfl (by omega) (by decide) (fun hb8 => ?_) (fun hb8 => ?_)
    · exfalso; omega
    refine y_sw (a := verb) (126) (t := 112) (i := .lookupswitch 258 #[(35, 123), (36, 213), (44, 108), (46, 243), (63, 183), (64, 198), (94, 228), (95, 167), (126, 82)]) (len := 82) dm_X12_dyad_30 rfl rfl rfl (by omega) (by decide) (fun hb9 => ?_) (fun hb9 => ?_)
    · exfalso; omega
    exfalso; omega
theorem dm_X12_dyad_258 : mj_dec prog_14_method_48_code 258 = some (.aload_n 0, 1) := by decide +kernel
theorem dm_X12_dyad_259 : mj_dec prog_14_method_48_code 259 = some (.aload_n 0, 1) := by decide +kernel
theorem dm_X12_dyad_260 : mj_dec prog_14_method_48_code 260 = some (.iload_n 2, 1) := by decide +kernel
theorem dm_X12_dyad_261 : mj_dec prog_14_method_48_code 261 = some (.iload_n 3, 1) := by decide +kernel
theorem dm_X12_dyad_262 : mj_dec prog_14_method_48_code 262 = some (.iload 4, 2) := by decide +kernel
theorem dm_X12_dyad_264 : mj_dec prog_14_method_48_code 264 = some (.invokevirtual 323, 3) := by decide +kernel
theorem dm_X12_dyad_267 : mj_dec prog_14_method_48_code 267 = some (.iload 4, 2) := by decide +kernel
theorem dm_X12_dyad_269 : mj_dec prog_14_method_48_code 269 = some (.invokevirtual 208, 3) := by decide +kernel
theorem dm_X12_dyad_272 : mj_dec prog_14_method_48_code 272 = some (.ireturn, 1) := by decide +kernel
theorem r_dy94 {xt : mj_X} {d hd hd2 q b base W : Nat} {pre post : mj_H} {s : RS} {v w : VV} {place nd verb : Int} (hm : pre.length = 102) (hd1 : 60 ≤ d) (hRS : RST2) (hB : rB s) (hv : rv s 7 hd v) (hh3 : 3 ≤ hd) (hw : rv s 7 hd2 w) (hh4 : 3 ≤ hd2) (hz1 : vsz 7 v ≤ 1000) (hz2 : vlv 7 v ≤ 5) (hz3 : vsz 7 w ≤ 1000) (hz4 : vlv 7 w ≤ 5) (hq : s.1 4 = (q : Int)) (hb : s.1 3 = (b : Int)) (hq3 : 3 ≤ q) (hV2 : q + 2100 < 310000) (he0 : s.1 5 = 0) (hca : 0 ≤ s.1 10 ∧ s.1 10 ≤ 100) (hC : b + 291000 ≤ 820000) (hw13 : s.1 13 = (base : Int)) (hbs : base ≤ 7900) (h8 : s.1 8 = (W : Int)) (hW5 : W ≤ 500000) (hnd : 0 ≤ nd) (hvb : verb = 94) : pgV xt d 255 [.ref 102, ii verb, ii (hd : Int), ii (hd2 : Int), ii place] (rS pre post s) (dres pre post s W 9 nd (dTwo (cpS s) W verb v w place)) := by
  have hB0 := hB
  obtain ⟨hB1, hB2, hB3, hB4⟩ := hB
  obtain ⟨fr, hfr, hsh, hlt, hcl, hvk, hvm, hvc, hvq, hvcl⟩ := rv_val hv
  obtain ⟨fw, hfw, hshw, hltw, hclw, hwk, hwm, hwc, hwq, hwcl⟩ := rv_val hw
  have hvb2 : -2147483648 ≤ verb ∧ verb ≤ 2147483647 := by omega
  refine x_enter pm_X12_dyad (L0 := [(0, .ref 102), (1, ii verb), (2, ii (hd : Int)), (3, ii (hd2 : Int)), (4, ii place)]) rfl (Nat.le_of_ble_eq_true rfl) (by omega) ?_
  refine me1 (pc' := 1) (L' := [(0, .ref 102), (1, ii verb), (2, ii (hd : Int)), (3, ii (hd2 : Int)), (4, ii place)]) (S' := [.ref 102]) dm_X12_dyad_0 rfl rfl rfl rfl ?_
  refine me0 (pc' := 2) (S' := [ii 3, .ref 102]) dm_X12_dyad_1 rfl rfl rfl rfl ?_
  refine me1 (pc' := 3) (L' := [(0, .ref 102), (1, ii verb), (2, ii (hd : Int)), (3, ii (hd2 : Int)), (4, ii place)]) (S' := [.ref 102, ii 3, .ref 102]) dm_X12_dyad_2 rfl rfl rfl rfl ?_
  refine me1 (pc' := 4) (L' := [(0, .ref 102), (1, ii verb), (2, ii (hd : Int)), (3, ii (hd2 : Int)), (4, ii place)]) (S' := [ii (hd : Int), .ref 102, ii 3, .ref 102]) dm_X12_dyad_3 rfl rfl rfl rfl ?_
  refine x_cp (pc' := 7) (v := ii (vsz 7 v : Int)) (rest := [ii 3, .ref 102]) dm_X12_dyad_4 rfl (q_inv (As := [ii (hd : Int)]) (S := [ii 3, .ref 102]) hm rfl rfl rfl) rfl rfl rfl (r_sizeOf_ hm hB0 7 (by omega) hv) ?_
  refine y_iadd (a := 3) (b := (vsz 7 v : Int)) dm_X12_dyad_7 (pc' := 8) rfl ?_
  refine me1 (pc' := 9) (L' := [(0, .ref 102), (1, ii verb), (2, ii (hd : Int)), (3, ii (hd2 : Int)), (4, ii place)]) (S' := [.ref 102, ii (3 + (vsz 7 v : Int)), .ref 102]) dm_X12_dyad_8 rfl rfl rfl rfl ?_
  refine me1 (pc' := 10) (L' := [(0, .ref 102), (1, ii verb), (2, ii (hd : Int)), (3, ii (hd2 : Int)), (4, ii place)]) (S' := [ii (hd2 : Int), .ref 102, ii (3 + (vsz 7 v : Int)), .ref 102]) dm_X12_dyad_9 rfl rfl rfl rfl ?_
  refine x_cp (pc' := 13) (v := ii (vsz 7 w : Int)) (rest := [ii (3 + (vsz 7 v : Int)), .ref 102]) dm_X12_dyad_10 rfl (q_inv (As := [ii (hd2 : Int)]) (S := [ii (3 + (vsz 7 v : Int)), .ref 102]) hm rfl rfl rfl) rfl rfl rfl (r_sizeOf_ hm hB0 7 (by omega) hw) ?_
  refine y_iadd (a := 3 + (vsz 7 v : Int)) (b := (vsz 7 w : Int)) dm_X12_dyad_13 (pc' := 14) rfl ?_
  refine pg_st (S' := [ii ((3 + vS v + vS w : Nat) : Int), .ref 102]) (congrArg (fun z => ii z :: [.ref 102]) (show (3 + (vsz 7 v : Int)) + (vsz 7 w : Int) = ((3 + vS v + vS w : Nat) : Int) by show _ = ((3 + vsz 7 v + vsz 7 w : Nat) : Int); omega)) ?_
  have hvS : vS v = vsz 7 v := rfl
  have hwS9 : vS w = vsz 7 w := rfl
  have hg1 : 1 ≤ vsz 7 v := vsz_ge1 (d := 6)
  have hg2 : 1 ≤ vsz 7 w := vsz_ge1 (d := 6)
  by_cases hW : W < (3 + vS v + vS w)
  · refine me1 (pc' := 16) (L' := [(0, .ref 102), (1, ii verb), (2, ii (hd : Int)), (3, ii (hd2 : Int)), (4, ii place)]) (S' := [ii place, ii ((3 + vS v + vS w : Nat) : Int), .ref 102]) dm_X12_dyad_14 rfl rfl rfl rfl ?_
    refine x_cv (pc' := 19) (rest := []) dm_X12_dyad_16 rfl (q_inv (As := [ii ((3 + vS v + vS w : Nat) : Int), ii place]) (S := []) hm rfl rfl rfl) rfl rfl rfl ((by have z := r_takes_ (xt := xt) (d := d - 1) (pre := pre) (post := post) (s := s) (n := ((3 + vS v + vS w : Nat) : Int)) (place := place) hm (by omega) he0 hca.1 hca.2 (by omega) (by omega) (by omega); rw [tkS_f (by omega), decide_eq_false (by omega)] at z; exact z)) ?_
    rintro _ _ ⟨rfl, rfl⟩
    refine me_1f (pc' := 22) dm_X12_dyad_19 rfl (by decide) rfl ?_
    refine me0 (pc' := 23) (S' := [ii (-1)]) dm_X12_dyad_22 rfl rfl rfl rfl ?_
    refine y_ret (r := some (ii (-1))) dm_X12_dyad_23 rfl rfl rfl ?_
    refine ⟨_, rfl, ?_⟩
    rw [show dTwo (cpS s) W verb v w place = dEr (cpS s) W 10 place from dAc_no hW]
    exact tk_no (n := 0) he0 h8 hnd
  · refine me1 (pc' := 16) (L' := [(0, .ref 102), (1, ii verb), (2, ii (hd : Int)), (3, ii (hd2 : Int)), (4, ii place)]) (S' := [ii place, ii ((3 + vS v + vS w : Nat) : Int), .ref 102]) dm_X12_dyad_14 rfl rfl rfl rfl ?_
    refine x_cv (pc' := 19) (rest := []) dm_X12_dyad_16 rfl (q_inv (As := [ii ((3 + vS v + vS w : Nat) : Int), ii place]) (S := []) hm rfl rfl rfl) rfl rfl rfl ((by have z := r_takes_ (xt := xt) (d := d - 1) (pre := pre) (post := post) (s := s) (n := ((3 + vS v + vS w : Nat) : Int)) (place := place) hm (by omega) he0 hca.1 hca.2 (by omega) (by omega) (by omega); rw [tkS_t (by omega), decide_eq_true (by omega)] at z; exact z)) ?_
    rintro _ _ ⟨rfl, rfl⟩
    refine me_1t (pc' := 24) dm_X12_dyad_19 rfl (by decide) ?_
    refine me1 (pc' := 25) (L' := [(0, .ref 102), (1, ii verb), (2, ii (hd : Int)), (3, ii (hd2 : Int)), (4, ii place)]) (S' := [.ref 102]) dm_X12_dyad_24 rfl rfl rfl rfl ?_
    refine me0 (pc' := 26) (S' := [ii 0, .ref 102]) dm_X12_dyad_25 rfl rfl rfl rfl ?_
    refine me3 (pc' := 29) (S' := []) (h1 := rI pre post (va_up ((takeS s ((3 + vS v + vS w : Nat) : Int)).1) 9 0) ((takeS s ((3 + vS v + vS w : Nat) : Int)).2.1) ((takeS s ((3 + vS v + vS w : Nat) : Int)).2.2.1) ((takeS s ((3 + vS v + vS w : Nat) : Int)).2.2.2)) dm_X12_dyad_26 (q_puti hm rfl rfl (fun m i l v => rf_9 m i l v)) rfl rfl rfl ?_
    obtain ⟨s2, hs2⟩ : ∃ s2 : RS, s2 = (va_up (takeS s ((3 + vS v + vS w : Nat) : Int)).1 9 0, (takeS s ((3 + vS v + vS w : Nat) : Int)).2.1, (takeS s ((3 + vS v + vS w : Nat) : Int)).2.2.1, (takeS s ((3 + vS v + vS w : Nat) : Int)).2.2.2) := ⟨_, rfl⟩
    have hT := tk_tkd (W := W) hs2 he0 h8 (by omega)
    have hqS : s2.1 4 = (q : Int) := hT.2.2.2.1.trans hq
    have hbS : s2.1 3 = (b : Int) := hT.2.2.1.trans hb
    have heS : s2.1 5 = 0 := hT.2.2.2.2.1
    have hwS : s2.1 13 = (base : Int) := hT.2.2.2.2.2.2.1.trans hw13
    have hcaS : 0 ≤ s2.1 10 ∧ s2.1 10 ≤ 100 := by rw [hT.2.1.1 10 (by decide) (by decide) (by decide) (by decide) (by decide) (by decide) (by decide) (by decide) (by decide) (by decide)]; exact hca
    have hBs : rB s2 := ⟨by omega, by omega, by omega, by omega⟩
    have hvs := rv_ext hT.1 hh3 hv
    have hws := rv_ext hT.1 hh4 hw
    have hrs := hRS verb v w (rv_wf hv) (rv_wf hw) hz1 hz3 hz2 hz4
    have hww : W - (3 + vS v + vS w) + (3 + vS v + vS w) = W := by omega
    refine pg_cast (h2 := rI pre post s2.1 s2.2.1 s2.2.2.1 s2.2.2.2) (by rw [hs2]) ?_
    refine me1 (pc' := 30) (L' := [(0, .ref 102), (1, ii verb), (2, ii (hd : Int)), (3, ii (hd2 : Int)), (4, ii place)]) (S' := [ii verb]) dm_X12_dyad_29 rfl rfl rfl rfl ?_
    have hsp : s_two verb 6 v w = d_wo 7 v w := by unfold s_two; rw [if_neg (by omega), if_neg (by omega), if_neg (by omega), if_neg (by omega), if_neg (by omega), if_neg (by omega), if_neg (by omega), if_pos (by omega)]
    refine y_sw (a := verb) (35) (t := 153) (i := .lookupswitch 258 #[(35, 123), (36, 213), (44, 108), (46, 243), (63, 183), (64, 198), (94, 228), (95, 167), (126, 82)]) (len := 82) dm_X12_dyad_30 rfl rfl rfl (by omega) (by decide) (fun hb1 => ?_) (fun hb1 => ?_)
    · exfalso; omega
    refine y_sw (a := verb) (36) (t := 243) (i := .lookupswitch 258 #[(35, 123), (36, 213), (44, 108), (46, 243), (63, 183), (64, 198), (94, 228), (95, 167), (126, 82)]) (len := 82) dm_X12_dyad_30 rfl rfl rfl (by omega) (by decide) (fun hb2 => ?_) (fun hb2 => ?_)
    · exfalso; omega
    refine y_sw (a := verb) (44) (t := 138) (i := .lookupswitch 258 #[(35, 123), (36, 213), (44, 108), (46, 243), (63, 183), (64, 198), (94, 228), (95, 167), (126, 82)]) (len := 82) dm_X12_dyad_30 rfl rfl rfl (by omega) (by decide) (fun hb3 => ?_) (fun hb3 => ?_)
    · exfalso; omega
    refine y_sw (a := verb) (46) (t := 273) (i := .lookupswitch 258 #[(35, 123), (36, 213), (44, 108), (46, 243), (63, 183), (64, 198), (94, 228), (95, 167), (126, 82)]) (len := 82) dm_X12_dyad_30 rfl rfl rfl (by omega) (by decide) (fun hb4 => ?_) (fun hb4 => ?_)
    · exfalso; omega
    refine y_sw (a := verb) (63) (t := 213) (i := .lookupswitch 258 #[(35, 123), (36, 213), (44, 108), (46, 243), (63, 183), (64, 198), (94, 228), (95, 167), (126, 82)]) (len := 82) dm_X12_dyad_30 rfl rfl rfl (by omega) (by decide) (fun hb5 => ?_) (fun hb5 => ?_)
    · exfalso; omega
    refine y_sw (a := verb) (64) (t := 228) (i := .lookupswitch 258 #[(35, 123), (36, 213), (44, 108), (46, 243), (63, 183), (64, 198), (94, 228), (95, 167), (126, 82)]) (len := 82) dm_X12_dyad_30 rfl rfl rfl (by omega) (by decide) (fun hb6 => ?_) (fun hb6 => ?_)
    · exfalso; omega
    refine y_sw (a := verb) (94) (t := 258) (i := .lookupswitch 258 #[(35, 123), (36, 213), (44, 108), (46, 243), (63, 183), (64, 198), (94, 228), (95, 167), (126, 82)]) (len := 82) dm_X12_dyad_30 rfl rfl rfl (by omega) (by decide) (fun hb7 => ?_) (fun hb7 => ?_)
    · refine me1 (pc' := 259) (L' := [(0, .ref 102), (1, ii verb), (2, ii (hd : Int)), (3, ii (hd2 : Int)), (4, ii place)]) (S' := [.ref 102]) dm_X12_dyad_258 rfl rfl rfl rfl ?_
      refine me1 (pc' := 260) (L' := [(0, .ref 102), (1, ii verb), (2, ii (hd : Int)), (3, ii (hd2 : Int)), (4, ii place)]) (S' := [.ref 102, .ref 102]) dm_X12_dyad_259 rfl rfl rfl rfl ?_
      refine me1 (pc' := 261) (L' := [(0, .ref 102), (1, ii verb), (2, ii (hd : Int)), (3, ii (hd2 : Int)), (4, ii place)]) (S' := [ii (hd : Int), .ref 102, .ref 102]) dm_X12_dyad_260 rfl rfl rfl rfl ?_
      refine me1 (pc' := 262) (L' := [(0, .ref 102), (1, ii verb), (2, ii (hd : Int)), (3, ii (hd2 : Int)), (4, ii place)]) (S' := [ii (hd2 : Int), ii (hd : Int), .ref 102, .ref 102]) dm_X12_dyad_261 rfl rfl rfl rfl ?_
      refine me1 (pc' := 264) (L' := [(0, .ref 102), (1, ii verb), (2, ii (hd : Int)), (3, ii (hd2 : Int)), (4, ii place)]) (S' := [ii place, ii (hd2 : Int), ii (hd : Int), .ref 102, .ref 102]) dm_X12_dyad_262 rfl rfl rfl rfl ?_
      refine x_cv (pc' := 267) (rest := [.ref 102]) dm_X12_dyad_264 rfl (q_inv (As := [ii (hd : Int), ii (hd2 : Int), ii place]) (S := [.ref 102]) hm rfl rfl rfl) rfl rfl rfl (r_without_ (e := 6) (q := q) (b := b) (s := s2) (place := place) hm (by omega) hBs hvs hh3 hws hh4 hqS hbS hq3 (by omega) heS hcaS (by omega)) ?_
      rintro x1 g1 hres
      have hG : rG pre post s2 8 (d_wo 7 v w) place (rcb (d_wo 7 v w) 144) (rvb (d_wo 7 v w) 1) x1 g1 := rG_up (rG_r hres)
      obtain ⟨z1, rfl⟩ := rG_ii hG
      obtain ⟨t1, rfl⟩ := rG_st hG
      refine me1 (pc' := 269) (L' := [(0, .ref 102), (1, ii verb), (2, ii (hd : Int)), (3, ii (hd2 : Int)), (4, ii place)]) (S' := [ii place, ii z1, .ref 102]) dm_X12_dyad_267 rfl rfl rfl rfl ?_
      refine x_cv (pc' := 272) (rest := []) dm_X12_dyad_269 rfl (q_inv (As := [ii z1, ii place]) (S := []) hm rfl rfl rfl) rfl rfl rfl (r_mdo1 (s := s) (s2 := s2) (W2 := W - (3 + vS v + vS w)) (cost := (3 + vS v + vS w)) (cb := 144) (o := d_wo 7 v w) (c := 9) (nd := nd) hm (by omega) hT hB0 hG hca (by omega) hnd (fun n hn => hrs.1 n (hsp.trans hn)) (fun r hr => hrs.2 r (hsp.trans hr)) (by omega) (by omega) (by omega)) ?_
      rintro x9 g9 hfin
      obtain ⟨z9, rfl⟩ := dres_ii hfin
      obtain ⟨t9, rfl⟩ := dres_st hfin
      refine y_ret (r := some (ii z9)) dm_X12_dyad_272 rfl rfl rfl ?_
      have e9 : dTwo (cpS s) W verb v w place = dMo (cpS s) (W - (3 + vS v + vS w)) 0 (d_wo 7 v w) place := by unfold dTwo; rw [dAc_mo (by omega), hsp]
      rw [hww] at hfin
      rw [e9]
      exact ⟨_, rfl, hfin⟩
    refine y_sw (a := verb) (95) (t := 197) (i := .lookupswitch 258 #[(35, 123), (36, 213), (44, 108), (46, 243), (63, 183), (64, 198), (94, 228), (95, 167), (126, 82)]) (len := 82) dm_X12_dyad_30 rfl rfl rfl (by omega) (by decide) (fun hb8 => ?_) (fun hb8 => ?_)
    · exfalso; omega
    refine y_sw (a := verb) (126) (t := 112) (i := .lookupswitch 258 #[(35, 123), (36, 213), (44, 108), (46, 243), (63, 183), (64, 198), (94, 228), (95, 167), (126, 82)]) (len := 82) dm_X12_dyad_30 rfl rfl rfl (by omega) (by decide) (fun hb9 => ?_) (fun hb9 => ?_)
    · exfalso; omega
    exfalso; omega
theorem dm_X12_dyad_273 : mj_dec prog_14_method_48_code 273 = some (.aload_n 0, 1) := by decide +kernel
theorem dm_X12_dyad_274 : mj_dec prog_14_method_48_code 274 = some (.aload_n 0, 1) := by decide +kernel
theorem dm_X12_dyad_275 : mj_dec prog_14_method_48_code 275 = some (.iload_n 2, 1) := by decide +kernel
theorem dm_X12_dyad_276 : mj_dec prog_14_method_48_code 276 = some (.iload_n 3, 1) := by decide +kernel
theorem dm_X12_dyad_277 : mj_dec prog_14_method_48_code 277 = some (.iload 4, 2) := by decide +kernel
theorem dm_X12_dyad_279 : mj_dec prog_14_method_48_code 279 = some (.invokevirtual 326, 3) := by decide +kernel
theorem dm_X12_dyad_282 : mj_dec prog_14_method_48_code 282 = some (.iload 4, 2) := by decide +kernel
theorem dm_X12_dyad_284 : mj_dec prog_14_method_48_code 284 = some (.invokevirtual 208, 3) := by decide +kernel
theorem dm_X12_dyad_287 : mj_dec prog_14_method_48_code 287 = some (.ireturn, 1) := by decide +kernel
theorem r_dy46 {xt : mj_X} {d hd hd2 q b base W : Nat} {pre post : mj_H} {s : RS} {v w : VV} {place nd verb : Int} (hm : pre.length = 102) (hd1 : 60 ≤ d) (hRS : RST2) (hB : rB s) (hv : rv s 7 hd v) (hh3 : 3 ≤ hd) (hw : rv s 7 hd2 w) (hh4 : 3 ≤ hd2) (hz1 : vsz 7 v ≤ 1000) (hz2 : vlv 7 v ≤ 5) (hz3 : vsz 7 w ≤ 1000) (hz4 : vlv 7 w ≤ 5) (hq : s.1 4 = (q : Int)) (hb : s.1 3 = (b : Int)) (hq3 : 3 ≤ q) (hV2 : q + 2100 < 310000) (he0 : s.1 5 = 0) (hca : 0 ≤ s.1 10 ∧ s.1 10 ≤ 100) (hC : b + 291000 ≤ 820000) (hw13 : s.1 13 = (base : Int)) (hbs : base ≤ 7900) (h8 : s.1 8 = (W : Int)) (hW5 : W ≤ 500000) (hnd : 0 ≤ nd) (hvb : verb = 46) : pgV xt d 255 [.ref 102, ii verb, ii (hd : Int), ii (hd2 : Int), ii place] (rS pre post s) (dres pre post s W 9 nd (dTwo (cpS s) W verb v w place)) := by
  have hB0 := hB
  obtain ⟨hB1, hB2, hB3, hB4⟩ := hB
  obtain ⟨fr, hfr, hsh, hlt, hcl, hvk, hvm, hvc, hvq, hvcl⟩ := rv_val hv
  obtain ⟨fw, hfw, hshw, hltw, hclw, hwk, hwm, hwc, hwq, hwcl⟩ := rv_val hw
  have hvb2 : -2147483648 ≤ verb ∧ verb ≤ 2147483647 := by omega
  refine x_enter pm_X12_dyad (L0 := [(0, .ref 102), (1, ii verb), (2, ii (hd : Int)), (3, ii (hd2 : Int)), (4, ii place)]) rfl (Nat.le_of_ble_eq_true rfl) (by omega) ?_
  refine me1 (pc' := 1) (L' := [(0, .ref 102), (1, ii verb), (2, ii (hd : Int)), (3, ii (hd2 : Int)), (4, ii place)]) (S' := [.ref 102]) dm_X12_dyad_0 rfl rfl rfl rfl ?_
  refine me0 (pc' := 2) (S' := [ii 3, .ref 102]) dm_X12_dyad_1 rfl rfl rfl rfl ?_
  refine me1 (pc' := 3) (L' := [(0, .ref 102), (1, ii verb), (2, ii (hd : Int)), (3, ii (hd2 : Int)), (4, ii place)]) (S' := [.ref 102, ii 3, .ref 102]) dm_X12_dyad_2 rfl rfl rfl rfl ?_
  refine me1 (pc' := 4) (L' := [(0, .ref 102), (1, ii verb), (2, ii (hd : Int)), (3, ii (hd2 : Int)), (4, ii place)]) (S' := [ii (hd : Int), .ref 102, ii 3, .ref 102]) dm_X12_dyad_3 rfl rfl rfl rfl ?_
  refine x_cp (pc' := 7) (v := ii (vsz 7 v : Int)) (rest := [ii 3, .ref 102]) dm_X12_dyad_4 rfl (q_inv (As := [ii (hd : Int)]) (S := [ii 3, .ref 102]) hm rfl rfl rfl) rfl rfl rfl (r_sizeOf_ hm hB0 7 (by omega) hv) ?_
  refine y_iadd (a := 3) (b := (vsz 7 v : Int)) dm_X12_dyad_7 (pc' := 8) rfl ?_
  refine me1 (pc' := 9) (L' := [(0, .ref 102), (1, ii verb), (2, ii (hd : Int)), (3, ii (hd2 : Int)), (4, ii place)]) (S' := [.ref 102, ii (3 + (vsz 7 v : Int)), .ref 102]) dm_X12_dyad_8 rfl rfl rfl rfl ?_
  refine me1 (pc' := 10) (L' := [(0, .ref 102), (1, ii verb), (2, ii (hd : Int)), (3, ii (hd2 : Int)), (4, ii place)]) (S' := [ii (hd2 : Int), .ref 102, ii (3 + (vsz 7 v : Int)), .ref 102]) dm_X12_dyad_9 rfl rfl rfl rfl ?_
  refine x_cp (pc' := 13) (v := ii (vsz 7 w : Int)) (rest := [ii (3 + (vsz 7 v : Int)), .ref 102]) dm_X12_dyad_10 rfl (q_inv (As := [ii (hd2 : Int)]) (S := [ii (3 + (vsz 7 v : Int)), .ref 102]) hm rfl rfl rfl) rfl rfl rfl (r_sizeOf_ hm hB0 7 (by omega) hw) ?_
  refine y_iadd (a := 3 + (vsz 7 v : Int)) (b := (vsz 7 w : Int)) dm_X12_dyad_13 (pc' := 14) rfl ?_
  refine pg_st (S' := [ii ((3 + vS v + vS w : Nat) : Int), .ref 102]) (congrArg (fun z => ii z :: [.ref 102]) (show (3 + (vsz 7 v : Int)) + (vsz 7 w : Int) = ((3 + vS v + vS w : Nat) : Int) by show _ = ((3 + vsz 7 v + vsz 7 w : Nat) : Int); omega)) ?_
  have hvS : vS v = vsz 7 v := rfl
  have hwS9 : vS w = vsz 7 w := rfl
  have hg1 : 1 ≤ vsz 7 v := vsz_ge1 (d := 6)
  have hg2 : 1 ≤ vsz 7 w := vsz_ge1 (d := 6)
  by_cases hW : W < (3 + vS v + vS w)
  · refine me1 (pc' := 16) (L' := [(0, .ref 102), (1, ii verb), (2, ii (hd : Int)), (3, ii (hd2 : Int)), (4, ii place)]) (S' := [ii place, ii ((3 + vS v + vS w : Nat) : Int), .ref 102]) dm_X12_dyad_14 rfl rfl rfl rfl ?_
    refine x_cv (pc' := 19) (rest := []) dm_X12_dyad_16 rfl (q_inv (As := [ii ((3 + vS v + vS w : Nat) : Int), ii place]) (S := []) hm rfl rfl rfl) rfl rfl rfl ((by have z := r_takes_ (xt := xt) (d := d - 1) (pre := pre) (post := post) (s := s) (n := ((3 + vS v + vS w : Nat) : Int)) (place := place) hm (by omega) he0 hca.1 hca.2 (by omega) (by omega) (by omega); rw [tkS_f (by omega), decide_eq_false (by omega)] at z; exact z)) ?_
    rintro _ _ ⟨rfl, rfl⟩
    refine me_1f (pc' := 22) dm_X12_dyad_19 rfl (by decide) rfl ?_
    refine me0 (pc' := 23) (S' := [ii (-1)]) dm_X12_dyad_22 rfl rfl rfl rfl ?_
    refine y_ret (r := some (ii (-1))) dm_X12_dyad_23 rfl rfl rfl ?_
    refine ⟨_, rfl, ?_⟩
    rw [show dTwo (cpS s) W verb v w place = dEr (cpS s) W 10 place from dAc_no hW]
    exact tk_no (n := 0) he0 h8 hnd
  · refine me1 (pc' := 16) (L' := [(0, .ref 102), (1, ii verb), (2, ii (hd : Int)), (3, ii (hd2 : Int)), (4, ii place)]) (S' := [ii place, ii ((3 + vS v + vS w : Nat) : Int), .ref 102]) dm_X12_dyad_14 rfl rfl rfl rfl ?_
    refine x_cv (pc' := 19) (rest := []) dm_X12_dyad_16 rfl (q_inv (As := [ii ((3 + vS v + vS w : Nat) : Int), ii place]) (S := []) hm rfl rfl rfl) rfl rfl rfl ((by have z := r_takes_ (xt := xt) (d := d - 1) (pre := pre) (post := post) (s := s) (n := ((3 + vS v + vS w : Nat) : Int)) (place := place) hm (by omega) he0 hca.1 hca.2 (by omega) (by omega) (by omega); rw [tkS_t (by omega), decide_eq_true (by omega)] at z; exact z)) ?_
    rintro _ _ ⟨rfl, rfl⟩
    refine me_1t (pc' := 24) dm_X12_dyad_19 rfl (by decide) ?_
    refine me1 (pc' := 25) (L' := [(0, .ref 102), (1, ii verb), (2, ii (hd : Int)), (3, ii (hd2 : Int)), (4, ii place)]) (S' := [.ref 102]) dm_X12_dyad_24 rfl rfl rfl rfl ?_
    refine me0 (pc' := 26) (S' := [ii 0, .ref 102]) dm_X12_dyad_25 rfl rfl rfl rfl ?_
    refine me3 (pc' := 29) (S' := []) (h1 := rI pre post (va_up ((takeS s ((3 + vS v + vS w : Nat) : Int)).1) 9 0) ((takeS s ((3 + vS v + vS w : Nat) : Int)).2.1) ((takeS s ((3 + vS v + vS w : Nat) : Int)).2.2.1) ((takeS s ((3 + vS v + vS w : Nat) : Int)).2.2.2)) dm_X12_dyad_26 (q_puti hm rfl rfl (fun m i l v => rf_9 m i l v)) rfl rfl rfl ?_
    obtain ⟨s2, hs2⟩ : ∃ s2 : RS, s2 = (va_up (takeS s ((3 + vS v + vS w : Nat) : Int)).1 9 0, (takeS s ((3 + vS v + vS w : Nat) : Int)).2.1, (takeS s ((3 + vS v + vS w : Nat) : Int)).2.2.1, (takeS s ((3 + vS v + vS w : Nat) : Int)).2.2.2) := ⟨_, rfl⟩
    have hT := tk_tkd (W := W) hs2 he0 h8 (by omega)
    have hqS : s2.1 4 = (q : Int) := hT.2.2.2.1.trans hq
    have hbS : s2.1 3 = (b : Int) := hT.2.2.1.trans hb
    have heS : s2.1 5 = 0 := hT.2.2.2.2.1
    have hwS : s2.1 13 = (base : Int) := hT.2.2.2.2.2.2.1.trans hw13
    have hcaS : 0 ≤ s2.1 10 ∧ s2.1 10 ≤ 100 := by rw [hT.2.1.1 10 (by decide) (by decide) (by decide) (by decide) (by decide) (by decide) (by decide) (by decide) (by decide) (by decide)]; exact hca
    have hBs : rB s2 := ⟨by omega, by omega, by omega, by omega⟩
    have hvs := rv_ext hT.1 hh3 hv
    have hws := rv_ext hT.1 hh4 hw
    have hrs := hRS verb v w (rv_wf hv) (rv_wf hw) hz1 hz3 hz2 hz4
    have hww : W - (3 + vS v + vS w) + (3 + vS v + vS w) = W := by omega
    refine pg_cast (h2 := rI pre post s2.1 s2.2.1 s2.2.2.1 s2.2.2.2) (by rw [hs2]) ?_
    refine me1 (pc' := 30) (L' := [(0, .ref 102), (1, ii verb), (2, ii (hd : Int)), (3, ii (hd2 : Int)), (4, ii place)]) (S' := [ii verb]) dm_X12_dyad_29 rfl rfl rfl rfl ?_
    have hsp : s_two verb 6 v w = d_inner v w := by unfold s_two; rw [if_neg (by omega), if_neg (by omega), if_neg (by omega), if_neg (by omega), if_neg (by omega), if_neg (by omega), if_neg (by omega), if_neg (by omega), if_pos (by omega)]
    refine y_sw (a := verb) (35) (t := 153) (i := .lookupswitch 258 #[(35, 123), (36, 213), (44, 108), (46, 243), (63, 183), (64, 198), (94, 228), (95, 167), (126, 82)]) (len := 82) dm_X12_dyad_30 rfl rfl rfl (by omega) (by decide) (fun hb1 => ?_) (fun hb1 => ?_)
    · exfalso; omega
    refine y_sw (a := verb) (36) (t := 243) (i := .lookupswitch 258 #[(35, 123), (36, 213), (44, 108), (46, 243), (63, 183), (64, 198), (94, 228), (95, 167), (126, 82)]) (len := 82) dm_X12_dyad_30 rfl rfl rfl (by omega) (by decide) (fun hb2 => ?_) (fun hb2 => ?_)
    · exfalso; omega
    refine y_sw (a := verb) (44) (t := 138) (i := .lookupswitch 258 #[(35, 123), (36, 213), (44, 108), (46, 243), (63, 183), (64, 198), (94, 228), (95, 167), (126, 82)]) (len := 82) dm_X12_dyad_30 rfl rfl rfl (by omega) (by decide) (fun hb3 => ?_) (fun hb3 => ?_)
    · exfalso; omega
    refine y_sw (a := verb) (46) (t := 273) (i := .lookupswitch 258 #[(35, 123), (36, 213), (44, 108), (46, 243), (63, 183), (64, 198), (94, 228), (95, 167), (126, 82)]) (len := 82) dm_X12_dyad_30 rfl rfl rfl (by omega) (by decide) (fun hb4 => ?_) (fun hb4 => ?_)
    · refine me1 (pc' := 274) (L' := [(0, .ref 102), (1, ii verb), (2, ii (hd : Int)), (3, ii (hd2 : Int)), (4, ii place)]) (S' := [.ref 102]) dm_X12_dyad_273 rfl rfl rfl rfl ?_
      refine me1 (pc' := 275) (L' := [(0, .ref 102), (1, ii verb), (2, ii (hd : Int)), (3, ii (hd2 : Int)), (4, ii place)]) (S' := [.ref 102, .ref 102]) dm_X12_dyad_274 rfl rfl rfl rfl ?_
      refine me1 (pc' := 276) (L' := [(0, .ref 102), (1, ii verb), (2, ii (hd : Int)), (3, ii (hd2 : Int)), (4, ii place)]) (S' := [ii (hd : Int), .ref 102, .ref 102]) dm_X12_dyad_275 rfl rfl rfl rfl ?_
      refine me1 (pc' := 277) (L' := [(0, .ref 102), (1, ii verb), (2, ii (hd : Int)), (3, ii (hd2 : Int)), (4, ii place)]) (S' := [ii (hd2 : Int), ii (hd : Int), .ref 102, .ref 102]) dm_X12_dyad_276 rfl rfl rfl rfl ?_
      refine me1 (pc' := 279) (L' := [(0, .ref 102), (1, ii verb), (2, ii (hd : Int)), (3, ii (hd2 : Int)), (4, ii place)]) (S' := [ii place, ii (hd2 : Int), ii (hd : Int), .ref 102, .ref 102]) dm_X12_dyad_277 rfl rfl rfl rfl ?_
      refine x_cv (pc' := 282) (rest := [.ref 102]) dm_X12_dyad_279 rfl (q_inv (As := [ii (hd : Int), ii (hd2 : Int), ii place]) (S := [.ref 102]) hm rfl rfl rfl) rfl rfl rfl (r_inner_ (e := 6) (q := q) (b := b) (s := s2) (place := place) hm (by omega) hBs hvs hh3 hws hh4 hqS hbS hq3 (by omega) heS hcaS (by omega)) ?_
      rintro x1 g1 hres
      have hG : rG pre post s2 8 (d_inner v w) place (rcb (d_inner v w) 144) (rvb (d_inner v w) 1) x1 g1 := rG_up (rG_E hres)
      obtain ⟨z1, rfl⟩ := rG_ii hG
      obtain ⟨t1, rfl⟩ := rG_st hG
      refine me1 (pc' := 284) (L' := [(0, .ref 102), (1, ii verb), (2, ii (hd : Int)), (3, ii (hd2 : Int)), (4, ii place)]) (S' := [ii place, ii z1, .ref 102]) dm_X12_dyad_282 rfl rfl rfl rfl ?_
      refine x_cv (pc' := 287) (rest := []) dm_X12_dyad_284 rfl (q_inv (As := [ii z1, ii place]) (S := []) hm rfl rfl rfl) rfl rfl rfl (r_mdo1 (s := s) (s2 := s2) (W2 := W - (3 + vS v + vS w)) (cost := (3 + vS v + vS w)) (cb := 144) (o := d_inner v w) (c := 9) (nd := nd) hm (by omega) hT hB0 hG hca (by omega) hnd (fun n hn => hrs.1 n (hsp.trans hn)) (fun r hr => hrs.2 r (hsp.trans hr)) (by omega) (by omega) (by omega)) ?_
      rintro x9 g9 hfin
      obtain ⟨z9, rfl⟩ := dres_ii hfin
      obtain ⟨t9, rfl⟩ := dres_st hfin
      refine y_ret (r := some (ii z9)) dm_X12_dyad_287 rfl rfl rfl ?_
      have e9 : dTwo (cpS s) W verb v w place = dMo (cpS s) (W - (3 + vS v + vS w)) 0 (d_inner v w) place := by unfold dTwo; rw [dAc_mo (by omega), hsp]
      rw [hww] at hfin
      rw [e9]
      exact ⟨_, rfl, hfin⟩
    refine y_sw (a := verb) (63) (t := 213) (i := .lookupswitch 258 #[(35, 123), (36, 213), (44, 108), (46, 243), (63, 183), (64, 198), (94, 228), (95, 167), (126, 82)]) (len := 82) dm_X12_dyad_30 rfl rfl rfl (by omega) (by decide) (fun hb5 => ?_) (fun hb5 => ?_)
    · exfalso; omega
    refine y_sw (a := verb) (64) (t := 228) (i := .lookupswitch 258 #[(35, 123), (36, 213), (44, 108), (46, 243), (63, 183), (64, 198), (94, 228), (95, 167), (126, 82)]) (len := 82) dm_X12_dyad_30 rfl rfl rfl (by omega) (by decide) (fun hb6 => ?_) (fun hb6 => ?_)
    · exfalso; omega
    refine y_sw (a := verb) (94) (t := 258) (i := .lookupswitch 258 #[(35, 123), (36, 213), (44, 108), (46, 243), (63, 183), (64, 198), (94, 228), (95, 167), (126, 82)]) (len := 82) dm_X12_dyad_30 rfl rfl rfl (by omega) (by decide) (fun hb7 => ?_) (fun hb7 => ?_)
    · exfalso; omega
    refine y_sw (a := verb) (95) (t := 197) (i := .lookupswitch 258 #[(35, 123), (36, 213), (44, 108), (46, 243), (63, 183), (64, 198), (94, 228), (95, 167), (126, 82)]) (len := 82) dm_X12_dyad_30 rfl rfl rfl (by omega) (by decide) (fun hb8 => ?_) (fun hb8 => ?_)
    · exfalso; omega
    refine y_sw (a := verb) (126) (t := 112) (i := .lookupswitch 258 #[(35, 123), (36, 213), (44, 108), (46, 243), (63, 183), (64, 198), (94, 228), (95, 167), (126, 82)]) (len := 82) dm_X12_dyad_30 rfl rfl rfl (by omega) (by decide) (fun hb9 => ?_) (fun hb9 => ?_)
    · exfalso; omega
    exfalso; omega
theorem dm_X12_dyad_197 : mj_dec prog_14_method_48_code 197 = some (.aload_n 0, 1) := by decide +kernel
theorem dm_X12_dyad_198 : mj_dec prog_14_method_48_code 198 = some (.aload_n 0, 1) := by decide +kernel
theorem dm_X12_dyad_199 : mj_dec prog_14_method_48_code 199 = some (.iload_n 2, 1) := by decide +kernel
theorem dm_X12_dyad_200 : mj_dec prog_14_method_48_code 200 = some (.iload_n 3, 1) := by decide +kernel
theorem dm_X12_dyad_201 : mj_dec prog_14_method_48_code 201 = some (.iconst 0, 1) := by decide +kernel
theorem dm_X12_dyad_202 : mj_dec prog_14_method_48_code 202 = some (.iload 4, 2) := by decide +kernel
theorem dm_X12_dyad_204 : mj_dec prog_14_method_48_code 204 = some (.invokevirtual 307, 3) := by decide +kernel
theorem dm_X12_dyad_207 : mj_dec prog_14_method_48_code 207 = some (.iload 4, 2) := by decide +kernel
theorem dm_X12_dyad_209 : mj_dec prog_14_method_48_code 209 = some (.invokevirtual 208, 3) := by decide +kernel
theorem dm_X12_dyad_212 : mj_dec prog_14_method_48_code 212 = some (.ireturn, 1) := by decide +kernel
theorem r_dy95 {xt : mj_X} {d hd hd2 q b base W : Nat} {pre post : mj_H} {s : RS} {v w : VV} {place nd verb : Int} (hm : pre.length = 102) (hd1 : 60 ≤ d) (hRS : RST2) (hB : rB s) (hv : rv s 7 hd v) (hh3 : 3 ≤ hd) (hw : rv s 7 hd2 w) (hh4 : 3 ≤ hd2) (hz1 : vsz 7 v ≤ 1000) (hz2 : vlv 7 v ≤ 5) (hz3 : vsz 7 w ≤ 1000) (hz4 : vlv 7 w ≤ 5) (hq : s.1 4 = (q : Int)) (hb : s.1 3 = (b : Int)) (hq3 : 3 ≤ q) (hV2 : q + 2100 < 310000) (he0 : s.1 5 = 0) (hca : 0 ≤ s.1 10 ∧ s.1 10 ≤ 100) (hC : b + 291000 ≤ 820000) (hw13 : s.1 13 = (base : Int)) (hbs : base ≤ 7900) (h8 : s.1 8 = (W : Int)) (hW5 : W ≤ 500000) (hnd : 0 ≤ nd) (hvb : verb = 95) : pgV xt d 255 [.ref 102, ii verb, ii (hd : Int), ii (hd2 : Int), ii place] (rS pre post s) (dres pre post s W 9 nd (dTwo (cpS s) W verb v w place)) := by
  have hB0 := hB
  obtain ⟨hB1, hB2, hB3, hB4⟩ := hB
  obtain ⟨fr, hfr, hsh, hlt, hcl, hvk, hvm, hvc, hvq, hvcl⟩ := rv_val hv
  obtain ⟨fw, hfw, hshw, hltw, hclw, hwk, hwm, hwc, hwq, hwcl⟩ := rv_val hw
  have hvb2 : -2147483648 ≤ verb ∧ verb ≤ 2147483647 := by omega
  refine x_enter pm_X12_dyad (L0 := [(0, .ref 102), (1, ii verb), (2, ii (hd : Int)), (3, ii (hd2 : Int)), (4, ii place)]) rfl (Nat.le_of_ble_eq_true rfl) (by omega) ?_
  refine me1 (pc' := 1) (L' := [(0, .ref 102), (1, ii verb), (2, ii (hd : Int)), (3, ii (hd2 : Int)), (4, ii place)]) (S' := [.ref 102]) dm_X12_dyad_0 rfl rfl rfl rfl ?_
  refine me0 (pc' := 2) (S' := [ii 3, .ref 102]) dm_X12_dyad_1 rfl rfl rfl rfl ?_
  refine me1 (pc' := 3) (L' := [(0, .ref 102), (1, ii verb), (2, ii (hd : Int)), (3, ii (hd2 : Int)), (4, ii place)]) (S' := [.ref 102, ii 3, .ref 102]) dm_X12_dyad_2 rfl rfl rfl rfl ?_
  refine me1 (pc' := 4) (L' := [(0, .ref 102), (1, ii verb), (2, ii (hd : Int)), (3, ii (hd2 : Int)), (4, ii place)]) (S' := [ii (hd : Int), .ref 102, ii 3, .ref 102]) dm_X12_dyad_3 rfl rfl rfl rfl ?_
  refine x_cp (pc' := 7) (v := ii (vsz 7 v : Int)) (rest := [ii 3, .ref 102]) dm_X12_dyad_4 rfl (q_inv (As := [ii (hd : Int)]) (S := [ii 3, .ref 102]) hm rfl rfl rfl) rfl rfl rfl (r_sizeOf_ hm hB0 7 (by omega) hv) ?_
  refine y_iadd (a := 3) (b := (vsz 7 v : Int)) dm_X12_dyad_7 (pc' := 8) rfl ?_
  refine me1 (pc' := 9) (L' := [(0, .ref 102), (1, ii verb), (2, ii (hd : Int)), (3, ii (hd2 : Int)), (4, ii place)]) (S' := [.ref 102, ii (3 + (vsz 7 v : Int)), .ref 102]) dm_X12_dyad_8 rfl rfl rfl rfl ?_
  refine me1 (pc' := 10) (L' := [(0, .ref 102), (1, ii verb), (2, ii (hd : Int)), (3, ii (hd2 : Int)), (4, ii place)]) (S' := [ii (hd2 : Int), .ref 102, ii (3 + (vsz 7 v : Int)), .ref 102]) dm_X12_dyad_9 rfl rfl rfl rfl ?_
  refine x_cp (pc' := 13) (v := ii (vsz 7 w : Int)) (rest := [ii (3 + (vsz 7 v : Int)), .ref 102]) dm_X12_dyad_10 rfl (q_inv (As := [ii (hd2 : Int)]) (S := [ii (3 + (vsz 7 v : Int)), .ref 102]) hm rfl rfl rfl) rfl rfl rfl (r_sizeOf_ hm hB0 7 (by omega) hw) ?_
  refine y_iadd (a := 3 + (vsz 7 v : Int)) (b := (vsz 7 w : Int)) dm_X12_dyad_13 (pc' := 14) rfl ?_
  refine pg_st (S' := [ii ((3 + vS v + vS w : Nat) : Int), .ref 102]) (congrArg (fun z => ii z :: [.ref 102]) (show (3 + (vsz 7 v : Int)) + (vsz 7 w : Int) = ((3 + vS v + vS w : Nat) : Int) by show _ = ((3 + vsz 7 v + vsz 7 w : Nat) : Int); omega)) ?_
  have hvS : vS v = vsz 7 v := rfl
  have hwS9 : vS w = vsz 7 w := rfl
  have hg1 : 1 ≤ vsz 7 v := vsz_ge1 (d := 6)
  have hg2 : 1 ≤ vsz 7 w := vsz_ge1 (d := 6)
  by_cases hW : W < (3 + vS v + vS w)
  · refine me1 (pc' := 16) (L' := [(0, .ref 102), (1, ii verb), (2, ii (hd : Int)), (3, ii (hd2 : Int)), (4, ii place)]) (S' := [ii place, ii ((3 + vS v + vS w : Nat) : Int), .ref 102]) dm_X12_dyad_14 rfl rfl rfl rfl ?_
    refine x_cv (pc' := 19) (rest := []) dm_X12_dyad_16 rfl (q_inv (As := [ii ((3 + vS v + vS w : Nat) : Int), ii place]) (S := []) hm rfl rfl rfl) rfl rfl rfl ((by have z := r_takes_ (xt := xt) (d := d - 1) (pre := pre) (post := post) (s := s) (n := ((3 + vS v + vS w : Nat) : Int)) (place := place) hm (by omega) he0 hca.1 hca.2 (by omega) (by omega) (by omega); rw [tkS_f (by omega), decide_eq_false (by omega)] at z; exact z)) ?_
    rintro _ _ ⟨rfl, rfl⟩
    refine me_1f (pc' := 22) dm_X12_dyad_19 rfl (by decide) rfl ?_
    refine me0 (pc' := 23) (S' := [ii (-1)]) dm_X12_dyad_22 rfl rfl rfl rfl ?_
    refine y_ret (r := some (ii (-1))) dm_X12_dyad_23 rfl rfl rfl ?_
    refine ⟨_, rfl, ?_⟩
    rw [show dTwo (cpS s) W verb v w place = dEr (cpS s) W 10 place from dAc_no hW]
    exact tk_no (n := 0) he0 h8 hnd
  · refine me1 (pc' := 16) (L' := [(0, .ref 102), (1, ii verb), (2, ii (hd : Int)), (3, ii (hd2 : Int)), (4, ii place)]) (S' := [ii place, ii ((3 + vS v + vS w : Nat) : Int), .ref 102]) dm_X12_dyad_14 rfl rfl rfl rfl ?_
    refine x_cv (pc' := 19) (rest := []) dm_X12_dyad_16 rfl (q_inv (As := [ii ((3 + vS v + vS w : Nat) : Int), ii place]) (S := []) hm rfl rfl rfl) rfl rfl rfl ((by have z := r_takes_ (xt := xt) (d := d - 1) (pre := pre) (post := post) (s := s) (n := ((3 + vS v + vS w : Nat) : Int)) (place := place) hm (by omega) he0 hca.1 hca.2 (by omega) (by omega) (by omega); rw [tkS_t (by omega), decide_eq_true (by omega)] at z; exact z)) ?_
    rintro _ _ ⟨rfl, rfl⟩
    refine me_1t (pc' := 24) dm_X12_dyad_19 rfl (by decide) ?_
    refine me1 (pc' := 25) (L' := [(0, .ref 102), (1, ii verb), (2, ii (hd : Int)), (3, ii (hd2 : Int)), (4, ii place)]) (S' := [.ref 102]) dm_X12_dyad_24 rfl rfl rfl rfl ?_
    refine me0 (pc' := 26) (S' := [ii 0, .ref 102]) dm_X12_dyad_25 rfl rfl rfl rfl ?_
    refine me3 (pc' := 29) (S' := []) (h1 := rI pre post (va_up ((takeS s ((3 + vS v + vS w : Nat) : Int)).1) 9 0) ((takeS s ((3 + vS v + vS w : Nat) : Int)).2.1) ((takeS s ((3 + vS v + vS w : Nat) : Int)).2.2.1) ((takeS s ((3 + vS v + vS w : Nat) : Int)).2.2.2)) dm_X12_dyad_26 (q_puti hm rfl rfl (fun m i l v => rf_9 m i l v)) rfl rfl rfl ?_
    obtain ⟨s2, hs2⟩ : ∃ s2 : RS, s2 = (va_up (takeS s ((3 + vS v + vS w : Nat) : Int)).1 9 0, (takeS s ((3 + vS v + vS w : Nat) : Int)).2.1, (takeS s ((3 + vS v + vS w : Nat) : Int)).2.2.1, (takeS s ((3 + vS v + vS w : Nat) : Int)).2.2.2) := ⟨_, rfl⟩
    have hT := tk_tkd (W := W) hs2 he0 h8 (by omega)
    have hqS : s2.1 4 = (q : Int) := hT.2.2.2.1.trans hq
    have hbS : s2.1 3 = (b : Int) := hT.2.2.1.trans hb
    have heS : s2.1 5 = 0 := hT.2.2.2.2.1
    have hwS : s2.1 13 = (base : Int) := hT.2.2.2.2.2.2.1.trans hw13
    have hcaS : 0 ≤ s2.1 10 ∧ s2.1 10 ≤ 100 := by rw [hT.2.1.1 10 (by decide) (by decide) (by decide) (by decide) (by decide) (by decide) (by decide) (by decide) (by decide) (by decide)]; exact hca
    have hBs : rB s2 := ⟨by omega, by omega, by omega, by omega⟩
    have hvs := rv_ext hT.1 hh3 hv
    have hws := rv_ext hT.1 hh4 hw
    have hrs := hRS verb v w (rv_wf hv) (rv_wf hw) hz1 hz3 hz2 hz4
    have hww : W - (3 + vS v + vS w) + (3 + vS v + vS w) = W := by omega
    refine pg_cast (h2 := rI pre post s2.1 s2.2.1 s2.2.2.1 s2.2.2.2) (by rw [hs2]) ?_
    refine me1 (pc' := 30) (L' := [(0, .ref 102), (1, ii verb), (2, ii (hd : Int)), (3, ii (hd2 : Int)), (4, ii place)]) (S' := [ii verb]) dm_X12_dyad_29 rfl rfl rfl rfl ?_
    have hsp : s_two verb 6 v w = d_drop v w := by unfold s_two; rw [if_neg (by omega), if_neg (by omega), if_neg (by omega), if_pos (by omega)]
    refine y_sw (a := verb) (35) (t := 153) (i := .lookupswitch 258 #[(35, 123), (36, 213), (44, 108), (46, 243), (63, 183), (64, 198), (94, 228), (95, 167), (126, 82)]) (len := 82) dm_X12_dyad_30 rfl rfl rfl (by omega) (by decide) (fun hb1 => ?_) (fun hb1 => ?_)
    · exfalso; omega
    refine y_sw (a := verb) (36) (t := 243) (i := .lookupswitch 258 #[(35, 123), (36, 213), (44, 108), (46, 243), (63, 183), (64, 198), (94, 228), (95, 167), (126, 82)]) (len := 82) dm_X12_dyad_30 rfl rfl rfl (by omega) (by decide) (fun hb2 => ?_) (fun hb2 => ?_)
    · exfalso; omega
    refine y_sw (a := verb) (44) (t := 138) (i := .lookupswitch 258 #[(35, 123), (36, 213), (44, 108), (46, 243), (63, 183), (64, 198), (94, 228), (95, 167), (126, 82)]) (len := 82) dm_X12_dyad_30 rfl rfl rfl (by omega) (by decide) (fun hb3 => ?_) (fun hb3 => ?_)
    · exfalso; omega
    refine y_sw (a := verb) (46) (t := 273) (i := .lookupswitch 258 #[(35, 123), (36, 213), (44, 108), (46, 243), (63, 183), (64, 198), (94, 228), (95, 167), (126, 82)]) (len := 82) dm_X12_dyad_30 rfl rfl rfl (by omega) (by decide) (fun hb4 => ?_) (fun hb4 => ?_)
    · exfalso; omega
    refine y_sw (a := verb) (63) (t := 213) (i := .lookupswitch 258 #[(35, 123), (36, 213), (44, 108), (46, 243), (63, 183), (64, 198), (94, 228), (95, 167), (126, 82)]) (len := 82) dm_X12_dyad_30 rfl rfl rfl (by omega) (by decide) (fun hb5 => ?_) (fun hb5 => ?_)
    · exfalso; omega
    refine y_sw (a := verb) (64) (t := 228) (i := .lookupswitch 258 #[(35, 123), (36, 213), (44, 108), (46, 243), (63, 183), (64, 198), (94, 228), (95, 167), (126, 82)]) (len := 82) dm_X12_dyad_30 rfl rfl rfl (by omega) (by decide) (fun hb6 => ?_) (fun hb6 => ?_)
    · exfalso; omega
    refine y_sw (a := verb) (94) (t := 258) (i := .lookupswitch 258 #[(35, 123), (36, 213), (44, 108), (46, 243), (63, 183), (64, 198), (94, 228), (95, 167), (126, 82)]) (len := 82) dm_X12_dyad_30 rfl rfl rfl (by omega) (by decide) (fun hb7 => ?_) (fun hb7 => ?_)
    · exfalso; omega
    refine y_sw (a := verb) (95) (t := 197) (i := .lookupswitch 258 #[(35, 123), (36, 213), (44, 108), (46, 243), (63, 183), (64, 198), (94, 228), (95, 167), (126, 82)]) (len := 82) dm_X12_dyad_30 rfl rfl rfl (by omega) (by decide) (fun hb8 => ?_) (fun hb8 => ?_)
    · refine me1 (pc' := 198) (L' := [(0, .ref 102), (1, ii verb), (2, ii (hd : Int)), (3, ii (hd2 : Int)), (4, ii place)]) (S' := [.ref 102]) dm_X12_dyad_197 rfl rfl rfl rfl ?_
      refine me1 (pc' := 199) (L' := [(0, .ref 102), (1, ii verb), (2, ii (hd : Int)), (3, ii (hd2 : Int)), (4, ii place)]) (S' := [.ref 102, .ref 102]) dm_X12_dyad_198 rfl rfl rfl rfl ?_
      refine me1 (pc' := 200) (L' := [(0, .ref 102), (1, ii verb), (2, ii (hd : Int)), (3, ii (hd2 : Int)), (4, ii place)]) (S' := [ii (hd : Int), .ref 102, .ref 102]) dm_X12_dyad_199 rfl rfl rfl rfl ?_
      refine me1 (pc' := 201) (L' := [(0, .ref 102), (1, ii verb), (2, ii (hd : Int)), (3, ii (hd2 : Int)), (4, ii place)]) (S' := [ii (hd2 : Int), ii (hd : Int), .ref 102, .ref 102]) dm_X12_dyad_200 rfl rfl rfl rfl ?_
      refine me0 (pc' := 202) (S' := [ii 0, ii (hd2 : Int), ii (hd : Int), .ref 102, .ref 102]) dm_X12_dyad_201 rfl rfl rfl rfl ?_
      refine me1 (pc' := 204) (L' := [(0, .ref 102), (1, ii verb), (2, ii (hd : Int)), (3, ii (hd2 : Int)), (4, ii place)]) (S' := [ii place, ii 0, ii (hd2 : Int), ii (hd : Int), .ref 102, .ref 102]) dm_X12_dyad_202 rfl rfl rfl rfl ?_
      refine x_cv (pc' := 207) (rest := [.ref 102]) dm_X12_dyad_204 rfl (q_inv (As := [ii (hd : Int), ii (hd2 : Int), ii 0, ii place]) (S := [.ref 102]) hm rfl rfl rfl) rfl rfl rfl (r_someD (c := false) (e := 6) (q := q) (b := b) (s := s2) (place := place) hm (by omega) hBs hvs hh3 hws hh4 hqS hbS hq3 (by omega) heS hcaS (by omega) rfl) ?_
      rintro x1 g1 hres
      have hG : rG pre post s2 8 (d_drop v w) place (rcb (d_drop v w) 144) (rvb (d_drop v w) 1) x1 g1 := rG_up (rG_r hres)
      obtain ⟨z1, rfl⟩ := rG_ii hG
      obtain ⟨t1, rfl⟩ := rG_st hG
      refine me1 (pc' := 209) (L' := [(0, .ref 102), (1, ii verb), (2, ii (hd : Int)), (3, ii (hd2 : Int)), (4, ii place)]) (S' := [ii place, ii z1, .ref 102]) dm_X12_dyad_207 rfl rfl rfl rfl ?_
      refine x_cv (pc' := 212) (rest := []) dm_X12_dyad_209 rfl (q_inv (As := [ii z1, ii place]) (S := []) hm rfl rfl rfl) rfl rfl rfl (r_mdo1 (s := s) (s2 := s2) (W2 := W - (3 + vS v + vS w)) (cost := (3 + vS v + vS w)) (cb := 144) (o := d_drop v w) (c := 9) (nd := nd) hm (by omega) hT hB0 hG hca (by omega) hnd (fun n hn => hrs.1 n (hsp.trans hn)) (fun r hr => hrs.2 r (hsp.trans hr)) (by omega) (by omega) (by omega)) ?_
      rintro x9 g9 hfin
      obtain ⟨z9, rfl⟩ := dres_ii hfin
      obtain ⟨t9, rfl⟩ := dres_st hfin
      refine y_ret (r := some (ii z9)) dm_X12_dyad_212 rfl rfl rfl ?_
      have e9 : dTwo (cpS s) W verb v w place = dMo (cpS s) (W - (3 + vS v + vS w)) 0 (d_drop v w) place := by unfold dTwo; rw [dAc_mo (by omega), hsp]
      rw [hww] at hfin
      rw [e9]
      exact ⟨_, rfl, hfin⟩
    refine y_sw (a := verb) (126) (t := 112) (i := .lookupswitch 258 #[(35, 123), (36, 213), (44, 108), (46, 243), (63, 183), (64, 198), (94, 228), (95, 167), (126, 82)]) (len := 82) dm_X12_dyad_30 rfl rfl rfl (by omega) (by decide) (fun hb9 => ?_) (fun hb9 => ?_)
    · exfalso; omega
    exfalso; omega
theorem dm_X12_dyad_153 : mj_dec prog_14_method_48_code 153 = some (.aload_n 0, 1) := by decide +kernel
theorem dm_X12_dyad_154 : mj_dec prog_14_method_48_code 154 = some (.aload_n 0, 1) := by decide +kernel
theorem dm_X12_dyad_155 : mj_dec prog_14_method_48_code 155 = some (.iload_n 2, 1) := by decide +kernel
theorem dm_X12_dyad_156 : mj_dec prog_14_method_48_code 156 = some (.invokevirtual 146, 3) := by decide +kernel
theorem dm_X12_dyad_159 : mj_dec prog_14_method_48_code 159 = some (.ifCond .eq 12, 3) := by decide +kernel
theorem dm_X12_dyad_162 : mj_dec prog_14_method_48_code 162 = some (.aload_n 0, 1) := by decide +kernel
theorem dm_X12_dyad_163 : mj_dec prog_14_method_48_code 163 = some (.iload_n 2, 1) := by decide +kernel
theorem dm_X12_dyad_164 : mj_dec prog_14_method_48_code 164 = some (.invokevirtual 146, 3) := by decide +kernel
theorem dm_X12_dyad_167 : mj_dec prog_14_method_48_code 167 = some (.iconst 1, 1) := by decide +kernel
theorem dm_X12_dyad_168 : mj_dec prog_14_method_48_code 168 = some (.if_icmp .ne 15, 3) := by decide +kernel
theorem dm_X12_dyad_171 : mj_dec prog_14_method_48_code 171 = some (.aload_n 0, 1) := by decide +kernel
theorem dm_X12_dyad_172 : mj_dec prog_14_method_48_code 172 = some (.iload_n 2, 1) := by decide +kernel
theorem dm_X12_dyad_173 : mj_dec prog_14_method_48_code 173 = some (.iload_n 3, 1) := by decide +kernel
theorem dm_X12_dyad_174 : mj_dec prog_14_method_48_code 174 = some (.iconst 1, 1) := by decide +kernel
theorem dm_X12_dyad_175 : mj_dec prog_14_method_48_code 175 = some (.iload 4, 2) := by decide +kernel
theorem dm_X12_dyad_177 : mj_dec prog_14_method_48_code 177 = some (.invokevirtual 307, 3) := by decide +kernel
theorem dm_X12_dyad_180 : mj_dec prog_14_method_48_code 180 = some (.goto 11, 3) := by decide +kernel
theorem dm_X12_dyad_183 : mj_dec prog_14_method_48_code 183 = some (.aload_n 0, 1) := by decide +kernel
theorem dm_X12_dyad_184 : mj_dec prog_14_method_48_code 184 = some (.iload_n 2, 1) := by decide +kernel
theorem dm_X12_dyad_185 : mj_dec prog_14_method_48_code 185 = some (.iload_n 3, 1) := by decide +kernel
theorem dm_X12_dyad_186 : mj_dec prog_14_method_48_code 186 = some (.iload 4, 2) := by decide +kernel
theorem dm_X12_dyad_188 : mj_dec prog_14_method_48_code 188 = some (.invokevirtual 311, 3) := by decide +kernel
theorem dm_X12_dyad_191 : mj_dec prog_14_method_48_code 191 = some (.iload 4, 2) := by decide +kernel
theorem dm_X12_dyad_193 : mj_dec prog_14_method_48_code 193 = some (.invokevirtual 208, 3) := by decide +kernel
theorem dm_X12_dyad_196 : mj_dec prog_14_method_48_code 196 = some (.ireturn, 1) := by decide +kernel
theorem r_dy35 {xt : mj_X} {d hd hd2 q b base W : Nat} {pre post : mj_H} {s : RS} {v w : VV} {place nd verb : Int} (hm : pre.length = 102) (hd1 : 60 ≤ d) (hRS : RST2) (hB : rB s) (hv : rv s 7 hd v) (hh3 : 3 ≤ hd) (hw : rv s 7 hd2 w) (hh4 : 3 ≤ hd2) (hz1 : vsz 7 v ≤ 1000) (hz2 : vlv 7 v ≤ 5) (hz3 : vsz 7 w ≤ 1000) (hz4 : vlv 7 w ≤ 5) (hq : s.1 4 = (q : Int)) (hb : s.1 3 = (b : Int)) (hq3 : 3 ≤ q) (hV2 : q + 2100 < 310000) (he0 : s.1 5 = 0) (hca : 0 ≤ s.1 10 ∧ s.1 10 ≤ 100) (hC : b + 291000 ≤ 820000) (hw13 : s.1 13 = (base : Int)) (hbs : base ≤ 7900) (h8 : s.1 8 = (W : Int)) (hW5 : W ≤ 500000) (hnd : 0 ≤ nd) (hvb : verb = 35) : pgV xt d 255 [.ref 102, ii verb, ii (hd : Int), ii (hd2 : Int), ii place] (rS pre post s) (dres pre post s W 9 nd (dTwo (cpS s) W verb v w place)) := by
  have hB0 := hB
  obtain ⟨hB1, hB2, hB3, hB4⟩ := hB
  obtain ⟨fr, hfr, hsh, hlt, hcl, hvk, hvm, hvc, hvq, hvcl⟩ := rv_val hv
  obtain ⟨fw, hfw, hshw, hltw, hclw, hwk, hwm, hwc, hwq, hwcl⟩ := rv_val hw
  have hvb2 : -2147483648 ≤ verb ∧ verb ≤ 2147483647 := by omega
  refine x_enter pm_X12_dyad (L0 := [(0, .ref 102), (1, ii verb), (2, ii (hd : Int)), (3, ii (hd2 : Int)), (4, ii place)]) rfl (Nat.le_of_ble_eq_true rfl) (by omega) ?_
  refine me1 (pc' := 1) (L' := [(0, .ref 102), (1, ii verb), (2, ii (hd : Int)), (3, ii (hd2 : Int)), (4, ii place)]) (S' := [.ref 102]) dm_X12_dyad_0 rfl rfl rfl rfl ?_
  refine me0 (pc' := 2) (S' := [ii 3, .ref 102]) dm_X12_dyad_1 rfl rfl rfl rfl ?_
  refine me1 (pc' := 3) (L' := [(0, .ref 102), (1, ii verb), (2, ii (hd : Int)), (3, ii (hd2 : Int)), (4, ii place)]) (S' := [.ref 102, ii 3, .ref 102]) dm_X12_dyad_2 rfl rfl rfl rfl ?_
  refine me1 (pc' := 4) (L' := [(0, .ref 102), (1, ii verb), (2, ii (hd : Int)), (3, ii (hd2 : Int)), (4, ii place)]) (S' := [ii (hd : Int), .ref 102, ii 3, .ref 102]) dm_X12_dyad_3 rfl rfl rfl rfl ?_
  refine x_cp (pc' := 7) (v := ii (vsz 7 v : Int)) (rest := [ii 3, .ref 102]) dm_X12_dyad_4 rfl (q_inv (As := [ii (hd : Int)]) (S := [ii 3, .ref 102]) hm rfl rfl rfl) rfl rfl rfl (r_sizeOf_ hm hB0 7 (by omega) hv) ?_
  refine y_iadd (a := 3) (b := (vsz 7 v : Int)) dm_X12_dyad_7 (pc' := 8) rfl ?_
  refine me1 (pc' := 9) (L' := [(0, .ref 102), (1, ii verb), (2, ii (hd : Int)), (3, ii (hd2 : Int)), (4, ii place)]) (S' := [.ref 102, ii (3 + (vsz 7 v : Int)), .ref 102]) dm_X12_dyad_8 rfl rfl rfl rfl ?_
  refine me1 (pc' := 10) (L' := [(0, .ref 102), (1, ii verb), (2, ii (hd : Int)), (3, ii (hd2 : Int)), (4, ii place)]) (S' := [ii (hd2 : Int), .ref 102, ii (3 + (vsz 7 v : Int)), .ref 102]) dm_X12_dyad_9 rfl rfl rfl rfl ?_
  refine x_cp (pc' := 13) (v := ii (vsz 7 w : Int)) (rest := [ii (3 + (vsz 7 v : Int)), .ref 102]) dm_X12_dyad_10 rfl (q_inv (As := [ii (hd2 : Int)]) (S := [ii (3 + (vsz 7 v : Int)), .ref 102]) hm rfl rfl rfl) rfl rfl rfl (r_sizeOf_ hm hB0 7 (by omega) hw) ?_
  refine y_iadd (a := 3 + (vsz 7 v : Int)) (b := (vsz 7 w : Int)) dm_X12_dyad_13 (pc' := 14) rfl ?_
  refine pg_st (S' := [ii ((3 + vS v + vS w : Nat) : Int), .ref 102]) (congrArg (fun z => ii z :: [.ref 102]) (show (3 + (vsz 7 v : Int)) + (vsz 7 w : Int) = ((3 + vS v + vS w : Nat) : Int) by show _ = ((3 + vsz 7 v + vsz 7 w : Nat) : Int); omega)) ?_
  have hvS : vS v = vsz 7 v := rfl
  have hwS9 : vS w = vsz 7 w := rfl
  have hg1 : 1 ≤ vsz 7 v := vsz_ge1 (d := 6)
  have hg2 : 1 ≤ vsz 7 w := vsz_ge1 (d := 6)
  by_cases hW : W < (3 + vS v + vS w)
  · refine me1 (pc' := 16) (L' := [(0, .ref 102), (1, ii verb), (2, ii (hd : Int)), (3, ii (hd2 : Int)), (4, ii place)]) (S' := [ii place, ii ((3 + vS v + vS w : Nat) : Int), .ref 102]) dm_X12_dyad_14 rfl rfl rfl rfl ?_
    refine x_cv (pc' := 19) (rest := []) dm_X12_dyad_16 rfl (q_inv (As := [ii ((3 + vS v + vS w : Nat) : Int), ii place]) (S := []) hm rfl rfl rfl) rfl rfl rfl ((by have z := r_takes_ (xt := xt) (d := d - 1) (pre := pre) (post := post) (s := s) (n := ((3 + vS v + vS w : Nat) : Int)) (place := place) hm (by omega) he0 hca.1 hca.2 (by omega) (by omega) (by omega); rw [tkS_f (by omega), decide_eq_false (by omega)] at z; exact z)) ?_
    rintro _ _ ⟨rfl, rfl⟩
    refine me_1f (pc' := 22) dm_X12_dyad_19 rfl (by decide) rfl ?_
    refine me0 (pc' := 23) (S' := [ii (-1)]) dm_X12_dyad_22 rfl rfl rfl rfl ?_
    refine y_ret (r := some (ii (-1))) dm_X12_dyad_23 rfl rfl rfl ?_
    refine ⟨_, rfl, ?_⟩
    rw [show dTwo (cpS s) W verb v w place = dEr (cpS s) W 10 place from dAc_no hW]
    exact tk_no (n := 0) he0 h8 hnd
  · refine me1 (pc' := 16) (L' := [(0, .ref 102), (1, ii verb), (2, ii (hd : Int)), (3, ii (hd2 : Int)), (4, ii place)]) (S' := [ii place, ii ((3 + vS v + vS w : Nat) : Int), .ref 102]) dm_X12_dyad_14 rfl rfl rfl rfl ?_
    refine x_cv (pc' := 19) (rest := []) dm_X12_dyad_16 rfl (q_inv (As := [ii ((3 + vS v + vS w : Nat) : Int), ii place]) (S := []) hm rfl rfl rfl) rfl rfl rfl ((by have z := r_takes_ (xt := xt) (d := d - 1) (pre := pre) (post := post) (s := s) (n := ((3 + vS v + vS w : Nat) : Int)) (place := place) hm (by omega) he0 hca.1 hca.2 (by omega) (by omega) (by omega); rw [tkS_t (by omega), decide_eq_true (by omega)] at z; exact z)) ?_
    rintro _ _ ⟨rfl, rfl⟩
    refine me_1t (pc' := 24) dm_X12_dyad_19 rfl (by decide) ?_
    refine me1 (pc' := 25) (L' := [(0, .ref 102), (1, ii verb), (2, ii (hd : Int)), (3, ii (hd2 : Int)), (4, ii place)]) (S' := [.ref 102]) dm_X12_dyad_24 rfl rfl rfl rfl ?_
    refine me0 (pc' := 26) (S' := [ii 0, .ref 102]) dm_X12_dyad_25 rfl rfl rfl rfl ?_
    refine me3 (pc' := 29) (S' := []) (h1 := rI pre post (va_up ((takeS s ((3 + vS v + vS w : Nat) : Int)).1) 9 0) ((takeS s ((3 + vS v + vS w : Nat) : Int)).2.1) ((takeS s ((3 + vS v + vS w : Nat) : Int)).2.2.1) ((takeS s ((3 + vS v + vS w : Nat) : Int)).2.2.2)) dm_X12_dyad_26 (q_puti hm rfl rfl (fun m i l v => rf_9 m i l v)) rfl rfl rfl ?_
    obtain ⟨s2, hs2⟩ : ∃ s2 : RS, s2 = (va_up (takeS s ((3 + vS v + vS w : Nat) : Int)).1 9 0, (takeS s ((3 + vS v + vS w : Nat) : Int)).2.1, (takeS s ((3 + vS v + vS w : Nat) : Int)).2.2.1, (takeS s ((3 + vS v + vS w : Nat) : Int)).2.2.2) := ⟨_, rfl⟩
    have hT := tk_tkd (W := W) hs2 he0 h8 (by omega)
    have hqS : s2.1 4 = (q : Int) := hT.2.2.2.1.trans hq
    have hbS : s2.1 3 = (b : Int) := hT.2.2.1.trans hb
    have heS : s2.1 5 = 0 := hT.2.2.2.2.1
    have hwS : s2.1 13 = (base : Int) := hT.2.2.2.2.2.2.1.trans hw13
    have hcaS : 0 ≤ s2.1 10 ∧ s2.1 10 ≤ 100 := by rw [hT.2.1.1 10 (by decide) (by decide) (by decide) (by decide) (by decide) (by decide) (by decide) (by decide) (by decide) (by decide)]; exact hca
    have hBs : rB s2 := ⟨by omega, by omega, by omega, by omega⟩
    have hvs := rv_ext hT.1 hh3 hv
    have hws := rv_ext hT.1 hh4 hw
    have hrs := hRS verb v w (rv_wf hv) (rv_wf hw) hz1 hz3 hz2 hz4
    have hww : W - (3 + vS v + vS w) + (3 + vS v + vS w) = W := by omega
    refine pg_cast (h2 := rI pre post s2.1 s2.2.1 s2.2.2.1 s2.2.2.2) (by rw [hs2]) ?_
    refine me1 (pc' := 30) (L' := [(0, .ref 102), (1, ii verb), (2, ii (hd : Int)), (3, ii (hd2 : Int)), (4, ii place)]) (S' := [ii verb]) dm_X12_dyad_29 rfl rfl rfl rfl ?_
    have hsp : s_two verb 6 v w = d_take v w := by unfold s_two; rw [if_neg (by omega), if_neg (by omega), if_pos (by omega)]
    refine y_sw (a := verb) (35) (t := 153) (i := .lookupswitch 258 #[(35, 123), (36, 213), (44, 108), (46, 243), (63, 183), (64, 198), (94, 228), (95, 167), (126, 82)]) (len := 82) dm_X12_dyad_30 rfl rfl rfl (by omega) (by decide) (fun hb1 => ?_) (fun hb1 => ?_)
    · refine me1 (pc' := 154) (L' := [(0, .ref 102), (1, ii verb), (2, ii (hd : Int)), (3, ii (hd2 : Int)), (4, ii place)]) (S' := [.ref 102]) dm_X12_dyad_153 rfl rfl rfl rfl ?_
      refine me1 (pc' := 155) (L' := [(0, .ref 102), (1, ii verb), (2, ii (hd : Int)), (3, ii (hd2 : Int)), (4, ii place)]) (S' := [.ref 102, .ref 102]) dm_X12_dyad_154 rfl rfl rfl rfl ?_
      refine me1 (pc' := 156) (L' := [(0, .ref 102), (1, ii verb), (2, ii (hd : Int)), (3, ii (hd2 : Int)), (4, ii place)]) (S' := [ii (hd : Int), .ref 102, .ref 102]) dm_X12_dyad_155 rfl rfl rfl rfl ?_
      refine x_cp (pc' := 159) (v := ii (vk v : Int)) (rest := [.ref 102]) dm_X12_dyad_156 rfl (q_inv (As := [ii (hd : Int)]) (S := [.ref 102]) hm rfl rfl rfl) rfl rfl rfl (r_kindOf_ (e := 6) hm (by omega) hBs hvs) ?_
      refine y_1eq (a := (vk v : Int)) (t := 171) (pc' := 162) dm_X12_dyad_159 rfl rfl (by omega) (fun hb2 => ?_) (fun hb2 => ?_)
      · refine me1 (pc' := 172) (L' := [(0, .ref 102), (1, ii verb), (2, ii (hd : Int)), (3, ii (hd2 : Int)), (4, ii place)]) (S' := [.ref 102, .ref 102]) dm_X12_dyad_171 rfl rfl rfl rfl ?_
        refine me1 (pc' := 173) (L' := [(0, .ref 102), (1, ii verb), (2, ii (hd : Int)), (3, ii (hd2 : Int)), (4, ii place)]) (S' := [ii (hd : Int), .ref 102, .ref 102]) dm_X12_dyad_172 rfl rfl rfl rfl ?_
        refine me1 (pc' := 174) (L' := [(0, .ref 102), (1, ii verb), (2, ii (hd : Int)), (3, ii (hd2 : Int)), (4, ii place)]) (S' := [ii (hd2 : Int), ii (hd : Int), .ref 102, .ref 102]) dm_X12_dyad_173 rfl rfl rfl rfl ?_
        refine me0 (pc' := 175) (S' := [ii 1, ii (hd2 : Int), ii (hd : Int), .ref 102, .ref 102]) dm_X12_dyad_174 rfl rfl rfl rfl ?_
        refine me1 (pc' := 177) (L' := [(0, .ref 102), (1, ii verb), (2, ii (hd : Int)), (3, ii (hd2 : Int)), (4, ii place)]) (S' := [ii place, ii 1, ii (hd2 : Int), ii (hd : Int), .ref 102, .ref 102]) dm_X12_dyad_175 rfl rfl rfl rfl ?_
        refine x_cv (pc' := 180) (rest := [.ref 102]) dm_X12_dyad_177 rfl (q_inv (As := [ii (hd : Int), ii (hd2 : Int), ii 1, ii place]) (S := [.ref 102]) hm rfl rfl rfl) rfl rfl rfl (r_someT (c := true) (e := 6) (q := q) (b := b) (s := s2) (place := place) hm (by omega) hBs hvs hh3 hws hh4 hqS hbS hq3 (by omega) heS hcaS (by omega) rfl (by omega)) ?_
        rintro x1 g1 hres
        have hG : rG pre post s2 8 (d_take v w) place (rcb (d_take v w) 144) (rvb (d_take v w) 1) x1 g1 := rG_up (rG_r hres)
        obtain ⟨z1, rfl⟩ := rG_ii hG
        obtain ⟨t1, rfl⟩ := rG_st hG
        refine me2 (pc' := 191) (S' := [ii z1, .ref 102]) dm_X12_dyad_180 rfl rfl rfl ?_
        refine me1 (pc' := 193) (L' := [(0, .ref 102), (1, ii verb), (2, ii (hd : Int)), (3, ii (hd2 : Int)), (4, ii place)]) (S' := [ii place, ii z1, .ref 102]) dm_X12_dyad_191 rfl rfl rfl rfl ?_
        refine x_cv (pc' := 196) (rest := []) dm_X12_dyad_193 rfl (q_inv (As := [ii z1, ii place]) (S := []) hm rfl rfl rfl) rfl rfl rfl (r_mdo1 (s := s) (s2 := s2) (W2 := W - (3 + vS v + vS w)) (cost := (3 + vS v + vS w)) (cb := 144) (o := d_take v w) (c := 9) (nd := nd) hm (by omega) hT hB0 hG hca (by omega) hnd (fun n hn => hrs.1 n (hsp.trans hn)) (fun r hr => hrs.2 r (hsp.trans hr)) (by omega) (by omega) (by omega)) ?_
        rintro x9 g9 hfin
        obtain ⟨z9, rfl⟩ := dres_ii hfin
        obtain ⟨t9, rfl⟩ := dres_st hfin
        refine y_ret (r := some (ii z9)) dm_X12_dyad_196 rfl rfl rfl ?_
        have e9 : dTwo (cpS s) W verb v w place = dMo (cpS s) (W - (3 + vS v + vS w)) 0 (d_take v w) place := by unfold dTwo; rw [dAc_mo (by omega), hsp]
        rw [hww] at hfin
        rw [e9]
        exact ⟨_, rfl, hfin⟩
      · refine me1 (pc' := 163) (L' := [(0, .ref 102), (1, ii verb), (2, ii (hd : Int)), (3, ii (hd2 : Int)), (4, ii place)]) (S' := [.ref 102, .ref 102]) dm_X12_dyad_162 rfl rfl rfl rfl ?_
        refine me1 (pc' := 164) (L' := [(0, .ref 102), (1, ii verb), (2, ii (hd : Int)), (3, ii (hd2 : Int)), (4, ii place)]) (S' := [ii (hd : Int), .ref 102, .ref 102]) dm_X12_dyad_163 rfl rfl rfl rfl ?_
        refine x_cp (pc' := 167) (v := ii (vk v : Int)) (rest := [.ref 102]) dm_X12_dyad_164 rfl (q_inv (As := [ii (hd : Int)]) (S := [.ref 102]) hm rfl rfl rfl) rfl rfl rfl (r_kindOf_ (e := 6) hm (by omega) hBs hvs) ?_
        refine me0 (pc' := 168) (S' := [ii 1, ii (vk v : Int), .ref 102]) dm_X12_dyad_167 rfl rfl rfl rfl ?_
        refine y_2ne (a := (vk v : Int)) (b := 1) (t := 183) (pc' := 171) dm_X12_dyad_168 rfl rfl (by omega) (fun hb3 => ?_) (fun hb3 => ?_)
        · refine me1 (pc' := 184) (L' := [(0, .ref 102), (1, ii verb), (2, ii (hd : Int)), (3, ii (hd2 : Int)), (4, ii place)]) (S' := [.ref 102, .ref 102]) dm_X12_dyad_183 rfl rfl rfl rfl ?_
          refine me1 (pc' := 185) (L' := [(0, .ref 102), (1, ii verb), (2, ii (hd : Int)), (3, ii (hd2 : Int)), (4, ii place)]) (S' := [ii (hd : Int), .ref 102, .ref 102]) dm_X12_dyad_184 rfl rfl rfl rfl ?_
          refine me1 (pc' := 186) (L' := [(0, .ref 102), (1, ii verb), (2, ii (hd : Int)), (3, ii (hd2 : Int)), (4, ii place)]) (S' := [ii (hd2 : Int), ii (hd : Int), .ref 102, .ref 102]) dm_X12_dyad_185 rfl rfl rfl rfl ?_
          refine me1 (pc' := 188) (L' := [(0, .ref 102), (1, ii verb), (2, ii (hd : Int)), (3, ii (hd2 : Int)), (4, ii place)]) (S' := [ii place, ii (hd2 : Int), ii (hd : Int), .ref 102, .ref 102]) dm_X12_dyad_186 rfl rfl rfl rfl ?_
          refine x_cv (pc' := 191) (rest := [.ref 102]) dm_X12_dyad_188 rfl (q_inv (As := [ii (hd : Int), ii (hd2 : Int), ii place]) (S := [.ref 102]) hm rfl rfl rfl) rfl rfl rfl (r_laid_ (e := 6) (q := q) (b := b) (s := s2) (place := place) hm (by omega) hBs hvs hh3 hws hh4 hqS hbS hq3 (by omega) heS hcaS (by omega) (by omega)) ?_
          rintro x1 g1 hres
          have hG : rG pre post s2 8 (d_take v w) place (rcb (d_take v w) 144) (rvb (d_take v w) 1) x1 g1 := rG_up (rG_r hres)
          obtain ⟨z1, rfl⟩ := rG_ii hG
          obtain ⟨t1, rfl⟩ := rG_st hG
          refine me1 (pc' := 193) (L' := [(0, .ref 102), (1, ii verb), (2, ii (hd : Int)), (3, ii (hd2 : Int)), (4, ii place)]) (S' := [ii place, ii z1, .ref 102]) dm_X12_dyad_191 rfl rfl rfl rfl ?_
          refine x_cv (pc' := 196) (rest := []) dm_X12_dyad_193 rfl (q_inv (As := [ii z1, ii place]) (S := []) hm rfl rfl rfl) rfl rfl rfl (r_mdo1 (s := s) (s2 := s2) (W2 := W - (3 + vS v + vS w)) (cost := (3 + vS v + vS w)) (cb := 144) (o := d_take v w) (c := 9) (nd := nd) hm (by omega) hT hB0 hG hca (by omega) hnd (fun n hn => hrs.1 n (hsp.trans hn)) (fun r hr => hrs.2 r (hsp.trans hr)) (by omega) (by omega) (by omega)) ?_
          rintro x9 g9 hfin
          obtain ⟨z9, rfl⟩ := dres_ii hfin
          obtain ⟨t9, rfl⟩ := dres_st hfin
          refine y_ret (r := some (ii z9)) dm_X12_dyad_196 rfl rfl rfl ?_
          have e9 : dTwo (cpS s) W verb v w place = dMo (cpS s) (W - (3 + vS v + vS w)) 0 (d_take v w) place := by unfold dTwo; rw [dAc_mo (by omega), hsp]
          rw [hww] at hfin
          rw [e9]
          exact ⟨_, rfl, hfin⟩
        · refine me1 (pc' := 172) (L' := [(0, .ref 102), (1, ii verb), (2, ii (hd : Int)), (3, ii (hd2 : Int)), (4, ii place)]) (S' := [.ref 102, .ref 102]) dm_X12_dyad_171 rfl rfl rfl rfl ?_
          refine me1 (pc' := 173) (L' := [(0, .ref 102), (1, ii verb), (2, ii (hd : Int)), (3, ii (hd2 : Int)), (4, ii place)]) (S' := [ii (hd : Int), .ref 102, .ref 102]) dm_X12_dyad_172 rfl rfl rfl rfl ?_
          refine me1 (pc' := 174) (L' := [(0, .ref 102), (1, ii verb), (2, ii (hd : Int)), (3, ii (hd2 : Int)), (4, ii place)]) (S' := [ii (hd2 : Int), ii (hd : Int), .ref 102, .ref 102]) dm_X12_dyad_173 rfl rfl rfl rfl ?_
          refine me0 (pc' := 175) (S' := [ii 1, ii (hd2 : Int), ii (hd : Int), .ref 102, .ref 102]) dm_X12_dyad_174 rfl rfl rfl rfl ?_
          refine me1 (pc' := 177) (L' := [(0, .ref 102), (1, ii verb), (2, ii (hd : Int)), (3, ii (hd2 : Int)), (4, ii place)]) (S' := [ii place, ii 1, ii (hd2 : Int), ii (hd : Int), .ref 102, .ref 102]) dm_X12_dyad_175 rfl rfl rfl rfl ?_
          refine x_cv (pc' := 180) (rest := [.ref 102]) dm_X12_dyad_177 rfl (q_inv (As := [ii (hd : Int), ii (hd2 : Int), ii 1, ii place]) (S := [.ref 102]) hm rfl rfl rfl) rfl rfl rfl (r_someT (c := true) (e := 6) (q := q) (b := b) (s := s2) (place := place) hm (by omega) hBs hvs hh3 hws hh4 hqS hbS hq3 (by omega) heS hcaS (by omega) rfl (by omega)) ?_
          rintro x1 g1 hres
          have hG : rG pre post s2 8 (d_take v w) place (rcb (d_take v w) 144) (rvb (d_take v w) 1) x1 g1 := rG_up (rG_r hres)
          obtain ⟨z1, rfl⟩ := rG_ii hG
          obtain ⟨t1, rfl⟩ := rG_st hG
          refine me2 (pc' := 191) (S' := [ii z1, .ref 102]) dm_X12_dyad_180 rfl rfl rfl ?_
          refine me1 (pc' := 193) (L' := [(0, .ref 102), (1, ii verb), (2, ii (hd : Int)), (3, ii (hd2 : Int)), (4, ii place)]) (S' := [ii place, ii z1, .ref 102]) dm_X12_dyad_191 rfl rfl rfl rfl ?_
          refine x_cv (pc' := 196) (rest := []) dm_X12_dyad_193 rfl (q_inv (As := [ii z1, ii place]) (S := []) hm rfl rfl rfl) rfl rfl rfl (r_mdo1 (s := s) (s2 := s2) (W2 := W - (3 + vS v + vS w)) (cost := (3 + vS v + vS w)) (cb := 144) (o := d_take v w) (c := 9) (nd := nd) hm (by omega) hT hB0 hG hca (by omega) hnd (fun n hn => hrs.1 n (hsp.trans hn)) (fun r hr => hrs.2 r (hsp.trans hr)) (by omega) (by omega) (by omega)) ?_
          rintro x9 g9 hfin
          obtain ⟨z9, rfl⟩ := dres_ii hfin
          obtain ⟨t9, rfl⟩ := dres_st hfin
          refine y_ret (r := some (ii z9)) dm_X12_dyad_196 rfl rfl rfl ?_
          have e9 : dTwo (cpS s) W verb v w place = dMo (cpS s) (W - (3 + vS v + vS w)) 0 (d_take v w) place := by unfold dTwo; rw [dAc_mo (by omega), hsp]
          rw [hww] at hfin
          rw [e9]
          exact ⟨_, rfl, hfin⟩
    refine y_sw (a := verb) (36) (t := 243) (i := .lookupswitch 258 #[(35, 123), (36, 213), (44, 108), (46, 243), (63, 183), (64, 198), (94, 228), (95, 167), (126, 82)]) (len := 82) dm_X12_dyad_30 rfl rfl rfl (by omega) (by decide) (fun hb4 => ?_) (fun hb4 => ?_)
    · exfalso; omega
    refine y_sw (a := verb) (44) (t := 138) (i := .lookupswitch 258 #[(35, 123), (36, 213), (44, 108), (46, 243), (63, 183), (64, 198), (94, 228), (95, 167), (126, 82)]) (len := 82) dm_X12_dyad_30 rfl rfl rfl (by omega) (by decide) (fun hb5 => ?_) (fun hb5 => ?_)
    · exfalso; omega
    refine y_sw (a := verb) (46) (t := 273) (i := .lookupswitch 258 #[(35, 123), (36, 213), (44, 108), (46, 243), (63, 183), (64, 198), (94, 228), (95, 167), (126, 82)]) (len := 82) dm_X12_dyad_30 rfl rfl rfl (by omega) (by decide) (fun hb6 => ?_) (fun hb6 => ?_)
    · exfalso; omega
    refine y_sw (a := verb) (63) (t := 213) (i := .lookupswitch 258 #[(35, 123), (36, 213), (44, 108), (46, 243), (63, 183), (64, 198), (94, 228), (95, 167), (126, 82)]) (len := 82) dm_X12_dyad_30 rfl rfl rfl (by omega) (by decide) (fun hb7 => ?_) (fun hb7 => ?_)
    · exfalso; omega
    refine y_sw (a := verb) (64) (t := 228) (i := .lookupswitch 258 #[(35, 123), (36, 213), (44, 108), (46, 243), (63, 183), (64, 198), (94, 228), (95, 167), (126, 82)]) (len := 82) dm_X12_dyad_30 rfl rfl rfl (by omega) (by decide) (fun hb8 => ?_) (fun hb8 => ?_)
    · exfalso; omega
    refine y_sw (a := verb) (94) (t := 258) (i := .lookupswitch 258 #[(35, 123), (36, 213), (44, 108), (46, 243), (63, 183), (64, 198), (94, 228), (95, 167), (126, 82)]) (len := 82) dm_X12_dyad_30 rfl rfl rfl (by omega) (by decide) (fun hb9 => ?_) (fun hb9 => ?_)
    · exfalso; omega
    refine y_sw (a := verb) (95) (t := 197) (i := .lookupswitch 258 #[(35, 123), (36, 213), (44, 108), (46, 243), (63, 183), (64, 198), (94, 228), (95, 167), (126, 82)]) (len := 82) dm_X12_dyad_30 rfl rfl rfl (by omega) (by decide) (fun hb10 => ?_) (fun hb10 => ?_)
    · exfalso; omega
    refine y_sw (a := verb) (126) (t := 112) (i := .lookupswitch 258 #[(35, 123), (36, 213), (44, 108), (46, 243), (63, 183), (64, 198), (94, 228), (95, 167), (126, 82)]) (len := 82) dm_X12_dyad_30 rfl rfl rfl (by omega) (by decide) (fun hb11 => ?_) (fun hb11 => ?_)
    · exfalso; omega
    exfalso; omega
theorem dm_X12_dyad_288 : mj_dec prog_14_method_48_code 288 = some (.aload_n 0, 1) := by decide +kernel
theorem dm_X12_dyad_289 : mj_dec prog_14_method_48_code 289 = some (.aload_n 0, 1) := by decide +kernel
theorem dm_X12_dyad_290 : mj_dec prog_14_method_48_code 290 = some (.iload_n 1, 1) := by decide +kernel
theorem dm_X12_dyad_291 : mj_dec prog_14_method_48_code 291 = some (.iload_n 2, 1) := by decide +kernel
theorem dm_X12_dyad_292 : mj_dec prog_14_method_48_code 292 = some (.iload_n 3, 1) := by decide +kernel
theorem dm_X12_dyad_293 : mj_dec prog_14_method_48_code 293 = some (.iload 4, 2) := by decide +kernel
theorem dm_X12_dyad_295 : mj_dec prog_14_method_48_code 295 = some (.invokevirtual 329, 3) := by decide +kernel
theorem dm_X12_dyad_298 : mj_dec prog_14_method_48_code 298 = some (.iload 4, 2) := by decide +kernel
theorem dm_X12_dyad_300 : mj_dec prog_14_method_48_code 300 = some (.invokevirtual 208, 3) := by decide +kernel
theorem dm_X12_dyad_303 : mj_dec prog_14_method_48_code 303 = some (.ireturn, 1) := by decide +kernel
theorem r_dyP {xt : mj_X} {d hd hd2 q b base W : Nat} {pre post : mj_H} {s : RS} {v w : VV} {place nd verb : Int} (hm : pre.length = 102) (hd1 : 60 ≤ d) (hRS : RST2) (hB : rB s) (hv : rv s 7 hd v) (hh3 : 3 ≤ hd) (hw : rv s 7 hd2 w) (hh4 : 3 ≤ hd2) (hz1 : vsz 7 v ≤ 1000) (hz2 : vlv 7 v ≤ 5) (hz3 : vsz 7 w ≤ 1000) (hz4 : vlv 7 w ≤ 5) (hq : s.1 4 = (q : Int)) (hb : s.1 3 = (b : Int)) (hq3 : 3 ≤ q) (hV2 : q + 2100 < 310000) (he0 : s.1 5 = 0) (hca : 0 ≤ s.1 10 ∧ s.1 10 ≤ 100) (hC : b + 291000 ≤ 820000) (hw13 : s.1 13 = (base : Int)) (hbs : base ≤ 7900) (h8 : s.1 8 = (W : Int)) (hW5 : W ≤ 500000) (hnd : 0 ≤ nd) (hvb : verb = 43 ∨ verb = 45 ∨ verb = 42 ∨ verb = 37 ∨ verb = 38 ∨ verb = 124 ∨ verb = 60 ∨ verb = 62 ∨ verb = 61 ∨ verb = 33) (hRP : RPA) : pgV xt d 255 [.ref 102, ii verb, ii (hd : Int), ii (hd2 : Int), ii place] (rS pre post s) (dres pre post s W 9 nd (dTwo (cpS s) W verb v w place)) := by
  have hB0 := hB
  obtain ⟨hB1, hB2, hB3, hB4⟩ := hB
  obtain ⟨fr, hfr, hsh, hlt, hcl, hvk, hvm, hvc, hvq, hvcl⟩ := rv_val hv
  obtain ⟨fw, hfw, hshw, hltw, hclw, hwk, hwm, hwc, hwq, hwcl⟩ := rv_val hw
  have hvb2 : -2147483648 ≤ verb ∧ verb ≤ 2147483647 := by omega
  refine x_enter pm_X12_dyad (L0 := [(0, .ref 102), (1, ii verb), (2, ii (hd : Int)), (3, ii (hd2 : Int)), (4, ii place)]) rfl (Nat.le_of_ble_eq_true rfl) (by omega) ?_
  refine me1 (pc' := 1) (L' := [(0, .ref 102), (1, ii verb), (2, ii (hd : Int)), (3, ii (hd2 : Int)), (4, ii place)]) (S' := [.ref 102]) dm_X12_dyad_0 rfl rfl rfl rfl ?_
  refine me0 (pc' := 2) (S' := [ii 3, .ref 102]) dm_X12_dyad_1 rfl rfl rfl rfl ?_
  refine me1 (pc' := 3) (L' := [(0, .ref 102), (1, ii verb), (2, ii (hd : Int)), (3, ii (hd2 : Int)), (4, ii place)]) (S' := [.ref 102, ii 3, .ref 102]) dm_X12_dyad_2 rfl rfl rfl rfl ?_
  refine me1 (pc' := 4) (L' := [(0, .ref 102), (1, ii verb), (2, ii (hd : Int)), (3, ii (hd2 : Int)), (4, ii place)]) (S' := [ii (hd : Int), .ref 102, ii 3, .ref 102]) dm_X12_dyad_3 rfl rfl rfl rfl ?_
  refine x_cp (pc' := 7) (v := ii (vsz 7 v : Int)) (rest := [ii 3, .ref 102]) dm_X12_dyad_4 rfl (q_inv (As := [ii (hd : Int)]) (S := [ii 3, .ref 102]) hm rfl rfl rfl) rfl rfl rfl (r_sizeOf_ hm hB0 7 (by omega) hv) ?_
  refine y_iadd (a := 3) (b := (vsz 7 v : Int)) dm_X12_dyad_7 (pc' := 8) rfl ?_
  refine me1 (pc' := 9) (L' := [(0, .ref 102), (1, ii verb), (2, ii (hd : Int)), (3, ii (hd2 : Int)), (4, ii place)]) (S' := [.ref 102, ii (3 + (vsz 7 v : Int)), .ref 102]) dm_X12_dyad_8 rfl rfl rfl rfl ?_
  refine me1 (pc' := 10) (L' := [(0, .ref 102), (1, ii verb), (2, ii (hd : Int)), (3, ii (hd2 : Int)), (4, ii place)]) (S' := [ii (hd2 : Int), .ref 102, ii (3 + (vsz 7 v : Int)), .ref 102]) dm_X12_dyad_9 rfl rfl rfl rfl ?_
  refine x_cp (pc' := 13) (v := ii (vsz 7 w : Int)) (rest := [ii (3 + (vsz 7 v : Int)), .ref 102]) dm_X12_dyad_10 rfl (q_inv (As := [ii (hd2 : Int)]) (S := [ii (3 + (vsz 7 v : Int)), .ref 102]) hm rfl rfl rfl) rfl rfl rfl (r_sizeOf_ hm hB0 7 (by omega) hw) ?_
  refine y_iadd (a := 3 + (vsz 7 v : Int)) (b := (vsz 7 w : Int)) dm_X12_dyad_13 (pc' := 14) rfl ?_
  refine pg_st (S' := [ii ((3 + vS v + vS w : Nat) : Int), .ref 102]) (congrArg (fun z => ii z :: [.ref 102]) (show (3 + (vsz 7 v : Int)) + (vsz 7 w : Int) = ((3 + vS v + vS w : Nat) : Int) by show _ = ((3 + vsz 7 v + vsz 7 w : Nat) : Int); omega)) ?_
  have hvS : vS v = vsz 7 v := rfl
  have hwS9 : vS w = vsz 7 w := rfl
  have hg1 : 1 ≤ vsz 7 v := vsz_ge1 (d := 6)
  have hg2 : 1 ≤ vsz 7 w := vsz_ge1 (d := 6)
  by_cases hW : W < (3 + vS v + vS w)
  · refine me1 (pc' := 16) (L' := [(0, .ref 102), (1, ii verb), (2, ii (hd : Int)), (3, ii (hd2 : Int)), (4, ii place)]) (S' := [ii place, ii ((3 + vS v + vS w : Nat) : Int), .ref 102]) dm_X12_dyad_14 rfl rfl rfl rfl ?_
    refine x_cv (pc' := 19) (rest := []) dm_X12_dyad_16 rfl (q_inv (As := [ii ((3 + vS v + vS w : Nat) : Int), ii place]) (S := []) hm rfl rfl rfl) rfl rfl rfl ((by have z := r_takes_ (xt := xt) (d := d - 1) (pre := pre) (post := post) (s := s) (n := ((3 + vS v + vS w : Nat) : Int)) (place := place) hm (by omega) he0 hca.1 hca.2 (by omega) (by omega) (by omega); rw [tkS_f (by omega), decide_eq_false (by omega)] at z; exact z)) ?_
    rintro _ _ ⟨rfl, rfl⟩
    refine me_1f (pc' := 22) dm_X12_dyad_19 rfl (by decide) rfl ?_
    refine me0 (pc' := 23) (S' := [ii (-1)]) dm_X12_dyad_22 rfl rfl rfl rfl ?_
    refine y_ret (r := some (ii (-1))) dm_X12_dyad_23 rfl rfl rfl ?_
    refine ⟨_, rfl, ?_⟩
    rw [show dTwo (cpS s) W verb v w place = dEr (cpS s) W 10 place from dAc_no hW]
    exact tk_no (n := 0) he0 h8 hnd
  · refine me1 (pc' := 16) (L' := [(0, .ref 102), (1, ii verb), (2, ii (hd : Int)), (3, ii (hd2 : Int)), (4, ii place)]) (S' := [ii place, ii ((3 + vS v + vS w : Nat) : Int), .ref 102]) dm_X12_dyad_14 rfl rfl rfl rfl ?_
    refine x_cv (pc' := 19) (rest := []) dm_X12_dyad_16 rfl (q_inv (As := [ii ((3 + vS v + vS w : Nat) : Int), ii place]) (S := []) hm rfl rfl rfl) rfl rfl rfl ((by have z := r_takes_ (xt := xt) (d := d - 1) (pre := pre) (post := post) (s := s) (n := ((3 + vS v + vS w : Nat) : Int)) (place := place) hm (by omega) he0 hca.1 hca.2 (by omega) (by omega) (by omega); rw [tkS_t (by omega), decide_eq_true (by omega)] at z; exact z)) ?_
    rintro _ _ ⟨rfl, rfl⟩
    refine me_1t (pc' := 24) dm_X12_dyad_19 rfl (by decide) ?_
    refine me1 (pc' := 25) (L' := [(0, .ref 102), (1, ii verb), (2, ii (hd : Int)), (3, ii (hd2 : Int)), (4, ii place)]) (S' := [.ref 102]) dm_X12_dyad_24 rfl rfl rfl rfl ?_
    refine me0 (pc' := 26) (S' := [ii 0, .ref 102]) dm_X12_dyad_25 rfl rfl rfl rfl ?_
    refine me3 (pc' := 29) (S' := []) (h1 := rI pre post (va_up ((takeS s ((3 + vS v + vS w : Nat) : Int)).1) 9 0) ((takeS s ((3 + vS v + vS w : Nat) : Int)).2.1) ((takeS s ((3 + vS v + vS w : Nat) : Int)).2.2.1) ((takeS s ((3 + vS v + vS w : Nat) : Int)).2.2.2)) dm_X12_dyad_26 (q_puti hm rfl rfl (fun m i l v => rf_9 m i l v)) rfl rfl rfl ?_
    obtain ⟨s2, hs2⟩ : ∃ s2 : RS, s2 = (va_up (takeS s ((3 + vS v + vS w : Nat) : Int)).1 9 0, (takeS s ((3 + vS v + vS w : Nat) : Int)).2.1, (takeS s ((3 + vS v + vS w : Nat) : Int)).2.2.1, (takeS s ((3 + vS v + vS w : Nat) : Int)).2.2.2) := ⟨_, rfl⟩
    have hT := tk_tkd (W := W) hs2 he0 h8 (by omega)
    have hqS : s2.1 4 = (q : Int) := hT.2.2.2.1.trans hq
    have hbS : s2.1 3 = (b : Int) := hT.2.2.1.trans hb
    have heS : s2.1 5 = 0 := hT.2.2.2.2.1
    have hwS : s2.1 13 = (base : Int) := hT.2.2.2.2.2.2.1.trans hw13
    have hcaS : 0 ≤ s2.1 10 ∧ s2.1 10 ≤ 100 := by rw [hT.2.1.1 10 (by decide) (by decide) (by decide) (by decide) (by decide) (by decide) (by decide) (by decide) (by decide) (by decide)]; exact hca
    have hBs : rB s2 := ⟨by omega, by omega, by omega, by omega⟩
    have hvs := rv_ext hT.1 hh3 hv
    have hws := rv_ext hT.1 hh4 hw
    have hrs := hRS verb v w (rv_wf hv) (rv_wf hw) hz1 hz3 hz2 hz4
    have hww : W - (3 + vS v + vS w) + (3 + vS v + vS w) = W := by omega
    refine pg_cast (h2 := rI pre post s2.1 s2.2.1 s2.2.2.1 s2.2.2.2) (by rw [hs2]) ?_
    refine me1 (pc' := 30) (L' := [(0, .ref 102), (1, ii verb), (2, ii (hd : Int)), (3, ii (hd2 : Int)), (4, ii place)]) (S' := [ii verb]) dm_X12_dyad_29 rfl rfl rfl rfl ?_
    have hsp : s_two verb 6 v w = d_pair verb 7 v w := by unfold s_two; rw [if_neg (by omega), if_neg (by omega), if_neg (by omega), if_neg (by omega), if_neg (by omega), if_neg (by omega), if_neg (by omega), if_neg (by omega), if_neg (by omega)]
    have hpa := hRP v w (rv_wf hv) (rv_wf hw) hz1 hz3
    refine y_sw (a := verb) (35) (t := 153) (i := .lookupswitch 258 #[(35, 123), (36, 213), (44, 108), (46, 243), (63, 183), (64, 198), (94, 228), (95, 167), (126, 82)]) (len := 82) dm_X12_dyad_30 rfl rfl rfl (by omega) (by decide) (fun hb1 => ?_) (fun hb1 => ?_)
    · exfalso; omega
    refine y_sw (a := verb) (36) (t := 243) (i := .lookupswitch 258 #[(35, 123), (36, 213), (44, 108), (46, 243), (63, 183), (64, 198), (94, 228), (95, 167), (126, 82)]) (len := 82) dm_X12_dyad_30 rfl rfl rfl (by omega) (by decide) (fun hb2 => ?_) (fun hb2 => ?_)
    · exfalso; omega
    refine y_sw (a := verb) (44) (t := 138) (i := .lookupswitch 258 #[(35, 123), (36, 213), (44, 108), (46, 243), (63, 183), (64, 198), (94, 228), (95, 167), (126, 82)]) (len := 82) dm_X12_dyad_30 rfl rfl rfl (by omega) (by decide) (fun hb3 => ?_) (fun hb3 => ?_)
    · exfalso; omega
    refine y_sw (a := verb) (46) (t := 273) (i := .lookupswitch 258 #[(35, 123), (36, 213), (44, 108), (46, 243), (63, 183), (64, 198), (94, 228), (95, 167), (126, 82)]) (len := 82) dm_X12_dyad_30 rfl rfl rfl (by omega) (by decide) (fun hb4 => ?_) (fun hb4 => ?_)
    · exfalso; omega
    refine y_sw (a := verb) (63) (t := 213) (i := .lookupswitch 258 #[(35, 123), (36, 213), (44, 108), (46, 243), (63, 183), (64, 198), (94, 228), (95, 167), (126, 82)]) (len := 82) dm_X12_dyad_30 rfl rfl rfl (by omega) (by decide) (fun hb5 => ?_) (fun hb5 => ?_)
    · exfalso; omega
    refine y_sw (a := verb) (64) (t := 228) (i := .lookupswitch 258 #[(35, 123), (36, 213), (44, 108), (46, 243), (63, 183), (64, 198), (94, 228), (95, 167), (126, 82)]) (len := 82) dm_X12_dyad_30 rfl rfl rfl (by omega) (by decide) (fun hb6 => ?_) (fun hb6 => ?_)
    · exfalso; omega
    refine y_sw (a := verb) (94) (t := 258) (i := .lookupswitch 258 #[(35, 123), (36, 213), (44, 108), (46, 243), (63, 183), (64, 198), (94, 228), (95, 167), (126, 82)]) (len := 82) dm_X12_dyad_30 rfl rfl rfl (by omega) (by decide) (fun hb7 => ?_) (fun hb7 => ?_)
    · exfalso; omega
    refine y_sw (a := verb) (95) (t := 197) (i := .lookupswitch 258 #[(35, 123), (36, 213), (44, 108), (46, 243), (63, 183), (64, 198), (94, 228), (95, 167), (126, 82)]) (len := 82) dm_X12_dyad_30 rfl rfl rfl (by omega) (by decide) (fun hb8 => ?_) (fun hb8 => ?_)
    · exfalso; omega
    refine y_sw (a := verb) (126) (t := 112) (i := .lookupswitch 258 #[(35, 123), (36, 213), (44, 108), (46, 243), (63, 183), (64, 198), (94, 228), (95, 167), (126, 82)]) (len := 82) dm_X12_dyad_30 rfl rfl rfl (by omega) (by decide) (fun hb9 => ?_) (fun hb9 => ?_)
    · exfalso; omega
    refine me2 (pc' := 288) (S' := []) dm_X12_dyad_30 (sw_ldef [Int32.ofInt 35, Int32.ofInt 36, Int32.ofInt 44, Int32.ofInt 46, Int32.ofInt 63, Int32.ofInt 64, Int32.ofInt 94, Int32.ofInt 95, Int32.ofInt 126] rfl rfl rfl ⟨y_no (by omega) (by decide) hb1, y_no (by omega) (by decide) hb2, y_no (by omega) (by decide) hb3, y_no (by omega) (by decide) hb4, y_no (by omega) (by decide) hb5, y_no (by omega) (by decide) hb6, y_no (by omega) (by decide) hb7, y_no (by omega) (by decide) hb8, y_no (by omega) (by decide) hb9, trivial⟩) rfl rfl ?_
    refine me1 (pc' := 289) (L' := [(0, .ref 102), (1, ii verb), (2, ii (hd : Int)), (3, ii (hd2 : Int)), (4, ii place)]) (S' := [.ref 102]) dm_X12_dyad_288 rfl rfl rfl rfl ?_
    refine me1 (pc' := 290) (L' := [(0, .ref 102), (1, ii verb), (2, ii (hd : Int)), (3, ii (hd2 : Int)), (4, ii place)]) (S' := [.ref 102, .ref 102]) dm_X12_dyad_289 rfl rfl rfl rfl ?_
    refine me1 (pc' := 291) (L' := [(0, .ref 102), (1, ii verb), (2, ii (hd : Int)), (3, ii (hd2 : Int)), (4, ii place)]) (S' := [ii verb, .ref 102, .ref 102]) dm_X12_dyad_290 rfl rfl rfl rfl ?_
    refine me1 (pc' := 292) (L' := [(0, .ref 102), (1, ii verb), (2, ii (hd : Int)), (3, ii (hd2 : Int)), (4, ii place)]) (S' := [ii (hd : Int), ii verb, .ref 102, .ref 102]) dm_X12_dyad_291 rfl rfl rfl rfl ?_
    refine me1 (pc' := 293) (L' := [(0, .ref 102), (1, ii verb), (2, ii (hd : Int)), (3, ii (hd2 : Int)), (4, ii place)]) (S' := [ii (hd2 : Int), ii (hd : Int), ii verb, .ref 102, .ref 102]) dm_X12_dyad_292 rfl rfl rfl rfl ?_
    refine me1 (pc' := 295) (L' := [(0, .ref 102), (1, ii verb), (2, ii (hd : Int)), (3, ii (hd2 : Int)), (4, ii place)]) (S' := [ii place, ii (hd2 : Int), ii (hd : Int), ii verb, .ref 102, .ref 102]) dm_X12_dyad_293 rfl rfl rfl rfl ?_
    refine x_cv (pc' := 298) (rest := [.ref 102]) dm_X12_dyad_295 rfl (q_inv (As := [ii verb, ii (hd : Int), ii (hd2 : Int), ii place]) (S := [.ref 102]) hm rfl rfl rfl) rfl rfl rfl (r_paired_ (place := place) (vb := verb) hm (by omega) 7 (by omega) hBs hvs hh3 hws hh4 hqS hbS hq3 (by omega) heS hcaS (by omega)) ?_
    rintro x1 g1 hres
    have hG : rG pre post s2 8 ((pno verb 7 v w)) place ((paC 7 v w + paM 7 v w)) ((paK 7 v w)) x1 g1 := rG_up (rG_N hres)
    obtain ⟨z1, rfl⟩ := rG_ii hG
    obtain ⟨t1, rfl⟩ := rG_st hG
    refine me1 (pc' := 300) (L' := [(0, .ref 102), (1, ii verb), (2, ii (hd : Int)), (3, ii (hd2 : Int)), (4, ii place)]) (S' := [ii place, ii z1, .ref 102]) dm_X12_dyad_298 rfl rfl rfl rfl ?_
    refine x_cv (pc' := 303) (rest := []) dm_X12_dyad_300 rfl (q_inv (As := [ii z1, ii place]) (S := []) hm rfl rfl rfl) rfl rfl rfl (r_mdo (s := s) (s2 := s2) (W2 := W - (3 + vS v + vS w)) (cost := (3 + vS v + vS w)) (p := 0) (C := (paC 7 v w + paM 7 v w)) (V := (paK 7 v w)) (o := (pno verb 7 v w)) (c := 9) (nd := nd) hm (by omega) hT hB0 hG hca (by omega) (by omega) hnd (fun n hn => pno_n hpa.2 hn) (fun r hr => by rw [pno_r hr]; exact (hpa.2 verb).1) (by omega) (by omega) (by omega) (fun r hr _ _ => by have w9 := (hpa.2 verb).2.1; rw [pno_r hr, w9]; omega)) ?_
    rintro x9 g9 hfin
    obtain ⟨z9, rfl⟩ := dres_ii hfin
    obtain ⟨t9, rfl⟩ := dres_st hfin
    refine y_ret (r := some (ii z9)) dm_X12_dyad_303 rfl rfl rfl ?_
    have e9 : dTwo (cpS s) W verb v w place = dMo (cpS s) (W - (3 + vS v + vS w)) 0 ((pno verb 7 v w)) place := by unfold dTwo; rw [dAc_mo (by omega), hsp]; exact (dMo_pair (hpa.2 verb).2.1 (hpa.2 verb).2.2.1).symm
    rw [hww] at hfin
    rw [e9]
    exact ⟨_, rfl, hfin⟩
