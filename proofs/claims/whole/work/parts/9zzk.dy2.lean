/-! the reference: dyad, the last verbs -/
theorem vm_sz {v : VV} (hw : vw1 v) : vm v ≤ vsz 7 v := by
  show vm v ≤ (if vk v ≤ 1 then 1 else if vk v = 6 then 1 + vm v * vc v else if vk v = 7 then 1 + sumN (vm v) (fun k => vsz 6 (vd v k)) else 1 + vm v)
  by_cases h1 : vk v ≤ 1
  · rw [if_pos h1, (hw.2.1 h1).1]; exact Nat.le_refl _
  · rw [if_neg h1]
    by_cases h6 : vk v = 6
    · rw [if_pos h6]
      have := Nat.le_mul_of_pos_right (vm v) (hw.2.2.2.1 h6).2.2.1
      omega
    · rw [if_neg h6]
      by_cases h7 : vk v = 7
      · rw [if_pos h7]
        have := sumN_ge (n := vm v) (f := fun k => vsz 6 (vd v k)) (fun k _ => vsz_ge1)
        omega
      · rw [if_neg h7]; omega
theorem jn_ok {v w r : VV} (h : d_join v w = .inr r) (h7 : vk r = 7) : vm v + vm w + 1 ≤ vsz 7 r := by
  unfold d_join at h
  split at h
  · split at h
    · cases h
    · injection h with h
      rw [← h] at h7
      have h7 : (if vk v = 2 ∧ vk w = 2 then 2 else if ofN v ∧ ofN w then vform (vq v + vq w) (jnF v w) else 3) = 7 := h7
      have := vform_le (m := vq v + vq w) (f := jnF v w)
      split at h7
      · omega
      · split at h7 <;> omega
  · split at h
    · split at h
      · cases h
      · injection h with h
        rw [← h] at h7
        have h7 : (6 : Nat) = 7 := h7
        omega
    · split at h
      · cases h
      · injection h with h
        have e : vsz 7 r = 1 + sumN (vm v + vm w) (fun k => vsz 6 (jch v w k)) := by rw [← h]; exact ga_nest 6
        have c := sumN_ge (n := vm v + vm w) (f := fun k => vsz 6 (jch v w k)) (fun k _ => vsz_ge1)
        omega
theorem srtO_4 (v : VV) : 1 ≤ srtO v ∧ srtO v ≤ 4 := by
  unfold srtO
  split
  · omega
  · split
    · omega
    · split <;> omega
theorem r_joinG {base : Nat} {xt : mj_X} {d hd hd2 q b : Nat} {pre post : mj_H} {s : RS} {v w : VV} {place : Int} (hm : pre.length = 102) (hd1 : 20 ≤ d) (hB : rB s) (hv : rv s 7 hd v) (hh3 : 3 ≤ hd) (hw : rv s 7 hd2 w) (hh4 : 3 ≤ hd2) (hq : s.1 4 = (q : Int)) (hb : s.1 3 = (b : Int)) (hq3 : 3 ≤ q) (hV2 : q < 310000) (he0 : s.1 5 = 0) (hca : 0 ≤ s.1 10 ∧ s.1 10 ≤ 100) (hC : b + 300 ≤ 820000) (hV3 : q + 30 < 310000) (hw13 : s.1 13 = (base : Int)) (hbs : base ≤ 7900) : pgV xt d 259 [.ref 102, ii (hd : Int), ii (hd2 : Int), ii place] (rS pre post s) (rG pre post s 8 (d_join v w) place (rcb (d_join v w) 144) (rvb (d_join v w) (vm v + vm w + 1))) := by
  have s1 := srtO_4 v
  by_cases hN : srtO v ≠ srtO w ∨ srtO v = 4 ∨ (srtO v = 3 ∧ vc v ≠ vc w)
  · exact x_imp (r_joinedN (e := 6) (place := place) hm (by omega) hB hv hh3 hw hh4 hq hb hq3 hV2 he0 hca hC hV3 hw13 hbs hN) (fun r h' ⟨x, hx, hr⟩ => ⟨x, hx, rG_up2 (rG_r hr) (rcb_up (by omega)) (Nat.le_refl _)⟩)
  · have hs : srtO v = srtO w := by omega
    have up : ∀ {x : Value} {h' : mj_H}, rres pre post s 7 (d_join v w) place 144 1 x h' → rG pre post s 8 (d_join v w) place (rcb (d_join v w) 144) (rvb (d_join v w) (vm v + vm w + 1)) x h' := fun hr => rG_up2 (rG_up (rG_r hr)) (Nat.le_refl _) (rvb_up (by omega))
    by_cases h3 : srtO v = 3
    · exact x_imp (r_joinedT (e := 6) (place := place) hm (by omega) hB hv hh3 hw hh4 hq hb hq3 hV2 he0 hca hC h3 (by omega) (by omega)) (fun r h' ⟨x, hx, hr⟩ => ⟨x, hx, up hr⟩)
    · by_cases h1 : srtO v = 1
      · exact x_imp (r_joinedR1 (e := 6) (place := place) hm (by omega) hB hv hh3 hw hh4 hq hb hq3 hV2 he0 hca hC hs h1) (fun r h' ⟨x, hx, hr⟩ => ⟨x, hx, up hr⟩)
      · exact x_imp (r_joinedR2 (e := 6) (place := place) hm (by omega) hB hv hh3 hw hh4 hq hb hq3 hV2 he0 hca hC hs (by omega)) (fun r h' ⟨x, hx, hr⟩ => ⟨x, hx, up hr⟩)
theorem rvb_7 {r : VV} {vb : Nat} (h : vk r ≠ 7) : rvb (.inr r) vb ≤ 1 := by
  show (if vk r = 7 then vb else min vb 1) ≤ 1
  rw [if_neg h]; exact Nat.min_le_right _ _
theorem dm_X12_dyad_138 : mj_dec prog_14_method_48_code 138 = some (.aload_n 0, 1) := by decide +kernel
theorem dm_X12_dyad_139 : mj_dec prog_14_method_48_code 139 = some (.aload_n 0, 1) := by decide +kernel
theorem dm_X12_dyad_140 : mj_dec prog_14_method_48_code 140 = some (.iload_n 2, 1) := by decide +kernel
theorem dm_X12_dyad_141 : mj_dec prog_14_method_48_code 141 = some (.iload_n 3, 1) := by decide +kernel
theorem dm_X12_dyad_142 : mj_dec prog_14_method_48_code 142 = some (.iload 4, 2) := by decide +kernel
theorem dm_X12_dyad_144 : mj_dec prog_14_method_48_code 144 = some (.invokevirtual 304, 3) := by decide +kernel
theorem dm_X12_dyad_147 : mj_dec prog_14_method_48_code 147 = some (.iload 4, 2) := by decide +kernel
theorem dm_X12_dyad_149 : mj_dec prog_14_method_48_code 149 = some (.invokevirtual 208, 3) := by decide +kernel
theorem dm_X12_dyad_152 : mj_dec prog_14_method_48_code 152 = some (.ireturn, 1) := by decide +kernel
theorem r_dy44 {xt : mj_X} {d hd hd2 q b base W : Nat} {pre post : mj_H} {s : RS} {v w : VV} {place nd verb : Int} (hm : pre.length = 102) (hd1 : 60 ≤ d) (hRS : RST2) (hB : rB s) (hv : rv s 7 hd v) (hh3 : 3 ≤ hd) (hw : rv s 7 hd2 w) (hh4 : 3 ≤ hd2) (hz1 : vsz 7 v ≤ 1000) (hz2 : vlv 7 v ≤ 5) (hz3 : vsz 7 w ≤ 1000) (hz4 : vlv 7 w ≤ 5) (hq : s.1 4 = (q : Int)) (hb : s.1 3 = (b : Int)) (hq3 : 3 ≤ q) (hV2 : q + 2100 < 310000) (he0 : s.1 5 = 0) (hca : 0 ≤ s.1 10 ∧ s.1 10 ≤ 100) (hC : b + 291000 ≤ 820000) (hw13 : s.1 13 = (base : Int)) (hbs : base ≤ 7900) (h8 : s.1 8 = (W : Int)) (hW5 : W ≤ 500000) (hnd : 0 ≤ nd) (hvb : verb = 44) : pgV xt d 255 [.ref 102, ii verb, ii (hd : Int), ii (hd2 : Int), ii place] (rS pre post s) (dres pre post s W 9 nd (dTwo (cpS s) W verb v w place)) := by
  have hB0 := hB
  obtain ⟨hB1, hB2, hB3, hB4⟩ := hB
  obtain ⟨fr, hfr, hsh, hlt, hcl, hvk, hvm, hvc, hvq, hvcl⟩ := rv_val hv
  obtain ⟨fw, hfw, hshw, hltw, hclw, hwk, hwm, hwc, hwq, hwcl⟩ := rv_val hw
  have hvb2 : -2147483648 ≤ verb ∧ verb ≤ 2147483647 := by omega
  refine x_enter pm_X12_dyad (L0 := [(0, .ref 102), (1, ii verb), (2, ii (hd : Int)), (3, ii (hd2 : Int)), (4, ii place)]) rfl (Nat.le_of_ble_eq_true rfl) (by omega) ?_
  refine me1 (pc' := 1) (L' := [(0, .ref 102), (1, ii verb), (2, ii (hd : Int)), (3, ii (hd2 : Int)), (4, ii place)]) (S' := [.ref 102]) dm_X12_dyad_0 rfl rfl rfl rfl ?_
  refine me0 (pc' := 2) (S' := [ii 3, .ref 102]) dm_X12_dyad_1 rfl rfl rfl rfl ?_
  refine me1 (pc' := 3) (L' := [(0, .ref 102), (1, ii verb), (2, ii (hd : Int)), (3, ii (hd2 : Int)), (4, ii place)]) (S' := [.ref 102, ii 3, .ref 102]) dm_X12_dyad_2 rfl rfl rfl rfl ?_
  refine me1 (pc' := 4) (L' := [(0, .ref 102), (1, ii verb), (2, ii (hd : Int)), (3, ii (hd2 : Int)), (4, ii place)]) (S' := [ii (hd : Int), .ref 102, ii 3, .ref 102]) dm_X12_dyad_3 rfl rfl rfl rfl ?_
  refine x_cp (pc' := 7) (v := ii (vsz 7 v : Int)) (rest := [ii 3, .ref 102]) dm_X12_dyad_4 rfl (q_inv (As := [ii (hd : Int)]) (S := [ii 3, .ref 102]) hm rfl rfl rfl) rfl rfl rfl (r_sizeOf_ hm hB0 7 (by omega) hv) ?_
  refine y_iadd (a := 3) (b := (vsz 7 v : Int)) dm_X12_dyad_7 (pc' := 8) rfl ?_
  refine me1 (pc' := 9) (L' := [(0, .ref 102), (1, ii verb), (2, ii (hd : Int)), (3, ii (hd2 : Int)), (4, ii place)]) (S' := [.ref 102, ii (3 + (vsz 7 v : Int)), .ref 102]) dm_X12_dyad_8 rfl rfl rfl rfl ?_
  refine me1 (pc' := 10) (L' := [(0, .ref 102), (1, ii verb), (2, ii (hd : Int)), (3, ii (hd2 : Int)), (4, ii place)]) (S' := [ii (hd2 : Int), .ref 102, ii (3 + (vsz 7 v : Int)), .ref 102]) dm_X12_dyad_9 rfl rfl rfl rfl ?_
  refine x_cp (pc' := 13) (v := ii (vsz 7 w : Int)) (rest := [ii (3 + (vsz 7 v : Int)), .ref 102]) dm_X12_dyad_10 rfl (q_inv (As := [ii (hd2 : Int)]) (S := [ii (3 + (vsz 7 v : Int)), .ref 102]) hm rfl rfl rfl) rfl rfl rfl (r_sizeOf_ hm hB0 7 (by omega) hw) ?_
  refine y_iadd (a := 3 + (vsz 7 v : Int)) (b := (vsz 7 w : Int)) dm_X12_dyad_13 (pc' := 14) rfl ?_
  refine pg_st (S' := [ii ((3 + vS v + vS w : Nat) : Int), .ref 102]) (congrArg (fun z => ii z :: [.ref 102]) (show (3 + (vsz 7 v : Int)) + (vsz 7 w : Int) = ((3 + vS v + vS w : Nat) : Int) by show _ = ((3 + vsz 7 v + vsz 7 w : Nat) : Int); omega)) ?_
  have hvS : vS v = vsz 7 v := rfl
  have hwS9 : vS w = vsz 7 w := rfl
  have hg1 : 1 ≤ vsz 7 v := vsz_ge1 (d := 6)
  have hg2 : 1 ≤ vsz 7 w := vsz_ge1 (d := 6)
  by_cases hW : W < (3 + vS v + vS w)
  · refine me1 (pc' := 16) (L' := [(0, .ref 102), (1, ii verb), (2, ii (hd : Int)), (3, ii (hd2 : Int)), (4, ii place)]) (S' := [ii place, ii ((3 + vS v + vS w : Nat) : Int), .ref 102]) dm_X12_dyad_14 rfl rfl rfl rfl ?_
    refine x_cv (pc' := 19) (rest := []) dm_X12_dyad_16 rfl (q_inv (As := [ii ((3 + vS v + vS w : Nat) : Int), ii place]) (S := []) hm rfl rfl rfl) rfl rfl rfl ((by have z := r_takes_ (xt := xt) (d := d - 1) (pre := pre) (post := post) (s := s) (n := ((3 + vS v + vS w : Nat) : Int)) (place := place) hm (by omega) he0 hca.1 hca.2 (by omega) (by omega) (by omega); rw [tkS_f (by omega), decide_eq_false (by omega)] at z; exact z)) ?_
    rintro _ _ ⟨rfl, rfl⟩
    refine me_1f (pc' := 22) dm_X12_dyad_19 rfl (by decide) rfl ?_
    refine me0 (pc' := 23) (S' := [ii (-1)]) dm_X12_dyad_22 rfl rfl rfl rfl ?_
    refine y_ret (r := some (ii (-1))) dm_X12_dyad_23 rfl rfl rfl ?_
    refine ⟨_, rfl, ?_⟩
    rw [show dTwo (cpS s) W verb v w place = dEr (cpS s) W 10 place from dAc_no hW]
    exact tk_no (n := 0) he0 h8 hnd
  · refine me1 (pc' := 16) (L' := [(0, .ref 102), (1, ii verb), (2, ii (hd : Int)), (3, ii (hd2 : Int)), (4, ii place)]) (S' := [ii place, ii ((3 + vS v + vS w : Nat) : Int), .ref 102]) dm_X12_dyad_14 rfl rfl rfl rfl ?_
    refine x_cv (pc' := 19) (rest := []) dm_X12_dyad_16 rfl (q_inv (As := [ii ((3 + vS v + vS w : Nat) : Int), ii place]) (S := []) hm rfl rfl rfl) rfl rfl rfl ((by have z := r_takes_ (xt := xt) (d := d - 1) (pre := pre) (post := post) (s := s) (n := ((3 + vS v + vS w : Nat) : Int)) (place := place) hm (by omega) he0 hca.1 hca.2 (by omega) (by omega) (by omega); rw [tkS_t (by omega), decide_eq_true (by omega)] at z; exact z)) ?_
    rintro _ _ ⟨rfl, rfl⟩
    refine me_1t (pc' := 24) dm_X12_dyad_19 rfl (by decide) ?_
    refine me1 (pc' := 25) (L' := [(0, .ref 102), (1, ii verb), (2, ii (hd : Int)), (3, ii (hd2 : Int)), (4, ii place)]) (S' := [.ref 102]) dm_X12_dyad_24 rfl rfl rfl rfl ?_
    refine me0 (pc' := 26) (S' := [ii 0, .ref 102]) dm_X12_dyad_25 rfl rfl rfl rfl ?_
    refine me3 (pc' := 29) (S' := []) (h1 := rI pre post (va_up ((takeS s ((3 + vS v + vS w : Nat) : Int)).1) 9 0) ((takeS s ((3 + vS v + vS w : Nat) : Int)).2.1) ((takeS s ((3 + vS v + vS w : Nat) : Int)).2.2.1) ((takeS s ((3 + vS v + vS w : Nat) : Int)).2.2.2)) dm_X12_dyad_26 (q_puti hm rfl rfl (fun m i l v => rf_9 m i l v)) rfl rfl rfl ?_
    obtain ⟨s2, hs2⟩ : ∃ s2 : RS, s2 = (va_up (takeS s ((3 + vS v + vS w : Nat) : Int)).1 9 0, (takeS s ((3 + vS v + vS w : Nat) : Int)).2.1, (takeS s ((3 + vS v + vS w : Nat) : Int)).2.2.1, (takeS s ((3 + vS v + vS w : Nat) : Int)).2.2.2) := ⟨_, rfl⟩
    have hT := tk_tkd (W := W) hs2 he0 h8 (by omega)
    have hqS : s2.1 4 = (q : Int) := hT.2.2.2.1.trans hq
    have hbS : s2.1 3 = (b : Int) := hT.2.2.1.trans hb
    have heS : s2.1 5 = 0 := hT.2.2.2.2.1
    have hwS : s2.1 13 = (base : Int) := hT.2.2.2.2.2.2.1.trans hw13
    have hcaS : 0 ≤ s2.1 10 ∧ s2.1 10 ≤ 100 := by rw [hT.2.1.1 10 (by decide) (by decide) (by decide) (by decide) (by decide) (by decide) (by decide) (by decide) (by decide) (by decide)]; exact hca
    have hBs : rB s2 := ⟨by omega, by omega, by omega, by omega⟩
    have hvs := rv_ext hT.1 hh3 hv
    have hws := rv_ext hT.1 hh4 hw
    have hrs := hRS verb v w (rv_wf hv) (rv_wf hw) hz1 hz3 hz2 hz4
    have hww : W - (3 + vS v + vS w) + (3 + vS v + vS w) = W := by omega
    refine pg_cast (h2 := rI pre post s2.1 s2.2.1 s2.2.2.1 s2.2.2.2) (by rw [hs2]) ?_
    refine me1 (pc' := 30) (L' := [(0, .ref 102), (1, ii verb), (2, ii (hd : Int)), (3, ii (hd2 : Int)), (4, ii place)]) (S' := [ii verb]) dm_X12_dyad_29 rfl rfl rfl rfl ?_
    have hsp : s_two verb 6 v w = d_join v w := by unfold s_two; rw [if_neg (by omega), if_pos (by omega)]
    refine y_sw (a := verb) (35) (t := 153) (i := .lookupswitch 258 #[(35, 123), (36, 213), (44, 108), (46, 243), (63, 183), (64, 198), (94, 228), (95, 167), (126, 82)]) (len := 82) dm_X12_dyad_30 rfl rfl rfl (by omega) (by decide) (fun hb1 => ?_) (fun hb1 => ?_)
    · exfalso; omega
    refine y_sw (a := verb) (36) (t := 243) (i := .lookupswitch 258 #[(35, 123), (36, 213), (44, 108), (46, 243), (63, 183), (64, 198), (94, 228), (95, 167), (126, 82)]) (len := 82) dm_X12_dyad_30 rfl rfl rfl (by omega) (by decide) (fun hb2 => ?_) (fun hb2 => ?_)
    · exfalso; omega
    refine y_sw (a := verb) (44) (t := 138) (i := .lookupswitch 258 #[(35, 123), (36, 213), (44, 108), (46, 243), (63, 183), (64, 198), (94, 228), (95, 167), (126, 82)]) (len := 82) dm_X12_dyad_30 rfl rfl rfl (by omega) (by decide) (fun hb3 => ?_) (fun hb3 => ?_)
    · refine me1 (pc' := 139) (L' := [(0, .ref 102), (1, ii verb), (2, ii (hd : Int)), (3, ii (hd2 : Int)), (4, ii place)]) (S' := [.ref 102]) dm_X12_dyad_138 rfl rfl rfl rfl ?_
      refine me1 (pc' := 140) (L' := [(0, .ref 102), (1, ii verb), (2, ii (hd : Int)), (3, ii (hd2 : Int)), (4, ii place)]) (S' := [.ref 102, .ref 102]) dm_X12_dyad_139 rfl rfl rfl rfl ?_
      refine me1 (pc' := 141) (L' := [(0, .ref 102), (1, ii verb), (2, ii (hd : Int)), (3, ii (hd2 : Int)), (4, ii place)]) (S' := [ii (hd : Int), .ref 102, .ref 102]) dm_X12_dyad_140 rfl rfl rfl rfl ?_
      refine me1 (pc' := 142) (L' := [(0, .ref 102), (1, ii verb), (2, ii (hd : Int)), (3, ii (hd2 : Int)), (4, ii place)]) (S' := [ii (hd2 : Int), ii (hd : Int), .ref 102, .ref 102]) dm_X12_dyad_141 rfl rfl rfl rfl ?_
      refine me1 (pc' := 144) (L' := [(0, .ref 102), (1, ii verb), (2, ii (hd : Int)), (3, ii (hd2 : Int)), (4, ii place)]) (S' := [ii place, ii (hd2 : Int), ii (hd : Int), .ref 102, .ref 102]) dm_X12_dyad_142 rfl rfl rfl rfl ?_
      refine x_cv (pc' := 147) (rest := [.ref 102]) dm_X12_dyad_144 rfl (q_inv (As := [ii (hd : Int), ii (hd2 : Int), ii place]) (S := [.ref 102]) hm rfl rfl rfl) rfl rfl rfl (r_joinG (q := q) (b := b) (s := s2) (place := place) hm (by omega) hBs hvs hh3 hws hh4 hqS hbS hq3 (by omega) heS hcaS (by omega) (by omega) hwS hbs) ?_
      rintro x1 g1 hres
      have hG : rG pre post s2 8 (d_join v w) place ((rcb (d_join v w) 144)) ((rvb (d_join v w) (vm v + vm w + 1))) x1 g1 := hres
      obtain ⟨z1, rfl⟩ := rG_ii hG
      obtain ⟨t1, rfl⟩ := rG_st hG
      refine me1 (pc' := 149) (L' := [(0, .ref 102), (1, ii verb), (2, ii (hd : Int)), (3, ii (hd2 : Int)), (4, ii place)]) (S' := [ii place, ii z1, .ref 102]) dm_X12_dyad_147 rfl rfl rfl rfl ?_
      refine x_cv (pc' := 152) (rest := []) dm_X12_dyad_149 rfl (q_inv (As := [ii z1, ii place]) (S := []) hm rfl rfl rfl) rfl rfl rfl (r_mdo (s := s) (s2 := s2) (W2 := W - (3 + vS v + vS w)) (cost := (3 + vS v + vS w)) (p := 0) (C := (rcb (d_join v w) 144)) (V := (rvb (d_join v w) (vm v + vm w + 1))) (o := (d_join v w)) (c := 9) (nd := nd) hm (by omega) hT hB0 hG hca (by omega) (by omega) hnd (fun n hn => hrs.1 n (hsp.trans hn)) (fun r hr => (hrs.2 r (hsp.trans hr)).2) (by have u1 := rcb_le (o := d_join v w) (cb := 144); have u2 := rvb_le (o := d_join v w) (vb := vm v + vm w + 1); omega) (by have u1 := rcb_le (o := d_join v w) (cb := 144); have u2 := rvb_le (o := d_join v w) (vb := vm v + vm w + 1); omega) (by have u1 := rcb_le (o := d_join v w) (cb := 144); have u2 := rvb_le (o := d_join v w) (vb := vm v + vm w + 1); omega) (fun r hr _ _ => by have w1 : vcl r ≤ vsz 7 r := vcl_sz (d := 5) (hrs.2 r (hsp.trans hr)).1; have w2 : rcb (d_join v w) 144 ≤ vcl r := (by rw [hr]; exact Nat.min_le_right _ _); have w3 : 1 ≤ vsz 7 r := vsz_ge1 (d := 6); have w4 := vm_sz (rv_wf hv).1; have w5 := vm_sz (rv_wf hw).1; by_cases h7 : vk r = 7; (have w6 := jn_ok hr h7; have u1 := rcb_le (o := d_join v w) (cb := 144); have u2 := rvb_le (o := d_join v w) (vb := vm v + vm w + 1); omega); (have w7 : rvb (d_join v w) (vm v + vm w + 1) ≤ 1 := (by rw [hr]; exact rvb_7 h7); omega))) ?_
      rintro x9 g9 hfin
      obtain ⟨z9, rfl⟩ := dres_ii hfin
      obtain ⟨t9, rfl⟩ := dres_st hfin
      refine y_ret (r := some (ii z9)) dm_X12_dyad_152 rfl rfl rfl ?_
      have e9 : dTwo (cpS s) W verb v w place = dMo (cpS s) (W - (3 + vS v + vS w)) 0 ((d_join v w)) place := by unfold dTwo; rw [dAc_mo (by omega), hsp]
      rw [hww] at hfin
      rw [e9]
      exact ⟨_, rfl, hfin⟩
    refine y_sw (a := verb) (46) (t := 273) (i := .lookupswitch 258 #[(35, 123), (36, 213), (44, 108), (46, 243), (63, 183), (64, 198), (94, 228), (95, 167), (126, 82)]) (len := 82) dm_X12_dyad_30 rfl rfl rfl (by omega) (by decide) (fun hb4 => ?_) (fun hb4 => ?_)
    · exfalso; omega
    refine y_sw (a := verb) (63) (t := 213) (i := .lookupswitch 258 #[(35, 123), (36, 213), (44, 108), (46, 243), (63, 183), (64, 198), (94, 228), (95, 167), (126, 82)]) (len := 82) dm_X12_dyad_30 rfl rfl rfl (by omega) (by decide) (fun hb5 => ?_) (fun hb5 => ?_)
    · exfalso; omega
    refine y_sw (a := verb) (64) (t := 228) (i := .lookupswitch 258 #[(35, 123), (36, 213), (44, 108), (46, 243), (63, 183), (64, 198), (94, 228), (95, 167), (126, 82)]) (len := 82) dm_X12_dyad_30 rfl rfl rfl (by omega) (by decide) (fun hb6 => ?_) (fun hb6 => ?_)
    · exfalso; omega
    refine y_sw (a := verb) (94) (t := 258) (i := .lookupswitch 258 #[(35, 123), (36, 213), (44, 108), (46, 243), (63, 183), (64, 198), (94, 228), (95, 167), (126, 82)]) (len := 82) dm_X12_dyad_30 rfl rfl rfl (by omega) (by decide) (fun hb7 => ?_) (fun hb7 => ?_)
    · exfalso; omega
    refine y_sw (a := verb) (95) (t := 197) (i := .lookupswitch 258 #[(35, 123), (36, 213), (44, 108), (46, 243), (63, 183), (64, 198), (94, 228), (95, 167), (126, 82)]) (len := 82) dm_X12_dyad_30 rfl rfl rfl (by omega) (by decide) (fun hb8 => ?_) (fun hb8 => ?_)
    · exfalso; omega
    refine y_sw (a := verb) (126) (t := 112) (i := .lookupswitch 258 #[(35, 123), (36, 213), (44, 108), (46, 243), (63, 183), (64, 198), (94, 228), (95, 167), (126, 82)]) (len := 82) dm_X12_dyad_30 rfl rfl rfl (by omega) (by decide) (fun hb9 => ?_) (fun hb9 => ?_)
    · exfalso; omega
    exfalso; omega
theorem dm_X12_dyad_112 : mj_dec prog_14_method_48_code 112 = some (.aload_n 0, 1) := by decide +kernel
theorem dm_X12_dyad_113 : mj_dec prog_14_method_48_code 113 = some (.aload_n 0, 1) := by decide +kernel
theorem dm_X12_dyad_114 : mj_dec prog_14_method_48_code 114 = some (.iconst 0, 1) := by decide +kernel
theorem dm_X12_dyad_115 : mj_dec prog_14_method_48_code 115 = some (.aload_n 0, 1) := by decide +kernel
theorem dm_X12_dyad_116 : mj_dec prog_14_method_48_code 116 = some (.iload_n 2, 1) := by decide +kernel
theorem dm_X12_dyad_117 : mj_dec prog_14_method_48_code 117 = some (.iload_n 3, 1) := by decide +kernel
theorem dm_X12_dyad_118 : mj_dec prog_14_method_48_code 118 = some (.invokevirtual 177, 3) := by decide +kernel
theorem dm_X12_dyad_121 : mj_dec prog_14_method_48_code 121 = some (.ifCond .eq 7, 3) := by decide +kernel
theorem dm_X12_dyad_124 : mj_dec prog_14_method_48_code 124 = some (.lconst 1, 1) := by decide +kernel
theorem dm_X12_dyad_125 : mj_dec prog_14_method_48_code 125 = some (.goto 4, 3) := by decide +kernel
theorem dm_X12_dyad_128 : mj_dec prog_14_method_48_code 128 = some (.lconst 0, 1) := by decide +kernel
theorem dm_X12_dyad_129 : mj_dec prog_14_method_48_code 129 = some (.invokevirtual 105, 3) := by decide +kernel
theorem dm_X12_dyad_132 : mj_dec prog_14_method_48_code 132 = some (.iload 4, 2) := by decide +kernel
theorem dm_X12_dyad_134 : mj_dec prog_14_method_48_code 134 = some (.invokevirtual 208, 3) := by decide +kernel
theorem dm_X12_dyad_137 : mj_dec prog_14_method_48_code 137 = some (.ireturn, 1) := by decide +kernel
theorem r_dy126 {xt : mj_X} {d hd hd2 q b base W : Nat} {pre post : mj_H} {s : RS} {v w : VV} {place nd verb : Int} (hm : pre.length = 102) (hd1 : 60 ≤ d) (hRS : RST2) (hB : rB s) (hv : rv s 7 hd v) (hh3 : 3 ≤ hd) (hw : rv s 7 hd2 w) (hh4 : 3 ≤ hd2) (hz1 : vsz 7 v ≤ 1000) (hz2 : vlv 7 v ≤ 5) (hz3 : vsz 7 w ≤ 1000) (hz4 : vlv 7 w ≤ 5) (hq : s.1 4 = (q : Int)) (hb : s.1 3 = (b : Int)) (hq3 : 3 ≤ q) (hV2 : q + 2100 < 310000) (he0 : s.1 5 = 0) (hca : 0 ≤ s.1 10 ∧ s.1 10 ≤ 100) (hC : b + 291000 ≤ 820000) (hw13 : s.1 13 = (base : Int)) (hbs : base ≤ 7900) (h8 : s.1 8 = (W : Int)) (hW5 : W ≤ 500000) (hnd : 0 ≤ nd) (hvb : verb = 126) : pgV xt d 255 [.ref 102, ii verb, ii (hd : Int), ii (hd2 : Int), ii place] (rS pre post s) (dres pre post s W 9 nd (dTwo (cpS s) W verb v w place)) := by
  have hB0 := hB
  obtain ⟨hB1, hB2, hB3, hB4⟩ := hB
  obtain ⟨fr, hfr, hsh, hlt, hcl, hvk, hvm, hvc, hvq, hvcl⟩ := rv_val hv
  obtain ⟨fw, hfw, hshw, hltw, hclw, hwk, hwm, hwc, hwq, hwcl⟩ := rv_val hw
  have hvb2 : -2147483648 ≤ verb ∧ verb ≤ 2147483647 := by omega
  refine x_enter pm_X12_dyad (L0 := [(0, .ref 102), (1, ii verb), (2, ii (hd : Int)), (3, ii (hd2 : Int)), (4, ii place)]) rfl (Nat.le_of_ble_eq_true rfl) (by omega) ?_
  refine me1 (pc' := 1) (L' := [(0, .ref 102), (1, ii verb), (2, ii (hd : Int)), (3, ii (hd2 : Int)), (4, ii place)]) (S' := [.ref 102]) dm_X12_dyad_0 rfl rfl rfl rfl ?_
  refine me0 (pc' := 2) (S' := [ii 3, .ref 102]) dm_X12_dyad_1 rfl rfl rfl rfl ?_
  refine me1 (pc' := 3) (L' := [(0, .ref 102), (1, ii verb), (2, ii (hd : Int)), (3, ii (hd2 : Int)), (4, ii place)]) (S' := [.ref 102, ii 3, .ref 102]) dm_X12_dyad_2 rfl rfl rfl rfl ?_
  refine me1 (pc' := 4) (L' := [(0, .ref 102), (1, ii verb), (2, ii (hd : Int)), (3, ii (hd2 : Int)), (4, ii place)]) (S' := [ii (hd : Int), .ref 102, ii 3, .ref 102]) dm_X12_dyad_3 rfl rfl rfl rfl ?_
  refine x_cp (pc' := 7) (v := ii (vsz 7 v : Int)) (rest := [ii 3, .ref 102]) dm_X12_dyad_4 rfl (q_inv (As := [ii (hd : Int)]) (S := [ii 3, .ref 102]) hm rfl rfl rfl) rfl rfl rfl (r_sizeOf_ hm hB0 7 (by omega) hv) ?_
  refine y_iadd (a := 3) (b := (vsz 7 v : Int)) dm_X12_dyad_7 (pc' := 8) rfl ?_
  refine me1 (pc' := 9) (L' := [(0, .ref 102), (1, ii verb), (2, ii (hd : Int)), (3, ii (hd2 : Int)), (4, ii place)]) (S' := [.ref 102, ii (3 + (vsz 7 v : Int)), .ref 102]) dm_X12_dyad_8 rfl rfl rfl rfl ?_
  refine me1 (pc' := 10) (L' := [(0, .ref 102), (1, ii verb), (2, ii (hd : Int)), (3, ii (hd2 : Int)), (4, ii place)]) (S' := [ii (hd2 : Int), .ref 102, ii (3 + (vsz 7 v : Int)), .ref 102]) dm_X12_dyad_9 rfl rfl rfl rfl ?_
  refine x_cp (pc' := 13) (v := ii (vsz 7 w : Int)) (rest := [ii (3 + (vsz 7 v : Int)), .ref 102]) dm_X12_dyad_10 rfl (q_inv (As := [ii (hd2 : Int)]) (S := [ii (3 + (vsz 7 v : Int)), .ref 102]) hm rfl rfl rfl) rfl rfl rfl (r_sizeOf_ hm hB0 7 (by omega) hw) ?_
  refine y_iadd (a := 3 + (vsz 7 v : Int)) (b := (vsz 7 w : Int)) dm_X12_dyad_13 (pc' := 14) rfl ?_
  refine pg_st (S' := [ii ((3 + vS v + vS w : Nat) : Int), .ref 102]) (congrArg (fun z => ii z :: [.ref 102]) (show (3 + (vsz 7 v : Int)) + (vsz 7 w : Int) = ((3 + vS v + vS w : Nat) : Int) by show _ = ((3 + vsz 7 v + vsz 7 w : Nat) : Int); omega)) ?_
  have hvS : vS v = vsz 7 v := rfl
  have hwS9 : vS w = vsz 7 w := rfl
  have hg1 : 1 ≤ vsz 7 v := vsz_ge1 (d := 6)
  have hg2 : 1 ≤ vsz 7 w := vsz_ge1 (d := 6)
  by_cases hW : W < (3 + vS v + vS w)
  · refine me1 (pc' := 16) (L' := [(0, .ref 102), (1, ii verb), (2, ii (hd : Int)), (3, ii (hd2 : Int)), (4, ii place)]) (S' := [ii place, ii ((3 + vS v + vS w : Nat) : Int), .ref 102]) dm_X12_dyad_14 rfl rfl rfl rfl ?_
    refine x_cv (pc' := 19) (rest := []) dm_X12_dyad_16 rfl (q_inv (As := [ii ((3 + vS v + vS w : Nat) : Int), ii place]) (S := []) hm rfl rfl rfl) rfl rfl rfl ((by have z := r_takes_ (xt := xt) (d := d - 1) (pre := pre) (post := post) (s := s) (n := ((3 + vS v + vS w : Nat) : Int)) (place := place) hm (by omega) he0 hca.1 hca.2 (by omega) (by omega) (by omega); rw [tkS_f (by omega), decide_eq_false (by omega)] at z; exact z)) ?_
    rintro _ _ ⟨rfl, rfl⟩
    refine me_1f (pc' := 22) dm_X12_dyad_19 rfl (by decide) rfl ?_
    refine me0 (pc' := 23) (S' := [ii (-1)]) dm_X12_dyad_22 rfl rfl rfl rfl ?_
    refine y_ret (r := some (ii (-1))) dm_X12_dyad_23 rfl rfl rfl ?_
    refine ⟨_, rfl, ?_⟩
    rw [show dTwo (cpS s) W verb v w place = dEr (cpS s) W 10 place from dAc_no hW]
    exact tk_no (n := 0) he0 h8 hnd
  · refine me1 (pc' := 16) (L' := [(0, .ref 102), (1, ii verb), (2, ii (hd : Int)), (3, ii (hd2 : Int)), (4, ii place)]) (S' := [ii place, ii ((3 + vS v + vS w : Nat) : Int), .ref 102]) dm_X12_dyad_14 rfl rfl rfl rfl ?_
    refine x_cv (pc' := 19) (rest := []) dm_X12_dyad_16 rfl (q_inv (As := [ii ((3 + vS v + vS w : Nat) : Int), ii place]) (S := []) hm rfl rfl rfl) rfl rfl rfl ((by have z := r_takes_ (xt := xt) (d := d - 1) (pre := pre) (post := post) (s := s) (n := ((3 + vS v + vS w : Nat) : Int)) (place := place) hm (by omega) he0 hca.1 hca.2 (by omega) (by omega) (by omega); rw [tkS_t (by omega), decide_eq_true (by omega)] at z; exact z)) ?_
    rintro _ _ ⟨rfl, rfl⟩
    refine me_1t (pc' := 24) dm_X12_dyad_19 rfl (by decide) ?_
    refine me1 (pc' := 25) (L' := [(0, .ref 102), (1, ii verb), (2, ii (hd : Int)), (3, ii (hd2 : Int)), (4, ii place)]) (S' := [.ref 102]) dm_X12_dyad_24 rfl rfl rfl rfl ?_
    refine me0 (pc' := 26) (S' := [ii 0, .ref 102]) dm_X12_dyad_25 rfl rfl rfl rfl ?_
    refine me3 (pc' := 29) (S' := []) (h1 := rI pre post (va_up ((takeS s ((3 + vS v + vS w : Nat) : Int)).1) 9 0) ((takeS s ((3 + vS v + vS w : Nat) : Int)).2.1) ((takeS s ((3 + vS v + vS w : Nat) : Int)).2.2.1) ((takeS s ((3 + vS v + vS w : Nat) : Int)).2.2.2)) dm_X12_dyad_26 (q_puti hm rfl rfl (fun m i l v => rf_9 m i l v)) rfl rfl rfl ?_
    obtain ⟨s2, hs2⟩ : ∃ s2 : RS, s2 = (va_up (takeS s ((3 + vS v + vS w : Nat) : Int)).1 9 0, (takeS s ((3 + vS v + vS w : Nat) : Int)).2.1, (takeS s ((3 + vS v + vS w : Nat) : Int)).2.2.1, (takeS s ((3 + vS v + vS w : Nat) : Int)).2.2.2) := ⟨_, rfl⟩
    have hT := tk_tkd (W := W) hs2 he0 h8 (by omega)
    have hqS : s2.1 4 = (q : Int) := hT.2.2.2.1.trans hq
    have hbS : s2.1 3 = (b : Int) := hT.2.2.1.trans hb
    have heS : s2.1 5 = 0 := hT.2.2.2.2.1
    have hwS : s2.1 13 = (base : Int) := hT.2.2.2.2.2.2.1.trans hw13
    have hcaS : 0 ≤ s2.1 10 ∧ s2.1 10 ≤ 100 := by rw [hT.2.1.1 10 (by decide) (by decide) (by decide) (by decide) (by decide) (by decide) (by decide) (by decide) (by decide) (by decide)]; exact hca
    have hBs : rB s2 := ⟨by omega, by omega, by omega, by omega⟩
    have hvs := rv_ext hT.1 hh3 hv
    have hws := rv_ext hT.1 hh4 hw
    have hrs := hRS verb v w (rv_wf hv) (rv_wf hw) hz1 hz3 hz2 hz4
    have hww : W - (3 + vS v + vS w) + (3 + vS v + vS w) = W := by omega
    refine pg_cast (h2 := rI pre post s2.1 s2.2.1 s2.2.2.1 s2.2.2.2) (by rw [hs2]) ?_
    refine me1 (pc' := 30) (L' := [(0, .ref 102), (1, ii verb), (2, ii (hd : Int)), (3, ii (hd2 : Int)), (4, ii place)]) (S' := [ii verb]) dm_X12_dyad_29 rfl rfl rfl rfl ?_
    have hsp : s_two verb 6 v w = .inr (v1 0 (Int64.ofInt (zi (vsame 7 v w)))) := by unfold s_two; rw [if_pos (by omega)]
    refine y_sw (a := verb) (35) (t := 153) (i := .lookupswitch 258 #[(35, 123), (36, 213), (44, 108), (46, 243), (63, 183), (64, 198), (94, 228), (95, 167), (126, 82)]) (len := 82) dm_X12_dyad_30 rfl rfl rfl (by omega) (by decide) (fun hb1 => ?_) (fun hb1 => ?_)
    · exfalso; omega
    refine y_sw (a := verb) (36) (t := 243) (i := .lookupswitch 258 #[(35, 123), (36, 213), (44, 108), (46, 243), (63, 183), (64, 198), (94, 228), (95, 167), (126, 82)]) (len := 82) dm_X12_dyad_30 rfl rfl rfl (by omega) (by decide) (fun hb2 => ?_) (fun hb2 => ?_)
    · exfalso; omega
    refine y_sw (a := verb) (44) (t := 138) (i := .lookupswitch 258 #[(35, 123), (36, 213), (44, 108), (46, 243), (63, 183), (64, 198), (94, 228), (95, 167), (126, 82)]) (len := 82) dm_X12_dyad_30 rfl rfl rfl (by omega) (by decide) (fun hb3 => ?_) (fun hb3 => ?_)
    · exfalso; omega
    refine y_sw (a := verb) (46) (t := 273) (i := .lookupswitch 258 #[(35, 123), (36, 213), (44, 108), (46, 243), (63, 183), (64, 198), (94, 228), (95, 167), (126, 82)]) (len := 82) dm_X12_dyad_30 rfl rfl rfl (by omega) (by decide) (fun hb4 => ?_) (fun hb4 => ?_)
    · exfalso; omega
    refine y_sw (a := verb) (63) (t := 213) (i := .lookupswitch 258 #[(35, 123), (36, 213), (44, 108), (46, 243), (63, 183), (64, 198), (94, 228), (95, 167), (126, 82)]) (len := 82) dm_X12_dyad_30 rfl rfl rfl (by omega) (by decide) (fun hb5 => ?_) (fun hb5 => ?_)
    · exfalso; omega
    refine y_sw (a := verb) (64) (t := 228) (i := .lookupswitch 258 #[(35, 123), (36, 213), (44, 108), (46, 243), (63, 183), (64, 198), (94, 228), (95, 167), (126, 82)]) (len := 82) dm_X12_dyad_30 rfl rfl rfl (by omega) (by decide) (fun hb6 => ?_) (fun hb6 => ?_)
    · exfalso; omega
    refine y_sw (a := verb) (94) (t := 258) (i := .lookupswitch 258 #[(35, 123), (36, 213), (44, 108), (46, 243), (63, 183), (64, 198), (94, 228), (95, 167), (126, 82)]) (len := 82) dm_X12_dyad_30 rfl rfl rfl (by omega) (by decide) (fun hb7 => ?_) (fun hb7 => ?_)
    · exfalso; omega
    refine y_sw (a := verb) (95) (t := 197) (i := .lookupswitch 258 #[(35, 123), (36, 213), (44, 108), (46, 243), (63, 183), (64, 198), (94, 228), (95, 167), (126, 82)]) (len := 82) dm_X12_dyad_30 rfl rfl rfl (by omega) (by decide) (fun hb8 => ?_) (fun hb8 => ?_)
    · exfalso; omega
    refine y_sw (a := verb) (126) (t := 112) (i := .lookupswitch 258 #[(35, 123), (36, 213), (44, 108), (46, 243), (63, 183), (64, 198), (94, 228), (95, 167), (126, 82)]) (len := 82) dm_X12_dyad_30 rfl rfl rfl (by omega) (by decide) (fun hb9 => ?_) (fun hb9 => ?_)
    · refine me1 (pc' := 113) (L' := [(0, .ref 102), (1, ii verb), (2, ii (hd : Int)), (3, ii (hd2 : Int)), (4, ii place)]) (S' := [.ref 102]) dm_X12_dyad_112 rfl rfl rfl rfl ?_
      refine me1 (pc' := 114) (L' := [(0, .ref 102), (1, ii verb), (2, ii (hd : Int)), (3, ii (hd2 : Int)), (4, ii place)]) (S' := [.ref 102, .ref 102]) dm_X12_dyad_113 rfl rfl rfl rfl ?_
      refine me0 (pc' := 115) (S' := [ii 0, .ref 102, .ref 102]) dm_X12_dyad_114 rfl rfl rfl rfl ?_
      refine me1 (pc' := 116) (L' := [(0, .ref 102), (1, ii verb), (2, ii (hd : Int)), (3, ii (hd2 : Int)), (4, ii place)]) (S' := [.ref 102, ii 0, .ref 102, .ref 102]) dm_X12_dyad_115 rfl rfl rfl rfl ?_
      refine me1 (pc' := 117) (L' := [(0, .ref 102), (1, ii verb), (2, ii (hd : Int)), (3, ii (hd2 : Int)), (4, ii place)]) (S' := [ii (hd : Int), .ref 102, ii 0, .ref 102, .ref 102]) dm_X12_dyad_116 rfl rfl rfl rfl ?_
      refine me1 (pc' := 118) (L' := [(0, .ref 102), (1, ii verb), (2, ii (hd : Int)), (3, ii (hd2 : Int)), (4, ii place)]) (S' := [ii (hd2 : Int), ii (hd : Int), .ref 102, ii 0, .ref 102, .ref 102]) dm_X12_dyad_117 rfl rfl rfl rfl ?_
      refine x_cp (pc' := 121) (v := zz (vsame 7 v w)) (rest := [ii 0, .ref 102, .ref 102]) dm_X12_dyad_118 rfl (q_inv (As := [ii (hd : Int), ii (hd2 : Int)]) (S := [ii 0, .ref 102, .ref 102]) hm rfl rfl rfl) rfl rfl rfl (r_isSame_ hm hBs 7 (by omega) hvs hws) ?_
      refine y_zeq (c := vsame 7 v w) (t := 128) (pc' := 124) dm_X12_dyad_121 rfl rfl (fun hb10 => ?_) (fun hb10 => ?_)
      · refine me0 (pc' := 129) (S' := [.long (Int64.ofInt 0), ii 0, .ref 102, .ref 102]) dm_X12_dyad_128 rfl rfl rfl rfl ?_
        refine x_cv (pc' := 132) (rest := [.ref 102]) dm_X12_dyad_129 rfl (q_inv (As := [ii 0, .long (Int64.ofInt 0)]) (S := [.ref 102]) hm rfl rfl rfl) rfl rfl rfl (r_one_ (s := s2) (q := q) (b := b) hm (by omega) hqS hbS (by omega) (by omega) (by omega)) ?_
        rintro _ _ ⟨rfl, rfl⟩
        have hsp2 : s_two verb 6 v w = .inr (v1 0 (Int64.ofInt 0)) := by rw [hsp]; rw [hb10]; rfl
        clear hsp
        have hsp := hsp2
        have hG : rG pre post s2 8 (.inr (v1 0 (Int64.ofInt 0))) place (rcb (.inr (v1 0 (Int64.ofInt 0))) 1) (rvb (.inr (v1 0 (Int64.ofInt 0))) 1) (ii (q : Int)) (rS pre post (fillS (rowS s2 q b 0 1) b 1 (fun _ => (Int64.ofInt 0)))) := rG_r (rres_row (e := 7) (kind := 0) (n := 1) (w := v1 0 (Int64.ofInt 0)) hqS hq3 hbS heS (vw1_one (by omega)) (by show ¬ 0 = 7; omega) (by show ¬ 0 = 6; omega) rfl rfl rfl (fun k hk => by rw [show k = 0 by omega]; rfl) (Nat.le_refl _) (Nat.le_refl _))
        refine me1 (pc' := 134) (L' := [(0, .ref 102), (1, ii verb), (2, ii (hd : Int)), (3, ii (hd2 : Int)), (4, ii place)]) (S' := [ii place, ii (q : Int), .ref 102]) dm_X12_dyad_132 rfl rfl rfl rfl ?_
        refine x_cv (pc' := 137) (rest := []) dm_X12_dyad_134 rfl (q_inv (As := [ii (q : Int), ii place]) (S := []) hm rfl rfl rfl) rfl rfl rfl (r_mdo1 (s := s) (s2 := s2) (W2 := W - (3 + vS v + vS w)) (cost := (3 + vS v + vS w)) (cb := 1) (o := .inr (v1 0 (Int64.ofInt 0))) (c := 9) (nd := nd) hm (by omega) hT hB0 hG hca (by omega) hnd (fun n hn => hrs.1 n (hsp.trans hn)) (fun r hr => hrs.2 r (hsp.trans hr)) (by omega) (by omega) (by omega)) ?_
        rintro x9 g9 hfin
        obtain ⟨z9, rfl⟩ := dres_ii hfin
        obtain ⟨t9, rfl⟩ := dres_st hfin
        refine y_ret (r := some (ii z9)) dm_X12_dyad_137 rfl rfl rfl ?_
        have e9 : dTwo (cpS s) W verb v w place = dMo (cpS s) (W - (3 + vS v + vS w)) 0 (.inr (v1 0 (Int64.ofInt 0))) place := by unfold dTwo; rw [dAc_mo (by omega), hsp]
        rw [hww] at hfin
        rw [e9]
        exact ⟨_, rfl, hfin⟩
      · refine me0 (pc' := 125) (S' := [.long (Int64.ofInt 1), ii 0, .ref 102, .ref 102]) dm_X12_dyad_124 rfl rfl rfl rfl ?_
        refine me2 (pc' := 129) (S' := [.long (Int64.ofInt 1), ii 0, .ref 102, .ref 102]) dm_X12_dyad_125 rfl rfl rfl ?_
        refine x_cv (pc' := 132) (rest := [.ref 102]) dm_X12_dyad_129 rfl (q_inv (As := [ii 0, .long (Int64.ofInt 1)]) (S := [.ref 102]) hm rfl rfl rfl) rfl rfl rfl (r_one_ (s := s2) (q := q) (b := b) hm (by omega) hqS hbS (by omega) (by omega) (by omega)) ?_
        rintro _ _ ⟨rfl, rfl⟩
        have hsp2 : s_two verb 6 v w = .inr (v1 0 (Int64.ofInt 1)) := by rw [hsp]; rw [hb10]; rfl
        clear hsp
        have hsp := hsp2
        have hG : rG pre post s2 8 (.inr (v1 0 (Int64.ofInt 1))) place (rcb (.inr (v1 0 (Int64.ofInt 1))) 1) (rvb (.inr (v1 0 (Int64.ofInt 1))) 1) (ii (q : Int)) (rS pre post (fillS (rowS s2 q b 0 1) b 1 (fun _ => (Int64.ofInt 1)))) := rG_r (rres_row (e := 7) (kind := 0) (n := 1) (w := v1 0 (Int64.ofInt 1)) hqS hq3 hbS heS (vw1_one (by omega)) (by show ¬ 0 = 7; omega) (by show ¬ 0 = 6; omega) rfl rfl rfl (fun k hk => by rw [show k = 0 by omega]; rfl) (Nat.le_refl _) (Nat.le_refl _))
        refine me1 (pc' := 134) (L' := [(0, .ref 102), (1, ii verb), (2, ii (hd : Int)), (3, ii (hd2 : Int)), (4, ii place)]) (S' := [ii place, ii (q : Int), .ref 102]) dm_X12_dyad_132 rfl rfl rfl rfl ?_
        refine x_cv (pc' := 137) (rest := []) dm_X12_dyad_134 rfl (q_inv (As := [ii (q : Int), ii place]) (S := []) hm rfl rfl rfl) rfl rfl rfl (r_mdo1 (s := s) (s2 := s2) (W2 := W - (3 + vS v + vS w)) (cost := (3 + vS v + vS w)) (cb := 1) (o := .inr (v1 0 (Int64.ofInt 1))) (c := 9) (nd := nd) hm (by omega) hT hB0 hG hca (by omega) hnd (fun n hn => hrs.1 n (hsp.trans hn)) (fun r hr => hrs.2 r (hsp.trans hr)) (by omega) (by omega) (by omega)) ?_
        rintro x9 g9 hfin
        obtain ⟨z9, rfl⟩ := dres_ii hfin
        obtain ⟨t9, rfl⟩ := dres_st hfin
        refine y_ret (r := some (ii z9)) dm_X12_dyad_137 rfl rfl rfl ?_
        have e9 : dTwo (cpS s) W verb v w place = dMo (cpS s) (W - (3 + vS v + vS w)) 0 (.inr (v1 0 (Int64.ofInt 1))) place := by unfold dTwo; rw [dAc_mo (by omega), hsp]
        rw [hww] at hfin
        rw [e9]
        exact ⟨_, rfl, hfin⟩
    exfalso; omega
/-- dyad -/
theorem r_dyad_ {xt : mj_X} {d hd hd2 q b base W : Nat} {pre post : mj_H} {s : RS} {v w : VV} {place nd verb : Int} (hm : pre.length = 102) (hd1 : 60 ≤ d) (hRS : RST2) (hB : rB s) (hv : rv s 7 hd v) (hh3 : 3 ≤ hd) (hw : rv s 7 hd2 w) (hh4 : 3 ≤ hd2) (hz1 : vsz 7 v ≤ 1000) (hz2 : vlv 7 v ≤ 5) (hz3 : vsz 7 w ≤ 1000) (hz4 : vlv 7 w ≤ 5) (hq : s.1 4 = (q : Int)) (hb : s.1 3 = (b : Int)) (hq3 : 3 ≤ q) (hV2 : q + 2100 < 310000) (he0 : s.1 5 = 0) (hca : 0 ≤ s.1 10 ∧ s.1 10 ≤ 100) (hC : b + 291000 ≤ 820000) (hw13 : s.1 13 = (base : Int)) (hbs : base ≤ 7900) (h8 : s.1 8 = (W : Int)) (hW5 : W ≤ 500000) (hnd : 0 ≤ nd) (hRP : RPA) (hvb : verb = 33 ∨ verb = 35 ∨ verb = 36 ∨ verb = 37 ∨ verb = 38 ∨ verb = 42 ∨ verb = 43 ∨ verb = 44 ∨ verb = 45 ∨ verb = 46 ∨ verb = 60 ∨ verb = 61 ∨ verb = 62 ∨ verb = 63 ∨ verb = 64 ∨ verb = 94 ∨ verb = 95 ∨ verb = 124 ∨ verb = 126) : pgV xt d 255 [.ref 102, ii verb, ii (hd : Int), ii (hd2 : Int), ii place] (rS pre post s) (dres pre post s W 9 nd (dTwo (cpS s) W verb v w place)) := by
  by_cases hp : verb = 43 ∨ verb = 45 ∨ verb = 42 ∨ verb = 37 ∨ verb = 38 ∨ verb = 124 ∨ verb = 60 ∨ verb = 62 ∨ verb = 61 ∨ verb = 33
  · exact r_dyP hm hd1 hRS hB hv hh3 hw hh4 hz1 hz2 hz3 hz4 hq hb hq3 hV2 he0 hca hC hw13 hbs h8 hW5 hnd hp hRP
  by_cases h35 : verb = 35
  · exact r_dy35 hm hd1 hRS hB hv hh3 hw hh4 hz1 hz2 hz3 hz4 hq hb hq3 hV2 he0 hca hC hw13 hbs h8 hW5 hnd h35
  by_cases h36 : verb = 36
  · exact r_dy36 hm hd1 hRS hB hv hh3 hw hh4 hz1 hz2 hz3 hz4 hq hb hq3 hV2 he0 hca hC hw13 hbs h8 hW5 hnd h36
  by_cases h44 : verb = 44
  · exact r_dy44 hm hd1 hRS hB hv hh3 hw hh4 hz1 hz2 hz3 hz4 hq hb hq3 hV2 he0 hca hC hw13 hbs h8 hW5 hnd h44
  by_cases h46 : verb = 46
  · exact r_dy46 hm hd1 hRS hB hv hh3 hw hh4 hz1 hz2 hz3 hz4 hq hb hq3 hV2 he0 hca hC hw13 hbs h8 hW5 hnd h46
  by_cases h63 : verb = 63
  · exact r_dy63 hm hd1 hRS hB hv hh3 hw hh4 hz1 hz2 hz3 hz4 hq hb hq3 hV2 he0 hca hC hw13 hbs h8 hW5 hnd h63
  by_cases h64 : verb = 64
  · exact r_dy64 hm hd1 hRS hB hv hh3 hw hh4 hz1 hz2 hz3 hz4 hq hb hq3 hV2 he0 hca hC hw13 hbs h8 hW5 hnd h64
  by_cases h94 : verb = 94
  · exact r_dy94 hm hd1 hRS hB hv hh3 hw hh4 hz1 hz2 hz3 hz4 hq hb hq3 hV2 he0 hca hC hw13 hbs h8 hW5 hnd h94
  by_cases h95 : verb = 95
  · exact r_dy95 hm hd1 hRS hB hv hh3 hw hh4 hz1 hz2 hz3 hz4 hq hb hq3 hV2 he0 hca hC hw13 hbs h8 hW5 hnd h95
  by_cases h126 : verb = 126
  · exact r_dy126 hm hd1 hRS hB hv hh3 hw hh4 hz1 hz2 hz3 hz4 hq hb hq3 hV2 he0 hca hC hw13 hbs h8 hW5 hnd h126
  exfalso; omega
