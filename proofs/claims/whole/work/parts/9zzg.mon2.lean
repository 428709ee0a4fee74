/-! the reference: monad, more verbs -/
theorem z0_wf : vwf 1 z0 := ⟨vw1_one (by omega), fun h => absurd h (by decide)⟩
theorem z0_sz : vsz 7 z0 = 1 := if_pos (by show (0 : Nat) ≤ 1; omega)
theorem grp_ok {v r : VV} (h : m_grp v = .inr r) : grN v ≤ vm v ∧ vm v + 1 ≤ vsz 7 v ∧ grN v + 1 ≤ vsz 7 r := by
  unfold m_grp at h
  split at h
  · cases h
  · split at h
    · cases h
    · injection h with h
      have a : grN v ≤ vm v := (unq_le (nsame v) (vm v)).1
      have b : vsz 7 r = 1 + sumN (grN v) (fun k => vsz 6 (grV v k)) := by rw [← h]; exact ga_nest 6
      have c := sumN_ge (n := grN v) (f := fun k => vsz 6 (grV v k)) (fun k _ => vsz_ge1)
      have e : vsz 7 v = 1 + vm v := by
        show (if vk v ≤ 1 then 1 else if vk v = 6 then _ else if vk v = 7 then _ else 1 + vm v) = _
        rw [if_neg (by omega), if_neg (by omega), if_neg (by omega)]
      exact ⟨a, by omega, by omega⟩
theorem pno_r {vb : Int} {e : Nat} {v w r : VV} (h : pno vb e v w = .inr r) : r = paV vb e v w := by
  unfold pno at h
  split at h
  · cases h
  · injection h with h; exact h.symm
theorem pno_n {vb : Int} {e n : Nat} {v w : VV} {X Y Z : Int → Prop} (h : ∀ vb : Int, X vb ∧ Y vb ∧ Z vb ∧ (paF vb e v w ≠ 0 → 1 ≤ (paF vb e v w).toNat ∧ (paF vb e v w).toNat ≤ 100)) (hn : pno vb e v w = .inl n) : 1 ≤ n ∧ n ≤ 100 := by
  unfold pno at hn
  split at hn
  · rename_i hf
    injection hn with hn
    rw [← hn]; exact (h vb).2.2.2 hf
  · cases hn
theorem unl_ok {v r : VV} (hw : vw1 v) (h : m_unl 7 v = .inr r) : 5 * rvb (m_unl 7 v) ((unq (isame 7 v) (vm v)).1 + 1) + 4 ≤ 3 * (3 + vsz 7 v + vsz 7 r) := by
  have a := (unq_le (isame 7 v) (vm v)).1
  have b1 : 1 ≤ vsz 7 v := vsz_ge1 (d := 6)
  have b2 : 1 ≤ vsz 7 r := vsz_ge1 (d := 6)
  rw [h]
  by_cases h7 : vk r = 7
  · have e : rvb (.inr r) ((unq (isame 7 v) (vm v)).1 + 1) = (unq (isame 7 v) (vm v)).1 + 1 := if_pos h7
    rw [e]
    unfold m_unl at h
    split at h
    · rename_i h1
      injection h with h
      rw [← h] at h7; omega
    · split at h
      · rename_i h1 h5
        injection h with h
        rw [← h, vpick_r h5] at h7
        have h7 : pickk v = 7 := h7
        unfold pickk at h7
        split at h7
        · omega
        · split at h7
          · split at h7 <;> omega
          · omega
      · rename_i h1 h5
        injection h with h
        have hz : vsz 7 r = 1 + sumN (unq (isame 7 v) (vm v)).1 (fun k => vsz 6 (vit v ((unq (isame 7 v) (vm v)).2 k))) := by rw [← h]; exact ga_nest 6
        have hc := sumN_ge (n := (unq (isame 7 v) (vm v)).1) (f := fun k => vsz 6 (vit v ((unq (isame 7 v) (vm v)).2 k))) (fun k _ => vsz_ge1)
        have hv : vm v + 1 ≤ vsz 7 v := by
          by_cases h6 : vk v = 6
          · have e6 : vsz 7 v = 1 + vm v * vc v := by
              show (if vk v ≤ 1 then 1 else if vk v = 6 then 1 + vm v * vc v else _) = _
              rw [if_neg h1, if_pos h6]
            have := Nat.le_mul_of_pos_right (vm v) (hw.2.2.2.1 h6).2.2.1
            omega
          · have hk := hw.1
            have e7 : vsz 7 v = 1 + sumN (vm v) (fun k => vsz 6 (vd v k)) := by
              show (if vk v ≤ 1 then 1 else if vk v = 6 then 1 + vm v * vc v else if vk v = 7 then 1 + sumN (vm v) (fun k => vsz 6 (vd v k)) else _) = _
              rw [if_neg h1, if_neg h6, if_pos (by omega)]
            have := sumN_ge (n := vm v) (f := fun k => vsz 6 (vd v k)) (fun k _ => vsz_ge1)
            omega
        omega
  · have e : rvb (.inr r) ((unq (isame 7 v) (vm v)).1 + 1) ≤ 1 := by
      show (if vk r = 7 then _ else min _ 1) ≤ 1
      rw [if_neg h7]; exact Nat.min_le_right _ _
    omega
theorem dm_X12_monad_389 : mj_dec prog_14_method_29_code 389 = some (.aload_n 0, 1) := by decide +kernel
theorem dm_X12_monad_390 : mj_dec prog_14_method_29_code 390 = some (.aload_n 0, 1) := by decide +kernel
theorem dm_X12_monad_391 : mj_dec prog_14_method_29_code 391 = some (.iload_n 2, 1) := by decide +kernel
theorem dm_X12_monad_392 : mj_dec prog_14_method_29_code 392 = some (.iload_n 3, 1) := by decide +kernel
theorem dm_X12_monad_393 : mj_dec prog_14_method_29_code 393 = some (.invokevirtual 233, 3) := by decide +kernel
theorem dm_X12_monad_396 : mj_dec prog_14_method_29_code 396 = some (.iload_n 3, 1) := by decide +kernel
theorem dm_X12_monad_397 : mj_dec prog_14_method_29_code 397 = some (.invokevirtual 208, 3) := by decide +kernel
theorem dm_X12_monad_400 : mj_dec prog_14_method_29_code 400 = some (.ireturn, 1) := by decide +kernel
theorem r_mon61 {xt : mj_X} {d hd q b base W : Nat} {pre post : mj_H} {s : RS} {v : VV} {place nd verb : Int} (hm : pre.length = 102) (hd1 : 60 ≤ d) (hRS : RSO) (hB : rB s) (hv : rv s 7 hd v) (hh3 : 3 ≤ hd) (hz1 : vsz 7 v ≤ 1000) (hz2 : vlv 7 v ≤ 5) (hq : s.1 4 = (q : Int)) (hb : s.1 3 = (b : Int)) (hq3 : 3 ≤ q) (hV2 : q + 2100 < 310000) (he0 : s.1 5 = 0) (hca : 0 ≤ s.1 10 ∧ s.1 10 ≤ 100) (hC : b + 291000 ≤ 820000) (hw13 : s.1 13 = (base : Int)) (hbs : base ≤ 7900) (h8 : s.1 8 = (W : Int)) (hW5 : W ≤ 500000) (hnd : 0 ≤ nd) (hvb : verb = 61) : pgV xt d 281 [.ref 102, ii verb, ii (hd : Int), ii place] (rS pre post s) (dres pre post s W 4 nd (dOne (cpS s) W verb v place)) := by
  have hB0 := hB
  obtain ⟨hB1, hB2, hB3, hB4⟩ := hB
  obtain ⟨fr, hfr, hsh, hlt, hcl, hvk, hvm, hvc, hvq, hvcl⟩ := rv_val hv
  have hvb2 : -2147483648 ≤ verb ∧ verb ≤ 2147483647 := by omega
  refine x_enter pm_X12_monad (L0 := [(0, .ref 102), (1, ii verb), (2, ii (hd : Int)), (3, ii place)]) rfl (Nat.le_of_ble_eq_true rfl) (by omega) ?_
  refine me1 (pc' := 1) (L' := [(0, .ref 102), (1, ii verb), (2, ii (hd : Int)), (3, ii place)]) (S' := [.ref 102]) dm_X12_monad_0 rfl rfl rfl rfl ?_
  refine me1 (pc' := 2) (L' := [(0, .ref 102), (1, ii verb), (2, ii (hd : Int)), (3, ii place)]) (S' := [ii (hd : Int), .ref 102]) dm_X12_monad_1 rfl rfl rfl rfl ?_
  refine x_cp (pc' := 5) (v := ii (vk v : Int)) (rest := []) dm_X12_monad_2 rfl (q_inv (As := [ii (hd : Int)]) (S := []) hm rfl rfl rfl) rfl rfl rfl (r_kindOf_ (e := 6) hm (by omega) hB0 hv) ?_
  refine me1 (pc' := 7) (L' := [(4, ii (vk v : Int)), (0, .ref 102), (1, ii verb), (2, ii (hd : Int)), (3, ii place)]) (S' := []) dm_X12_monad_5 rfl rfl rfl rfl ?_
  refine me1 (pc' := 8) (L' := [(4, ii (vk v : Int)), (0, .ref 102), (1, ii verb), (2, ii (hd : Int)), (3, ii place)]) (S' := [.ref 102]) dm_X12_monad_7 rfl rfl rfl rfl ?_
  refine me0 (pc' := 9) (S' := [ii 3, .ref 102]) dm_X12_monad_8 rfl rfl rfl rfl ?_
  refine me1 (pc' := 10) (L' := [(4, ii (vk v : Int)), (0, .ref 102), (1, ii verb), (2, ii (hd : Int)), (3, ii place)]) (S' := [.ref 102, ii 3, .ref 102]) dm_X12_monad_9 rfl rfl rfl rfl ?_
  refine me1 (pc' := 11) (L' := [(4, ii (vk v : Int)), (0, .ref 102), (1, ii verb), (2, ii (hd : Int)), (3, ii place)]) (S' := [ii (hd : Int), .ref 102, ii 3, .ref 102]) dm_X12_monad_10 rfl rfl rfl rfl ?_
  refine x_cp (pc' := 14) (v := ii (vsz 7 v : Int)) (rest := [ii 3, .ref 102]) dm_X12_monad_11 rfl (q_inv (As := [ii (hd : Int)]) (S := [ii 3, .ref 102]) hm rfl rfl rfl) rfl rfl rfl (r_sizeOf_ hm hB0 7 (by omega) hv) ?_
  refine y_iadd (a := 3) (b := (vsz 7 v : Int)) dm_X12_monad_14 (pc' := 15) rfl ?_
  refine pg_st (S' := [ii ((3 + vS v : Nat) : Int), .ref 102]) (congrArg (fun z => ii z :: [.ref 102]) (show 3 + (vsz 7 v : Int) = ((3 + vS v : Nat) : Int) by show _ = ((3 + vsz 7 v : Nat) : Int); omega)) ?_
  have hvS : vS v = vsz 7 v := rfl
  by_cases hW : W < 3 + vS v
  · refine me1 (pc' := 16) (L' := [(4, ii (vk v : Int)), (0, .ref 102), (1, ii verb), (2, ii (hd : Int)), (3, ii place)]) (S' := [ii place, ii ((3 + vS v : Nat) : Int), .ref 102]) dm_X12_monad_15 rfl rfl rfl rfl ?_
    refine x_cv (pc' := 19) (rest := []) dm_X12_monad_16 rfl (q_inv (As := [ii ((3 + vS v : Nat) : Int), ii place]) (S := []) hm rfl rfl rfl) rfl rfl rfl ((by have z := r_takes_ (xt := xt) (d := d - 1) (pre := pre) (post := post) (s := s) (n := ((3 + vS v : Nat) : Int)) (place := place) hm (by omega) he0 hca.1 hca.2 (by omega) (by omega) (by omega); rw [tkS_f (by omega), decide_eq_false (by omega)] at z; exact z)) ?_
    rintro _ _ ⟨rfl, rfl⟩
    refine me_1f (pc' := 22) dm_X12_monad_19 rfl (by decide) rfl ?_
    refine me0 (pc' := 23) (S' := [ii (-1)]) dm_X12_monad_22 rfl rfl rfl rfl ?_
    refine y_ret (r := some (ii (-1))) dm_X12_monad_23 rfl rfl rfl ?_
    refine ⟨_, rfl, ?_⟩
    rw [show dOne (cpS s) W verb v place = dEr (cpS s) W 10 place from dAc_no hW]
    exact tk_no (n := 0) he0 h8 hnd
  · refine me1 (pc' := 16) (L' := [(4, ii (vk v : Int)), (0, .ref 102), (1, ii verb), (2, ii (hd : Int)), (3, ii place)]) (S' := [ii place, ii ((3 + vS v : Nat) : Int), .ref 102]) dm_X12_monad_15 rfl rfl rfl rfl ?_
    refine x_cv (pc' := 19) (rest := []) dm_X12_monad_16 rfl (q_inv (As := [ii ((3 + vS v : Nat) : Int), ii place]) (S := []) hm rfl rfl rfl) rfl rfl rfl ((by have z := r_takes_ (xt := xt) (d := d - 1) (pre := pre) (post := post) (s := s) (n := ((3 + vS v : Nat) : Int)) (place := place) hm (by omega) he0 hca.1 hca.2 (by omega) (by omega) (by omega); rw [tkS_t (by omega), decide_eq_true (by omega)] at z; exact z)) ?_
    rintro _ _ ⟨rfl, rfl⟩
    refine me_1t (pc' := 24) dm_X12_monad_19 rfl (by decide) ?_
    refine me1 (pc' := 25) (L' := [(4, ii (vk v : Int)), (0, .ref 102), (1, ii verb), (2, ii (hd : Int)), (3, ii place)]) (S' := [.ref 102]) dm_X12_monad_24 rfl rfl rfl rfl ?_
    refine me0 (pc' := 26) (S' := [ii 0, .ref 102]) dm_X12_monad_25 rfl rfl rfl rfl ?_
    refine me3 (pc' := 29) (S' := []) (h1 := rI pre post (va_up ((takeS s ((3 + vS v : Nat) : Int)).1) 9 0) ((takeS s ((3 + vS v : Nat) : Int)).2.1) ((takeS s ((3 + vS v : Nat) : Int)).2.2.1) ((takeS s ((3 + vS v : Nat) : Int)).2.2.2)) dm_X12_monad_26 (q_puti hm rfl rfl (fun m i l v => rf_9 m i l v)) rfl rfl rfl ?_
    obtain ⟨s2, hs2⟩ : ∃ s2 : RS, s2 = (va_up (takeS s ((3 + vS v : Nat) : Int)).1 9 0, (takeS s ((3 + vS v : Nat) : Int)).2.1, (takeS s ((3 + vS v : Nat) : Int)).2.2.1, (takeS s ((3 + vS v : Nat) : Int)).2.2.2) := ⟨_, rfl⟩
    have hT := tk_tkd (W := W) hs2 he0 h8 (by omega)
    have hqS : s2.1 4 = (q : Int) := hT.2.2.2.1.trans hq
    have hbS : s2.1 3 = (b : Int) := hT.2.2.1.trans hb
    have heS : s2.1 5 = 0 := hT.2.2.2.2.1
    have hwS : s2.1 13 = (base : Int) := hT.2.2.2.2.2.2.1.trans hw13
    have hcaS : 0 ≤ s2.1 10 ∧ s2.1 10 ≤ 100 := by rw [hT.2.1.1 10 (by decide) (by decide) (by decide) (by decide) (by decide) (by decide) (by decide) (by decide) (by decide) (by decide)]; exact hca
    have hBs : rB s2 := ⟨by omega, by omega, by omega, by omega⟩
    have hvs := rv_ext hT.1 hh3 hv
    have hrs := hRS verb v (rv_wf hv) hz1 hz2
    have hww : W - (3 + vS v) + (3 + vS v) = W := by omega
    refine pg_cast (h2 := rI pre post s2.1 s2.2.1 s2.2.2.1 s2.2.2.2) (by rw [hs2]) ?_
    refine me1 (pc' := 30) (L' := [(4, ii (vk v : Int)), (0, .ref 102), (1, ii verb), (2, ii (hd : Int)), (3, ii place)]) (S' := [ii verb]) dm_X12_monad_29 rfl rfl rfl rfl ?_
    have hsp : s_one verb 6 v = m_grp v := by unfold s_one; rw [if_neg (by omega), if_neg (by omega), if_neg (by omega), if_neg (by omega), if_neg (by omega), if_neg (by omega), if_pos (by omega)]
    refine y_sw (a := verb) (33) (t := 413) (i := .lookupswitch 547 #[(33, 383), (35, 505), (37, 176), (38, 218), (42, 189), (43, 154), (44, 482), (45, 176), (46, 493), (60, 294), (61, 359), (62, 294), (63, 371), (64, 533), (94, 294), (95, 522), (124, 230), (126, 176)]) (len := 154) dm_X12_monad_30 rfl rfl rfl (by omega) (by decide) (fun hb1 => ?_) (fun hb1 => ?_)
    · exfalso; omega
    refine y_sw (a := verb) (35) (t := 535) (i := .lookupswitch 547 #[(33, 383), (35, 505), (37, 176), (38, 218), (42, 189), (43, 154), (44, 482), (45, 176), (46, 493), (60, 294), (61, 359), (62, 294), (63, 371), (64, 533), (94, 294), (95, 522), (124, 230), (126, 176)]) (len := 154) dm_X12_monad_30 rfl rfl rfl (by omega) (by decide) (fun hb2 => ?_) (fun hb2 => ?_)
    · exfalso; omega
    refine y_sw (a := verb) (37) (t := 206) (i := .lookupswitch 547 #[(33, 383), (35, 505), (37, 176), (38, 218), (42, 189), (43, 154), (44, 482), (45, 176), (46, 493), (60, 294), (61, 359), (62, 294), (63, 371), (64, 533), (94, 294), (95, 522), (124, 230), (126, 176)]) (len := 154) dm_X12_monad_30 rfl rfl rfl (by omega) (by decide) (fun hb3 => ?_) (fun hb3 => ?_)
    · exfalso; omega
    refine y_sw (a := verb) (38) (t := 248) (i := .lookupswitch 547 #[(33, 383), (35, 505), (37, 176), (38, 218), (42, 189), (43, 154), (44, 482), (45, 176), (46, 493), (60, 294), (61, 359), (62, 294), (63, 371), (64, 533), (94, 294), (95, 522), (124, 230), (126, 176)]) (len := 154) dm_X12_monad_30 rfl rfl rfl (by omega) (by decide) (fun hb4 => ?_) (fun hb4 => ?_)
    · exfalso; omega
    refine y_sw (a := verb) (42) (t := 219) (i := .lookupswitch 547 #[(33, 383), (35, 505), (37, 176), (38, 218), (42, 189), (43, 154), (44, 482), (45, 176), (46, 493), (60, 294), (61, 359), (62, 294), (63, 371), (64, 533), (94, 294), (95, 522), (124, 230), (126, 176)]) (len := 154) dm_X12_monad_30 rfl rfl rfl (by omega) (by decide) (fun hb5 => ?_) (fun hb5 => ?_)
    · exfalso; omega
    refine y_sw (a := verb) (43) (t := 184) (i := .lookupswitch 547 #[(33, 383), (35, 505), (37, 176), (38, 218), (42, 189), (43, 154), (44, 482), (45, 176), (46, 493), (60, 294), (61, 359), (62, 294), (63, 371), (64, 533), (94, 294), (95, 522), (124, 230), (126, 176)]) (len := 154) dm_X12_monad_30 rfl rfl rfl (by omega) (by decide) (fun hb6 => ?_) (fun hb6 => ?_)
    · exfalso; omega
    refine y_sw (a := verb) (44) (t := 512) (i := .lookupswitch 547 #[(33, 383), (35, 505), (37, 176), (38, 218), (42, 189), (43, 154), (44, 482), (45, 176), (46, 493), (60, 294), (61, 359), (62, 294), (63, 371), (64, 533), (94, 294), (95, 522), (124, 230), (126, 176)]) (len := 154) dm_X12_monad_30 rfl rfl rfl (by omega) (by decide) (fun hb7 => ?_) (fun hb7 => ?_)
    · exfalso; omega
    refine y_sw (a := verb) (45) (t := 206) (i := .lookupswitch 547 #[(33, 383), (35, 505), (37, 176), (38, 218), (42, 189), (43, 154), (44, 482), (45, 176), (46, 493), (60, 294), (61, 359), (62, 294), (63, 371), (64, 533), (94, 294), (95, 522), (124, 230), (126, 176)]) (len := 154) dm_X12_monad_30 rfl rfl rfl (by omega) (by decide) (fun hb8 => ?_) (fun hb8 => ?_)
    · exfalso; omega
    refine y_sw (a := verb) (46) (t := 523) (i := .lookupswitch 547 #[(33, 383), (35, 505), (37, 176), (38, 218), (42, 189), (43, 154), (44, 482), (45, 176), (46, 493), (60, 294), (61, 359), (62, 294), (63, 371), (64, 533), (94, 294), (95, 522), (124, 230), (126, 176)]) (len := 154) dm_X12_monad_30 rfl rfl rfl (by omega) (by decide) (fun hb9 => ?_) (fun hb9 => ?_)
    · exfalso; omega
    refine y_sw (a := verb) (60) (t := 324) (i := .lookupswitch 547 #[(33, 383), (35, 505), (37, 176), (38, 218), (42, 189), (43, 154), (44, 482), (45, 176), (46, 493), (60, 294), (61, 359), (62, 294), (63, 371), (64, 533), (94, 294), (95, 522), (124, 230), (126, 176)]) (len := 154) dm_X12_monad_30 rfl rfl rfl (by omega) (by decide) (fun hb10 => ?_) (fun hb10 => ?_)
    · exfalso; omega
    refine y_sw (a := verb) (61) (t := 389) (i := .lookupswitch 547 #[(33, 383), (35, 505), (37, 176), (38, 218), (42, 189), (43, 154), (44, 482), (45, 176), (46, 493), (60, 294), (61, 359), (62, 294), (63, 371), (64, 533), (94, 294), (95, 522), (124, 230), (126, 176)]) (len := 154) dm_X12_monad_30 rfl rfl rfl (by omega) (by decide) (fun hb11 => ?_) (fun hb11 => ?_)
    · refine me1 (pc' := 390) (L' := [(4, ii (vk v : Int)), (0, .ref 102), (1, ii verb), (2, ii (hd : Int)), (3, ii place)]) (S' := [.ref 102]) dm_X12_monad_389 rfl rfl rfl rfl ?_
      refine me1 (pc' := 391) (L' := [(4, ii (vk v : Int)), (0, .ref 102), (1, ii verb), (2, ii (hd : Int)), (3, ii place)]) (S' := [.ref 102, .ref 102]) dm_X12_monad_390 rfl rfl rfl rfl ?_
      refine me1 (pc' := 392) (L' := [(4, ii (vk v : Int)), (0, .ref 102), (1, ii verb), (2, ii (hd : Int)), (3, ii place)]) (S' := [ii (hd : Int), .ref 102, .ref 102]) dm_X12_monad_391 rfl rfl rfl rfl ?_
      refine me1 (pc' := 393) (L' := [(4, ii (vk v : Int)), (0, .ref 102), (1, ii verb), (2, ii (hd : Int)), (3, ii place)]) (S' := [ii place, ii (hd : Int), .ref 102, .ref 102]) dm_X12_monad_392 rfl rfl rfl rfl ?_
      refine x_cv (pc' := 396) (rest := [.ref 102]) dm_X12_monad_393 rfl (q_inv (As := [ii (hd : Int), ii place]) (S := [.ref 102]) hm rfl rfl rfl) rfl rfl rfl (r_groups_ (e := 6) (q := q) (b := b) (s := s2) (place := place) hm (by omega) hBs hvs hh3 hqS hbS hq3 (by omega) heS hcaS (by omega) (by omega) hwS hbs) ?_
      rintro x1 g1 hres
      have hG : rG pre post s2 8 (m_grp v) place ((vm v + min 24 (grN v))) ((1 + min 24 (grN v))) x1 g1 := rG_P hres
      obtain ⟨z1, rfl⟩ := rG_ii hG
      obtain ⟨t1, rfl⟩ := rG_st hG
      refine me1 (pc' := 397) (L' := [(4, ii (vk v : Int)), (0, .ref 102), (1, ii verb), (2, ii (hd : Int)), (3, ii place)]) (S' := [ii place, ii z1, .ref 102]) dm_X12_monad_396 rfl rfl rfl rfl ?_
      refine x_cv (pc' := 400) (rest := []) dm_X12_monad_397 rfl (q_inv (As := [ii z1, ii place]) (S := []) hm rfl rfl rfl) rfl rfl rfl (r_mdo (s := s) (s2 := s2) (W2 := W - (3 + vS v)) (cost := 3 + vS v) (p := 0) (C := (vm v + min 24 (grN v))) (V := (1 + min 24 (grN v))) (o := (m_grp v)) (c := 4) (nd := nd) hm (by omega) hT hB0 hG hca (by omega) (by omega) hnd (fun n hn => hrs.1 n (hsp.trans hn)) (fun r hr => (hrs.2 r (hsp.trans hr)).2) (by omega) (by omega) (by omega) (fun r hr _ _ => by have z := grp_ok hr; have y : vS v = vsz 7 v := rfl; omega)) ?_
      rintro x9 g9 hfin
      obtain ⟨z9, rfl⟩ := dres_ii hfin
      obtain ⟨t9, rfl⟩ := dres_st hfin
      refine y_ret (r := some (ii z9)) dm_X12_monad_400 rfl rfl rfl ?_
      have e9 : dOne (cpS s) W verb v place = dMo (cpS s) (W - (3 + vS v)) 0 ((m_grp v)) place := by unfold dOne; rw [dAc_mo (by omega), hsp]
      rw [hww] at hfin
      rw [e9]
      exact ⟨_, rfl, hfin⟩
    refine y_sw (a := verb) (62) (t := 324) (i := .lookupswitch 547 #[(33, 383), (35, 505), (37, 176), (38, 218), (42, 189), (43, 154), (44, 482), (45, 176), (46, 493), (60, 294), (61, 359), (62, 294), (63, 371), (64, 533), (94, 294), (95, 522), (124, 230), (126, 176)]) (len := 154) dm_X12_monad_30 rfl rfl rfl (by omega) (by decide) (fun hb12 => ?_) (fun hb12 => ?_)
    · exfalso; omega
    refine y_sw (a := verb) (63) (t := 401) (i := .lookupswitch 547 #[(33, 383), (35, 505), (37, 176), (38, 218), (42, 189), (43, 154), (44, 482), (45, 176), (46, 493), (60, 294), (61, 359), (62, 294), (63, 371), (64, 533), (94, 294), (95, 522), (124, 230), (126, 176)]) (len := 154) dm_X12_monad_30 rfl rfl rfl (by omega) (by decide) (fun hb13 => ?_) (fun hb13 => ?_)
    · exfalso; omega
    refine y_sw (a := verb) (64) (t := 563) (i := .lookupswitch 547 #[(33, 383), (35, 505), (37, 176), (38, 218), (42, 189), (43, 154), (44, 482), (45, 176), (46, 493), (60, 294), (61, 359), (62, 294), (63, 371), (64, 533), (94, 294), (95, 522), (124, 230), (126, 176)]) (len := 154) dm_X12_monad_30 rfl rfl rfl (by omega) (by decide) (fun hb14 => ?_) (fun hb14 => ?_)
    · exfalso; omega
    refine y_sw (a := verb) (94) (t := 324) (i := .lookupswitch 547 #[(33, 383), (35, 505), (37, 176), (38, 218), (42, 189), (43, 154), (44, 482), (45, 176), (46, 493), (60, 294), (61, 359), (62, 294), (63, 371), (64, 533), (94, 294), (95, 522), (124, 230), (126, 176)]) (len := 154) dm_X12_monad_30 rfl rfl rfl (by omega) (by decide) (fun hb15 => ?_) (fun hb15 => ?_)
    · exfalso; omega
    refine y_sw (a := verb) (95) (t := 552) (i := .lookupswitch 547 #[(33, 383), (35, 505), (37, 176), (38, 218), (42, 189), (43, 154), (44, 482), (45, 176), (46, 493), (60, 294), (61, 359), (62, 294), (63, 371), (64, 533), (94, 294), (95, 522), (124, 230), (126, 176)]) (len := 154) dm_X12_monad_30 rfl rfl rfl (by omega) (by decide) (fun hb16 => ?_) (fun hb16 => ?_)
    · exfalso; omega
    refine y_sw (a := verb) (124) (t := 260) (i := .lookupswitch 547 #[(33, 383), (35, 505), (37, 176), (38, 218), (42, 189), (43, 154), (44, 482), (45, 176), (46, 493), (60, 294), (61, 359), (62, 294), (63, 371), (64, 533), (94, 294), (95, 522), (124, 230), (126, 176)]) (len := 154) dm_X12_monad_30 rfl rfl rfl (by omega) (by decide) (fun hb17 => ?_) (fun hb17 => ?_)
    · exfalso; omega
    refine y_sw (a := verb) (126) (t := 206) (i := .lookupswitch 547 #[(33, 383), (35, 505), (37, 176), (38, 218), (42, 189), (43, 154), (44, 482), (45, 176), (46, 493), (60, 294), (61, 359), (62, 294), (63, 371), (64, 533), (94, 294), (95, 522), (124, 230), (126, 176)]) (len := 154) dm_X12_monad_30 rfl rfl rfl (by omega) (by decide) (fun hb18 => ?_) (fun hb18 => ?_)
    · exfalso; omega
    exfalso; omega
theorem dm_X12_monad_401 : mj_dec prog_14_method_29_code 401 = some (.aload_n 0, 1) := by decide +kernel
theorem dm_X12_monad_402 : mj_dec prog_14_method_29_code 402 = some (.aload_n 0, 1) := by decide +kernel
theorem dm_X12_monad_403 : mj_dec prog_14_method_29_code 403 = some (.iload_n 2, 1) := by decide +kernel
theorem dm_X12_monad_404 : mj_dec prog_14_method_29_code 404 = some (.iload_n 3, 1) := by decide +kernel
theorem dm_X12_monad_405 : mj_dec prog_14_method_29_code 405 = some (.invokevirtual 236, 3) := by decide +kernel
theorem dm_X12_monad_408 : mj_dec prog_14_method_29_code 408 = some (.iload_n 3, 1) := by decide +kernel
theorem dm_X12_monad_409 : mj_dec prog_14_method_29_code 409 = some (.invokevirtual 208, 3) := by decide +kernel
theorem dm_X12_monad_412 : mj_dec prog_14_method_29_code 412 = some (.ireturn, 1) := by decide +kernel
theorem r_mon63 {xt : mj_X} {d hd q b base W : Nat} {pre post : mj_H} {s : RS} {v : VV} {place nd verb : Int} (hm : pre.length = 102) (hd1 : 60 ≤ d) (hRS : RSO) (hB : rB s) (hv : rv s 7 hd v) (hh3 : 3 ≤ hd) (hz1 : vsz 7 v ≤ 1000) (hz2 : vlv 7 v ≤ 5) (hq : s.1 4 = (q : Int)) (hb : s.1 3 = (b : Int)) (hq3 : 3 ≤ q) (hV2 : q + 2100 < 310000) (he0 : s.1 5 = 0) (hca : 0 ≤ s.1 10 ∧ s.1 10 ≤ 100) (hC : b + 291000 ≤ 820000) (hw13 : s.1 13 = (base : Int)) (hbs : base ≤ 7900) (h8 : s.1 8 = (W : Int)) (hW5 : W ≤ 500000) (hnd : 0 ≤ nd) (hvb : verb = 63) : pgV xt d 281 [.ref 102, ii verb, ii (hd : Int), ii place] (rS pre post s) (dres pre post s W 4 nd (dOne (cpS s) W verb v place)) := by
  have hB0 := hB
  obtain ⟨hB1, hB2, hB3, hB4⟩ := hB
  obtain ⟨fr, hfr, hsh, hlt, hcl, hvk, hvm, hvc, hvq, hvcl⟩ := rv_val hv
  have hvb2 : -2147483648 ≤ verb ∧ verb ≤ 2147483647 := by omega
  refine x_enter pm_X12_monad (L0 := [(0, .ref 102), (1, ii verb), (2, ii (hd : Int)), (3, ii place)]) rfl (Nat.le_of_ble_eq_true rfl) (by omega) ?_
  refine me1 (pc' := 1) (L' := [(0, .ref 102), (1, ii verb), (2, ii (hd : Int)), (3, ii place)]) (S' := [.ref 102]) dm_X12_monad_0 rfl rfl rfl rfl ?_
  refine me1 (pc' := 2) (L' := [(0, .ref 102), (1, ii verb), (2, ii (hd : Int)), (3, ii place)]) (S' := [ii (hd : Int), .ref 102]) dm_X12_monad_1 rfl rfl rfl rfl ?_
  refine x_cp (pc' := 5) (v := ii (vk v : Int)) (rest := []) dm_X12_monad_2 rfl (q_inv (As := [ii (hd : Int)]) (S := []) hm rfl rfl rfl) rfl rfl rfl (r_kindOf_ (e := 6) hm (by omega) hB0 hv) ?_
  refine me1 (pc' := 7) (L' := [(4, ii (vk v : Int)), (0, .ref 102), (1, ii verb), (2, ii (hd : Int)), (3, ii place)]) (S' := []) dm_X12_monad_5 rfl rfl rfl rfl ?_
  refine me1 (pc' := 8) (L' := [(4, ii (vk v : Int)), (0, .ref 102), (1, ii verb), (2, ii (hd : Int)), (3, ii place)]) (S' := [.ref 102]) dm_X12_monad_7 rfl rfl rfl rfl ?_
  refine me0 (pc' := 9) (S' := [ii 3, .ref 102]) dm_X12_monad_8 rfl rfl rfl rfl ?_
  refine me1 (pc' := 10) (L' := [(4, ii (vk v : Int)), (0, .ref 102), (1, ii verb), (2, ii (hd : Int)), (3, ii place)]) (S' := [.ref 102, ii 3, .ref 102]) dm_X12_monad_9 rfl rfl rfl rfl ?_
  refine me1 (pc' := 11) (L' := [(4, ii (vk v : Int)), (0, .ref 102), (1, ii verb), (2, ii (hd : Int)), (3, ii place)]) (S' := [ii (hd : Int), .ref 102, ii 3, .ref 102]) dm_X12_monad_10 rfl rfl rfl rfl ?_
  refine x_cp (pc' := 14) (v := ii (vsz 7 v : Int)) (rest := [ii 3, .ref 102]) dm_X12_monad_11 rfl (q_inv (As := [ii (hd : Int)]) (S := [ii 3, .ref 102]) hm rfl rfl rfl) rfl rfl rfl (r_sizeOf_ hm hB0 7 (by omega) hv) ?_
  refine y_iadd (a := 3) (b := (vsz 7 v : Int)) dm_X12_monad_14 (pc' := 15) rfl ?_
  refine pg_st (S' := [ii ((3 + vS v : Nat) : Int), .ref 102]) (congrArg (fun z => ii z :: [.ref 102]) (show 3 + (vsz 7 v : Int) = ((3 + vS v : Nat) : Int) by show _ = ((3 + vsz 7 v : Nat) : Int); omega)) ?_
  have hvS : vS v = vsz 7 v := rfl
  by_cases hW : W < 3 + vS v
  · refine me1 (pc' := 16) (L' := [(4, ii (vk v : Int)), (0, .ref 102), (1, ii verb), (2, ii (hd : Int)), (3, ii place)]) (S' := [ii place, ii ((3 + vS v : Nat) : Int), .ref 102]) dm_X12_monad_15 rfl rfl rfl rfl ?_
    refine x_cv (pc' := 19) (rest := []) dm_X12_monad_16 rfl (q_inv (As := [ii ((3 + vS v : Nat) : Int), ii place]) (S := []) hm rfl rfl rfl) rfl rfl rfl ((by have z := r_takes_ (xt := xt) (d := d - 1) (pre := pre) (post := post) (s := s) (n := ((3 + vS v : Nat) : Int)) (place := place) hm (by omega) he0 hca.1 hca.2 (by omega) (by omega) (by omega); rw [tkS_f (by omega), decide_eq_false (by omega)] at z; exact z)) ?_
    rintro _ _ ⟨rfl, rfl⟩
    refine me_1f (pc' := 22) dm_X12_monad_19 rfl (by decide) rfl ?_
    refine me0 (pc' := 23) (S' := [ii (-1)]) dm_X12_monad_22 rfl rfl rfl rfl ?_
    refine y_ret (r := some (ii (-1))) dm_X12_monad_23 rfl rfl rfl ?_
    refine ⟨_, rfl, ?_⟩
    rw [show dOne (cpS s) W verb v place = dEr (cpS s) W 10 place from dAc_no hW]
    exact tk_no (n := 0) he0 h8 hnd
  · refine me1 (pc' := 16) (L' := [(4, ii (vk v : Int)), (0, .ref 102), (1, ii verb), (2, ii (hd : Int)), (3, ii place)]) (S' := [ii place, ii ((3 + vS v : Nat) : Int), .ref 102]) dm_X12_monad_15 rfl rfl rfl rfl ?_
    refine x_cv (pc' := 19) (rest := []) dm_X12_monad_16 rfl (q_inv (As := [ii ((3 + vS v : Nat) : Int), ii place]) (S := []) hm rfl rfl rfl) rfl rfl rfl ((by have z := r_takes_ (xt := xt) (d := d - 1) (pre := pre) (post := post) (s := s) (n := ((3 + vS v : Nat) : Int)) (place := place) hm (by omega) he0 hca.1 hca.2 (by omega) (by omega) (by omega); rw [tkS_t (by omega), decide_eq_true (by omega)] at z; exact z)) ?_
    rintro _ _ ⟨rfl, rfl⟩
    refine me_1t (pc' := 24) dm_X12_monad_19 rfl (by decide) ?_
    refine me1 (pc' := 25) (L' := [(4, ii (vk v : Int)), (0, .ref 102), (1, ii verb), (2, ii (hd : Int)), (3, ii place)]) (S' := [.ref 102]) dm_X12_monad_24 rfl rfl rfl rfl ?_
    refine me0 (pc' := 26) (S' := [ii 0, .ref 102]) dm_X12_monad_25 rfl rfl rfl rfl ?_
    refine me3 (pc' := 29) (S' := []) (h1 := rI pre post (va_up ((takeS s ((3 + vS v : Nat) : Int)).1) 9 0) ((takeS s ((3 + vS v : Nat) : Int)).2.1) ((takeS s ((3 + vS v : Nat) : Int)).2.2.1) ((takeS s ((3 + vS v : Nat) : Int)).2.2.2)) dm_X12_monad_26 (q_puti hm rfl rfl (fun m i l v => rf_9 m i l v)) rfl rfl rfl ?_
    obtain ⟨s2, hs2⟩ : ∃ s2 : RS, s2 = (va_up (takeS s ((3 + vS v : Nat) : Int)).1 9 0, (takeS s ((3 + vS v : Nat) : Int)).2.1, (takeS s ((3 + vS v : Nat) : Int)).2.2.1, (takeS s ((3 + vS v : Nat) : Int)).2.2.2) := ⟨_, rfl⟩
    have hT := tk_tkd (W := W) hs2 he0 h8 (by omega)
    have hqS : s2.1 4 = (q : Int) := hT.2.2.2.1.trans hq
    have hbS : s2.1 3 = (b : Int) := hT.2.2.1.trans hb
    have heS : s2.1 5 = 0 := hT.2.2.2.2.1
    have hwS : s2.1 13 = (base : Int) := hT.2.2.2.2.2.2.1.trans hw13
    have hcaS : 0 ≤ s2.1 10 ∧ s2.1 10 ≤ 100 := by rw [hT.2.1.1 10 (by decide) (by decide) (by decide) (by decide) (by decide) (by decide) (by decide) (by decide) (by decide) (by decide)]; exact hca
    have hBs : rB s2 := ⟨by omega, by omega, by omega, by omega⟩
    have hvs := rv_ext hT.1 hh3 hv
    have hrs := hRS verb v (rv_wf hv) hz1 hz2
    have hww : W - (3 + vS v) + (3 + vS v) = W := by omega
    refine pg_cast (h2 := rI pre post s2.1 s2.2.1 s2.2.2.1 s2.2.2.2) (by rw [hs2]) ?_
    refine me1 (pc' := 30) (L' := [(4, ii (vk v : Int)), (0, .ref 102), (1, ii verb), (2, ii (hd : Int)), (3, ii place)]) (S' := [ii verb]) dm_X12_monad_29 rfl rfl rfl rfl ?_
    have hsp : s_one verb 6 v = m_unl 7 v := by unfold s_one; rw [if_neg (by omega), if_neg (by omega), if_neg (by omega), if_neg (by omega), if_neg (by omega), if_neg (by omega), if_neg (by omega), if_pos (by omega)]
    refine y_sw (a := verb) (33) (t := 413) (i := .lookupswitch 547 #[(33, 383), (35, 505), (37, 176), (38, 218), (42, 189), (43, 154), (44, 482), (45, 176), (46, 493), (60, 294), (61, 359), (62, 294), (63, 371), (64, 533), (94, 294), (95, 522), (124, 230), (126, 176)]) (len := 154) dm_X12_monad_30 rfl rfl rfl (by omega) (by decide) (fun hb1 => ?_) (fun hb1 => ?_)
    · exfalso; omega
    refine y_sw (a := verb) (35) (t := 535) (i := .lookupswitch 547 #[(33, 383), (35, 505), (37, 176), (38, 218), (42, 189), (43, 154), (44, 482), (45, 176), (46, 493), (60, 294), (61, 359), (62, 294), (63, 371), (64, 533), (94, 294), (95, 522), (124, 230), (126, 176)]) (len := 154) dm_X12_monad_30 rfl rfl rfl (by omega) (by decide) (fun hb2 => ?_) (fun hb2 => ?_)
    · exfalso; omega
    refine y_sw (a := verb) (37) (t := 206) (i := .lookupswitch 547 #[(33, 383), (35, 505), (37, 176), (38, 218), (42, 189), (43, 154), (44, 482), (45, 176), (46, 493), (60, 294), (61, 359), (62, 294), (63, 371), (64, 533), (94, 294), (95, 522), (124, 230), (126, 176)]) (len := 154) dm_X12_monad_30 rfl rfl rfl (by omega) (by decide) (fun hb3 => ?_) (fun hb3 => ?_)
    · exfalso; omega
    refine y_sw (a := verb) (38) (t := 248) (i := .lookupswitch 547 #[(33, 383), (35, 505), (37, 176), (38, 218), (42, 189), (43, 154), (44, 482), (45, 176), (46, 493), (60, 294), (61, 359), (62, 294), (63, 371), (64, 533), (94, 294), (95, 522), (124, 230), (126, 176)]) (len := 154) dm_X12_monad_30 rfl rfl rfl (by omega) (by decide) (fun hb4 => ?_) (fun hb4 => ?_)
    · exfalso; omega
    refine y_sw (a := verb) (42) (t := 219) (i := .lookupswitch 547 #[(33, 383), (35, 505), (37, 176), (38, 218), (42, 189), (43, 154), (44, 482), (45, 176), (46, 493), (60, 294), (61, 359), (62, 294), (63, 371), (64, 533), (94, 294), (95, 522), (124, 230), (126, 176)]) (len := 154) dm_X12_monad_30 rfl rfl rfl (by omega) (by decide) (fun hb5 => ?_) (fun hb5 => ?_)
    · exfalso; omega
    refine y_sw (a := verb) (43) (t := 184) (i := .lookupswitch 547 #[(33, 383), (35, 505), (37, 176), (38, 218), (42, 189), (43, 154), (44, 482), (45, 176), (46, 493), (60, 294), (61, 359), (62, 294), (63, 371), (64, 533), (94, 294), (95, 522), (124, 230), (126, 176)]) (len := 154) dm_X12_monad_30 rfl rfl rfl (by omega) (by decide) (fun hb6 => ?_) (fun hb6 => ?_)
    · exfalso; omega
    refine y_sw (a := verb) (44) (t := 512) (i := .lookupswitch 547 #[(33, 383), (35, 505), (37, 176), (38, 218), (42, 189), (43, 154), (44, 482), (45, 176), (46, 493), (60, 294), (61, 359), (62, 294), (63, 371), (64, 533), (94, 294), (95, 522), (124, 230), (126, 176)]) (len := 154) dm_X12_monad_30 rfl rfl rfl (by omega) (by decide) (fun hb7 => ?_) (fun hb7 => ?_)
    · exfalso; omega
    refine y_sw (a := verb) (45) (t := 206) (i := .lookupswitch 547 #[(33, 383), (35, 505), (37, 176), (38, 218), (42, 189), (43, 154), (44, 482), (45, 176), (46, 493), (60, 294), (61, 359), (62, 294), (63, 371), (64, 533), (94, 294), (95, 522), (124, 230), (126, 176)]) (len := 154) dm_X12_monad_30 rfl rfl rfl (by omega) (by decide) (fun hb8 => ?_) (fun hb8 => ?_)
    · exfalso; omega
    refine y_sw (a := verb) (46) (t := 523) (i := .lookupswitch 547 #[(33, 383), (35, 505), (37, 176), (38, 218), (42, 189), (43, 154), (44, 482), (45, 176), (46, 493), (60, 294), (61, 359), (62, 294), (63, 371), (64, 533), (94, 294), (95, 522), (124, 230), (126, 176)]) (len := 154) dm_X12_monad_30 rfl rfl rfl (by omega) (by decide) (fun hb9 => ?_) (fun hb9 => ?_)
    · exfalso; omega
    refine y_sw (a := verb) (60) (t := 324) (i := .lookupswitch 547 #[(33, 383), (35, 505), (37, 176), (38, 218), (42, 189), (43, 154), (44, 482), (45, 176), (46, 493), (60, 294), (61, 359), (62, 294), (63, 371), (64, 533), (94, 294), (95, 522), (124, 230), (126, 176)]) (len := 154) dm_X12_monad_30 rfl rfl rfl (by omega) (by decide) (fun hb10 => ?_) (fun hb10 => ?_)
    · exfalso; omega
    refine y_sw (a := verb) (61) (t := 389) (i := .lookupswitch 547 #[(33, 383), (35, 505), (37, 176), (38, 218), (42, 189), (43, 154), (44, 482), (45, 176), (46, 493), (60, 294), (61, 359), (62, 294), (63, 371), (64, 533), (94, 294), (95, 522), (124, 230), (126, 176)]) (len := 154) dm_X12_monad_30 rfl rfl rfl (by omega) (by decide) (fun hb11 => ?_) (fun hb11 => ?_)
    · exfalso; omega
    refine y_sw (a := verb) (62) (t := 324) (i := .lookupswitch 547 #[(33, 383), (35, 505), (37, 176), (38, 218), (42, 189), (43, 154), (44, 482), (45, 176), (46, 493), (60, 294), (61, 359), (62, 294), (63, 371), (64, 533), (94, 294), (95, 522), (124, 230), (126, 176)]) (len := 154) dm_X12_monad_30 rfl rfl rfl (by omega) (by decide) (fun hb12 => ?_) (fun hb12 => ?_)
    · exfalso; omega
    refine y_sw (a := verb) (63) (t := 401) (i := .lookupswitch 547 #[(33, 383), (35, 505), (37, 176), (38, 218), (42, 189), (43, 154), (44, 482), (45, 176), (46, 493), (60, 294), (61, 359), (62, 294), (63, 371), (64, 533), (94, 294), (95, 522), (124, 230), (126, 176)]) (len := 154) dm_X12_monad_30 rfl rfl rfl (by omega) (by decide) (fun hb13 => ?_) (fun hb13 => ?_)
    · refine me1 (pc' := 402) (L' := [(4, ii (vk v : Int)), (0, .ref 102), (1, ii verb), (2, ii (hd : Int)), (3, ii place)]) (S' := [.ref 102]) dm_X12_monad_401 rfl rfl rfl rfl ?_
      refine me1 (pc' := 403) (L' := [(4, ii (vk v : Int)), (0, .ref 102), (1, ii verb), (2, ii (hd : Int)), (3, ii place)]) (S' := [.ref 102, .ref 102]) dm_X12_monad_402 rfl rfl rfl rfl ?_
      refine me1 (pc' := 404) (L' := [(4, ii (vk v : Int)), (0, .ref 102), (1, ii verb), (2, ii (hd : Int)), (3, ii place)]) (S' := [ii (hd : Int), .ref 102, .ref 102]) dm_X12_monad_403 rfl rfl rfl rfl ?_
      refine me1 (pc' := 405) (L' := [(4, ii (vk v : Int)), (0, .ref 102), (1, ii verb), (2, ii (hd : Int)), (3, ii place)]) (S' := [ii place, ii (hd : Int), .ref 102, .ref 102]) dm_X12_monad_404 rfl rfl rfl rfl ?_
      refine x_cv (pc' := 408) (rest := [.ref 102]) dm_X12_monad_405 rfl (q_inv (As := [ii (hd : Int), ii place]) (S := [.ref 102]) hm rfl rfl rfl) rfl rfl rfl (r_unlikeT (e := 6) (q := q) (b := b) (s := s2) (place := place) hm (by omega) hBs hvs hh3 hqS hbS hq3 (by omega) heS hcaS (by omega) (by omega) hwS hbs) ?_
      rintro x1 g1 hres
      have hG : rG pre post s2 8 (m_unl 7 v) place ((rcb (m_unl 7 v) 144)) ((rvb (m_unl 7 v) ((unq (isame 7 v) (vm v)).1 + 1))) x1 g1 := rG_r hres
      obtain ⟨z1, rfl⟩ := rG_ii hG
      obtain ⟨t1, rfl⟩ := rG_st hG
      refine me1 (pc' := 409) (L' := [(4, ii (vk v : Int)), (0, .ref 102), (1, ii verb), (2, ii (hd : Int)), (3, ii place)]) (S' := [ii place, ii z1, .ref 102]) dm_X12_monad_408 rfl rfl rfl rfl ?_
      refine x_cv (pc' := 412) (rest := []) dm_X12_monad_409 rfl (q_inv (As := [ii z1, ii place]) (S := []) hm rfl rfl rfl) rfl rfl rfl (r_mdo (s := s) (s2 := s2) (W2 := W - (3 + vS v)) (cost := 3 + vS v) (p := 0) (C := (rcb (m_unl 7 v) 144)) (V := (rvb (m_unl 7 v) ((unq (isame 7 v) (vm v)).1 + 1))) (o := (m_unl 7 v)) (c := 4) (nd := nd) hm (by omega) hT hB0 hG hca (by omega) (by omega) hnd (fun n hn => hrs.1 n (hsp.trans hn)) (fun r hr => (hrs.2 r (hsp.trans hr)).2) (by have := rcb_le (o := m_unl 7 v) (cb := 144); omega) (by have := rvb_le (o := m_unl 7 v) (vb := (unq (isame 7 v) (vm v)).1 + 1); have := (unq_le (isame 7 v) (vm v)).1; omega) (by have := rcb_le (o := m_unl 7 v) (cb := 144); have := rvb_le (o := m_unl 7 v) (vb := (unq (isame 7 v) (vm v)).1 + 1); have := (unq_le (isame 7 v) (vm v)).1; omega) (fun r hr _ _ => by have z := unl_ok (rv_wf hv).1 hr; have y : vS v = vsz 7 v := rfl; have w1 : vcl r ≤ vsz 7 r := vcl_sz (d := 5) (hrs.2 r (hsp.trans hr)).1; have w2 : rcb (m_unl 7 v) 144 ≤ vcl r := (by rw [hr]; exact Nat.min_le_right _ _); omega)) ?_
      rintro x9 g9 hfin
      obtain ⟨z9, rfl⟩ := dres_ii hfin
      obtain ⟨t9, rfl⟩ := dres_st hfin
      refine y_ret (r := some (ii z9)) dm_X12_monad_412 rfl rfl rfl ?_
      have e9 : dOne (cpS s) W verb v place = dMo (cpS s) (W - (3 + vS v)) 0 ((m_unl 7 v)) place := by unfold dOne; rw [dAc_mo (by omega), hsp]
      rw [hww] at hfin
      rw [e9]
      exact ⟨_, rfl, hfin⟩
    refine y_sw (a := verb) (64) (t := 563) (i := .lookupswitch 547 #[(33, 383), (35, 505), (37, 176), (38, 218), (42, 189), (43, 154), (44, 482), (45, 176), (46, 493), (60, 294), (61, 359), (62, 294), (63, 371), (64, 533), (94, 294), (95, 522), (124, 230), (126, 176)]) (len := 154) dm_X12_monad_30 rfl rfl rfl (by omega) (by decide) (fun hb14 => ?_) (fun hb14 => ?_)
    · exfalso; omega
    refine y_sw (a := verb) (94) (t := 324) (i := .lookupswitch 547 #[(33, 383), (35, 505), (37, 176), (38, 218), (42, 189), (43, 154), (44, 482), (45, 176), (46, 493), (60, 294), (61, 359), (62, 294), (63, 371), (64, 533), (94, 294), (95, 522), (124, 230), (126, 176)]) (len := 154) dm_X12_monad_30 rfl rfl rfl (by omega) (by decide) (fun hb15 => ?_) (fun hb15 => ?_)
    · exfalso; omega
    refine y_sw (a := verb) (95) (t := 552) (i := .lookupswitch 547 #[(33, 383), (35, 505), (37, 176), (38, 218), (42, 189), (43, 154), (44, 482), (45, 176), (46, 493), (60, 294), (61, 359), (62, 294), (63, 371), (64, 533), (94, 294), (95, 522), (124, 230), (126, 176)]) (len := 154) dm_X12_monad_30 rfl rfl rfl (by omega) (by decide) (fun hb16 => ?_) (fun hb16 => ?_)
    · exfalso; omega
    refine y_sw (a := verb) (124) (t := 260) (i := .lookupswitch 547 #[(33, 383), (35, 505), (37, 176), (38, 218), (42, 189), (43, 154), (44, 482), (45, 176), (46, 493), (60, 294), (61, 359), (62, 294), (63, 371), (64, 533), (94, 294), (95, 522), (124, 230), (126, 176)]) (len := 154) dm_X12_monad_30 rfl rfl rfl (by omega) (by decide) (fun hb17 => ?_) (fun hb17 => ?_)
    · exfalso; omega
    refine y_sw (a := verb) (126) (t := 206) (i := .lookupswitch 547 #[(33, 383), (35, 505), (37, 176), (38, 218), (42, 189), (43, 154), (44, 482), (45, 176), (46, 493), (60, 294), (61, 359), (62, 294), (63, 371), (64, 533), (94, 294), (95, 522), (124, 230), (126, 176)]) (len := 154) dm_X12_monad_30 rfl rfl rfl (by omega) (by decide) (fun hb18 => ?_) (fun hb18 => ?_)
    · exfalso; omega
    exfalso; omega
theorem dm_X12_monad_206 : mj_dec prog_14_method_29_code 206 = some (.aload_n 0, 1) := by decide +kernel
theorem dm_X12_monad_207 : mj_dec prog_14_method_29_code 207 = some (.aload_n 0, 1) := by decide +kernel
theorem dm_X12_monad_208 : mj_dec prog_14_method_29_code 208 = some (.iload_n 1, 1) := by decide +kernel
theorem dm_X12_monad_209 : mj_dec prog_14_method_29_code 209 = some (.iload_n 2, 1) := by decide +kernel
theorem dm_X12_monad_210 : mj_dec prog_14_method_29_code 210 = some (.iload_n 3, 1) := by decide +kernel
theorem dm_X12_monad_211 : mj_dec prog_14_method_29_code 211 = some (.invokevirtual 214, 3) := by decide +kernel
theorem dm_X12_monad_214 : mj_dec prog_14_method_29_code 214 = some (.iload_n 3, 1) := by decide +kernel
theorem dm_X12_monad_215 : mj_dec prog_14_method_29_code 215 = some (.invokevirtual 208, 3) := by decide +kernel
theorem dm_X12_monad_218 : mj_dec prog_14_method_29_code 218 = some (.ireturn, 1) := by decide +kernel
theorem r_monP {xt : mj_X} {d hd q b base W : Nat} {pre post : mj_H} {s : RS} {v : VV} {place nd verb : Int} (hm : pre.length = 102) (hd1 : 60 ≤ d) (hRS : RSO) (hB : rB s) (hv : rv s 7 hd v) (hh3 : 3 ≤ hd) (hz1 : vsz 7 v ≤ 1000) (hz2 : vlv 7 v ≤ 5) (hq : s.1 4 = (q : Int)) (hb : s.1 3 = (b : Int)) (hq3 : 3 ≤ q) (hV2 : q + 2100 < 310000) (he0 : s.1 5 = 0) (hca : 0 ≤ s.1 10 ∧ s.1 10 ≤ 100) (hC : b + 291000 ≤ 820000) (hw13 : s.1 13 = (base : Int)) (hbs : base ≤ 7900) (h8 : s.1 8 = (W : Int)) (hW5 : W ≤ 500000) (hnd : 0 ≤ nd) (hvb : verb = 45 ∨ verb = 37 ∨ verb = 126) (hRP : RPA) : pgV xt d 281 [.ref 102, ii verb, ii (hd : Int), ii place] (rS pre post s) (dres pre post s W 4 nd (dOne (cpS s) W verb v place)) := by
  have hB0 := hB
  obtain ⟨hB1, hB2, hB3, hB4⟩ := hB
  obtain ⟨fr, hfr, hsh, hlt, hcl, hvk, hvm, hvc, hvq, hvcl⟩ := rv_val hv
  have hvb2 : -2147483648 ≤ verb ∧ verb ≤ 2147483647 := by omega
  refine x_enter pm_X12_monad (L0 := [(0, .ref 102), (1, ii verb), (2, ii (hd : Int)), (3, ii place)]) rfl (Nat.le_of_ble_eq_true rfl) (by omega) ?_
  refine me1 (pc' := 1) (L' := [(0, .ref 102), (1, ii verb), (2, ii (hd : Int)), (3, ii place)]) (S' := [.ref 102]) dm_X12_monad_0 rfl rfl rfl rfl ?_
  refine me1 (pc' := 2) (L' := [(0, .ref 102), (1, ii verb), (2, ii (hd : Int)), (3, ii place)]) (S' := [ii (hd : Int), .ref 102]) dm_X12_monad_1 rfl rfl rfl rfl ?_
  refine x_cp (pc' := 5) (v := ii (vk v : Int)) (rest := []) dm_X12_monad_2 rfl (q_inv (As := [ii (hd : Int)]) (S := []) hm rfl rfl rfl) rfl rfl rfl (r_kindOf_ (e := 6) hm (by omega) hB0 hv) ?_
  refine me1 (pc' := 7) (L' := [(4, ii (vk v : Int)), (0, .ref 102), (1, ii verb), (2, ii (hd : Int)), (3, ii place)]) (S' := []) dm_X12_monad_5 rfl rfl rfl rfl ?_
  refine me1 (pc' := 8) (L' := [(4, ii (vk v : Int)), (0, .ref 102), (1, ii verb), (2, ii (hd : Int)), (3, ii place)]) (S' := [.ref 102]) dm_X12_monad_7 rfl rfl rfl rfl ?_
  refine me0 (pc' := 9) (S' := [ii 3, .ref 102]) dm_X12_monad_8 rfl rfl rfl rfl ?_
  refine me1 (pc' := 10) (L' := [(4, ii (vk v : Int)), (0, .ref 102), (1, ii verb), (2, ii (hd : Int)), (3, ii place)]) (S' := [.ref 102, ii 3, .ref 102]) dm_X12_monad_9 rfl rfl rfl rfl ?_
  refine me1 (pc' := 11) (L' := [(4, ii (vk v : Int)), (0, .ref 102), (1, ii verb), (2, ii (hd : Int)), (3, ii place)]) (S' := [ii (hd : Int), .ref 102, ii 3, .ref 102]) dm_X12_monad_10 rfl rfl rfl rfl ?_
  refine x_cp (pc' := 14) (v := ii (vsz 7 v : Int)) (rest := [ii 3, .ref 102]) dm_X12_monad_11 rfl (q_inv (As := [ii (hd : Int)]) (S := [ii 3, .ref 102]) hm rfl rfl rfl) rfl rfl rfl (r_sizeOf_ hm hB0 7 (by omega) hv) ?_
  refine y_iadd (a := 3) (b := (vsz 7 v : Int)) dm_X12_monad_14 (pc' := 15) rfl ?_
  refine pg_st (S' := [ii ((3 + vS v : Nat) : Int), .ref 102]) (congrArg (fun z => ii z :: [.ref 102]) (show 3 + (vsz 7 v : Int) = ((3 + vS v : Nat) : Int) by show _ = ((3 + vsz 7 v : Nat) : Int); omega)) ?_
  have hvS : vS v = vsz 7 v := rfl
  by_cases hW : W < 3 + vS v
  · refine me1 (pc' := 16) (L' := [(4, ii (vk v : Int)), (0, .ref 102), (1, ii verb), (2, ii (hd : Int)), (3, ii place)]) (S' := [ii place, ii ((3 + vS v : Nat) : Int), .ref 102]) dm_X12_monad_15 rfl rfl rfl rfl ?_
    refine x_cv (pc' := 19) (rest := []) dm_X12_monad_16 rfl (q_inv (As := [ii ((3 + vS v : Nat) : Int), ii place]) (S := []) hm rfl rfl rfl) rfl rfl rfl ((by have z := r_takes_ (xt := xt) (d := d - 1) (pre := pre) (post := post) (s := s) (n := ((3 + vS v : Nat) : Int)) (place := place) hm (by omega) he0 hca.1 hca.2 (by omega) (by omega) (by omega); rw [tkS_f (by omega), decide_eq_false (by omega)] at z; exact z)) ?_
    rintro _ _ ⟨rfl, rfl⟩
    refine me_1f (pc' := 22) dm_X12_monad_19 rfl (by decide) rfl ?_
    refine me0 (pc' := 23) (S' := [ii (-1)]) dm_X12_monad_22 rfl rfl rfl rfl ?_
    refine y_ret (r := some (ii (-1))) dm_X12_monad_23 rfl rfl rfl ?_
    refine ⟨_, rfl, ?_⟩
    rw [show dOne (cpS s) W verb v place = dEr (cpS s) W 10 place from dAc_no hW]
    exact tk_no (n := 0) he0 h8 hnd
  · refine me1 (pc' := 16) (L' := [(4, ii (vk v : Int)), (0, .ref 102), (1, ii verb), (2, ii (hd : Int)), (3, ii place)]) (S' := [ii place, ii ((3 + vS v : Nat) : Int), .ref 102]) dm_X12_monad_15 rfl rfl rfl rfl ?_
    refine x_cv (pc' := 19) (rest := []) dm_X12_monad_16 rfl (q_inv (As := [ii ((3 + vS v : Nat) : Int), ii place]) (S := []) hm rfl rfl rfl) rfl rfl rfl ((by have z := r_takes_ (xt := xt) (d := d - 1) (pre := pre) (post := post) (s := s) (n := ((3 + vS v : Nat) : Int)) (place := place) hm (by omega) he0 hca.1 hca.2 (by omega) (by omega) (by omega); rw [tkS_t (by omega), decide_eq_true (by omega)] at z; exact z)) ?_
    rintro _ _ ⟨rfl, rfl⟩
    refine me_1t (pc' := 24) dm_X12_monad_19 rfl (by decide) ?_
    refine me1 (pc' := 25) (L' := [(4, ii (vk v : Int)), (0, .ref 102), (1, ii verb), (2, ii (hd : Int)), (3, ii place)]) (S' := [.ref 102]) dm_X12_monad_24 rfl rfl rfl rfl ?_
    refine me0 (pc' := 26) (S' := [ii 0, .ref 102]) dm_X12_monad_25 rfl rfl rfl rfl ?_
    refine me3 (pc' := 29) (S' := []) (h1 := rI pre post (va_up ((takeS s ((3 + vS v : Nat) : Int)).1) 9 0) ((takeS s ((3 + vS v : Nat) : Int)).2.1) ((takeS s ((3 + vS v : Nat) : Int)).2.2.1) ((takeS s ((3 + vS v : Nat) : Int)).2.2.2)) dm_X12_monad_26 (q_puti hm rfl rfl (fun m i l v => rf_9 m i l v)) rfl rfl rfl ?_
    obtain ⟨s2, hs2⟩ : ∃ s2 : RS, s2 = (va_up (takeS s ((3 + vS v : Nat) : Int)).1 9 0, (takeS s ((3 + vS v : Nat) : Int)).2.1, (takeS s ((3 + vS v : Nat) : Int)).2.2.1, (takeS s ((3 + vS v : Nat) : Int)).2.2.2) := ⟨_, rfl⟩
    have hT := tk_tkd (W := W) hs2 he0 h8 (by omega)
    have hqS : s2.1 4 = (q : Int) := hT.2.2.2.1.trans hq
    have hbS : s2.1 3 = (b : Int) := hT.2.2.1.trans hb
    have heS : s2.1 5 = 0 := hT.2.2.2.2.1
    have hwS : s2.1 13 = (base : Int) := hT.2.2.2.2.2.2.1.trans hw13
    have hcaS : 0 ≤ s2.1 10 ∧ s2.1 10 ≤ 100 := by rw [hT.2.1.1 10 (by decide) (by decide) (by decide) (by decide) (by decide) (by decide) (by decide) (by decide) (by decide) (by decide)]; exact hca
    have hBs : rB s2 := ⟨by omega, by omega, by omega, by omega⟩
    have hvs := rv_ext hT.1 hh3 hv
    have hrs := hRS verb v (rv_wf hv) hz1 hz2
    have hww : W - (3 + vS v) + (3 + vS v) = W := by omega
    refine pg_cast (h2 := rI pre post s2.1 s2.2.1 s2.2.2.1 s2.2.2.2) (by rw [hs2]) ?_
    refine me1 (pc' := 30) (L' := [(4, ii (vk v : Int)), (0, .ref 102), (1, ii verb), (2, ii (hd : Int)), (3, ii place)]) (S' := [ii verb]) dm_X12_monad_29 rfl rfl rfl rfl ?_
    have hsp : s_one verb 6 v = d_pair (vbo verb) 7 z0 v := by unfold s_one; rw [if_neg (by omega), if_pos (by omega)]
    have hpa := hRP z0 v (vwf_up (vwf_up (vwf_up (vwf_up (vwf_up (vwf_up z0_wf)))))) (rv_wf hv) (by rw [z0_sz]; omega) hz1
    have hz0s : vsz 7 z0 = 1 := z0_sz
    refine y_sw (a := verb) (33) (t := 413) (i := .lookupswitch 547 #[(33, 383), (35, 505), (37, 176), (38, 218), (42, 189), (43, 154), (44, 482), (45, 176), (46, 493), (60, 294), (61, 359), (62, 294), (63, 371), (64, 533), (94, 294), (95, 522), (124, 230), (126, 176)]) (len := 154) dm_X12_monad_30 rfl rfl rfl (by omega) (by decide) (fun hb1 => ?_) (fun hb1 => ?_)
    · exfalso; omega
    refine y_sw (a := verb) (35) (t := 535) (i := .lookupswitch 547 #[(33, 383), (35, 505), (37, 176), (38, 218), (42, 189), (43, 154), (44, 482), (45, 176), (46, 493), (60, 294), (61, 359), (62, 294), (63, 371), (64, 533), (94, 294), (95, 522), (124, 230), (126, 176)]) (len := 154) dm_X12_monad_30 rfl rfl rfl (by omega) (by decide) (fun hb2 => ?_) (fun hb2 => ?_)
    · exfalso; omega
    refine y_sw (a := verb) (37) (t := 206) (i := .lookupswitch 547 #[(33, 383), (35, 505), (37, 176), (38, 218), (42, 189), (43, 154), (44, 482), (45, 176), (46, 493), (60, 294), (61, 359), (62, 294), (63, 371), (64, 533), (94, 294), (95, 522), (124, 230), (126, 176)]) (len := 154) dm_X12_monad_30 rfl rfl rfl (by omega) (by decide) (fun hb3 => ?_) (fun hb3 => ?_)
    · refine me1 (pc' := 207) (L' := [(4, ii (vk v : Int)), (0, .ref 102), (1, ii verb), (2, ii (hd : Int)), (3, ii place)]) (S' := [.ref 102]) dm_X12_monad_206 rfl rfl rfl rfl ?_
      refine me1 (pc' := 208) (L' := [(4, ii (vk v : Int)), (0, .ref 102), (1, ii verb), (2, ii (hd : Int)), (3, ii place)]) (S' := [.ref 102, .ref 102]) dm_X12_monad_207 rfl rfl rfl rfl ?_
      refine me1 (pc' := 209) (L' := [(4, ii (vk v : Int)), (0, .ref 102), (1, ii verb), (2, ii (hd : Int)), (3, ii place)]) (S' := [ii verb, .ref 102, .ref 102]) dm_X12_monad_208 rfl rfl rfl rfl ?_
      refine me1 (pc' := 210) (L' := [(4, ii (vk v : Int)), (0, .ref 102), (1, ii verb), (2, ii (hd : Int)), (3, ii place)]) (S' := [ii (hd : Int), ii verb, .ref 102, .ref 102]) dm_X12_monad_209 rfl rfl rfl rfl ?_
      refine me1 (pc' := 211) (L' := [(4, ii (vk v : Int)), (0, .ref 102), (1, ii verb), (2, ii (hd : Int)), (3, ii place)]) (S' := [ii place, ii (hd : Int), ii verb, .ref 102, .ref 102]) dm_X12_monad_210 rfl rfl rfl rfl ?_
      refine x_cv (pc' := 214) (rest := [.ref 102]) dm_X12_monad_211 rfl (q_inv (As := [ii verb, ii (hd : Int), ii place]) (S := [.ref 102]) hm rfl rfl rfl) rfl rfl rfl (r_through_ (place := place) (vb := verb) hm (by omega) 7 (by omega) hBs hvs hh3 hqS hbS hq3 (by omega) heS hcaS (by omega)) ?_
      rintro x1 g1 hres
      have hG : rG pre post s2 8 ((pno (vbo verb) 7 z0 v)) place ((paC 7 z0 v + paM 7 z0 v)) ((paK 7 z0 v)) x1 g1 := rG_up (rG_N hres)
      obtain ⟨z1, rfl⟩ := rG_ii hG
      obtain ⟨t1, rfl⟩ := rG_st hG
      refine me1 (pc' := 215) (L' := [(4, ii (vk v : Int)), (0, .ref 102), (1, ii verb), (2, ii (hd : Int)), (3, ii place)]) (S' := [ii place, ii z1, .ref 102]) dm_X12_monad_214 rfl rfl rfl rfl ?_
      refine x_cv (pc' := 218) (rest := []) dm_X12_monad_215 rfl (q_inv (As := [ii z1, ii place]) (S := []) hm rfl rfl rfl) rfl rfl rfl (r_mdo (s := s) (s2 := s2) (W2 := W - (3 + vS v)) (cost := 3 + vS v) (p := 0) (C := (paC 7 z0 v + paM 7 z0 v)) (V := (paK 7 z0 v)) (o := (pno (vbo verb) 7 z0 v)) (c := 4) (nd := nd) hm (by omega) hT hB0 hG hca (by omega) (by omega) hnd (fun n hn => pno_n hpa.2 hn) (fun r hr => by rw [pno_r hr]; exact (hpa.2 (vbo verb)).1) (by omega) (by omega) (by omega) (fun r hr _ _ => by have y : vS v = vsz 7 v := rfl; have w := (hpa.2 (vbo verb)).2.1; rw [pno_r hr, w]; omega)) ?_
      rintro x9 g9 hfin
      obtain ⟨z9, rfl⟩ := dres_ii hfin
      obtain ⟨t9, rfl⟩ := dres_st hfin
      refine y_ret (r := some (ii z9)) dm_X12_monad_218 rfl rfl rfl ?_
      have e9 : dOne (cpS s) W verb v place = dMo (cpS s) (W - (3 + vS v)) 0 (pno (vbo verb) 7 z0 v) place := by unfold dOne; rw [dAc_mo (by omega), hsp]; exact (dMo_pair (hpa.2 (vbo verb)).2.1 (hpa.2 (vbo verb)).2.2.1).symm
      rw [hww] at hfin
      rw [e9]
      exact ⟨_, rfl, hfin⟩
    refine y_sw (a := verb) (38) (t := 248) (i := .lookupswitch 547 #[(33, 383), (35, 505), (37, 176), (38, 218), (42, 189), (43, 154), (44, 482), (45, 176), (46, 493), (60, 294), (61, 359), (62, 294), (63, 371), (64, 533), (94, 294), (95, 522), (124, 230), (126, 176)]) (len := 154) dm_X12_monad_30 rfl rfl rfl (by omega) (by decide) (fun hb4 => ?_) (fun hb4 => ?_)
    · exfalso; omega
    refine y_sw (a := verb) (42) (t := 219) (i := .lookupswitch 547 #[(33, 383), (35, 505), (37, 176), (38, 218), (42, 189), (43, 154), (44, 482), (45, 176), (46, 493), (60, 294), (61, 359), (62, 294), (63, 371), (64, 533), (94, 294), (95, 522), (124, 230), (126, 176)]) (len := 154) dm_X12_monad_30 rfl rfl rfl (by omega) (by decide) (fun hb5 => ?_) (fun hb5 => ?_)
    · exfalso; omega
    refine y_sw (a := verb) (43) (t := 184) (i := .lookupswitch 547 #[(33, 383), (35, 505), (37, 176), (38, 218), (42, 189), (43, 154), (44, 482), (45, 176), (46, 493), (60, 294), (61, 359), (62, 294), (63, 371), (64, 533), (94, 294), (95, 522), (124, 230), (126, 176)]) (len := 154) dm_X12_monad_30 rfl rfl rfl (by omega) (by decide) (fun hb6 => ?_) (fun hb6 => ?_)
    · exfalso; omega
    refine y_sw (a := verb) (44) (t := 512) (i := .lookupswitch 547 #[(33, 383), (35, 505), (37, 176), (38, 218), (42, 189), (43, 154), (44, 482), (45, 176), (46, 493), (60, 294), (61, 359), (62, 294), (63, 371), (64, 533), (94, 294), (95, 522), (124, 230), (126, 176)]) (len := 154) dm_X12_monad_30 rfl rfl rfl (by omega) (by decide) (fun hb7 => ?_) (fun hb7 => ?_)
    · exfalso; omega
    refine y_sw (a := verb) (45) (t := 206) (i := .lookupswitch 547 #[(33, 383), (35, 505), (37, 176), (38, 218), (42, 189), (43, 154), (44, 482), (45, 176), (46, 493), (60, 294), (61, 359), (62, 294), (63, 371), (64, 533), (94, 294), (95, 522), (124, 230), (126, 176)]) (len := 154) dm_X12_monad_30 rfl rfl rfl (by omega) (by decide) (fun hb8 => ?_) (fun hb8 => ?_)
    · refine me1 (pc' := 207) (L' := [(4, ii (vk v : Int)), (0, .ref 102), (1, ii verb), (2, ii (hd : Int)), (3, ii place)]) (S' := [.ref 102]) dm_X12_monad_206 rfl rfl rfl rfl ?_
      refine me1 (pc' := 208) (L' := [(4, ii (vk v : Int)), (0, .ref 102), (1, ii verb), (2, ii (hd : Int)), (3, ii place)]) (S' := [.ref 102, .ref 102]) dm_X12_monad_207 rfl rfl rfl rfl ?_
      refine me1 (pc' := 209) (L' := [(4, ii (vk v : Int)), (0, .ref 102), (1, ii verb), (2, ii (hd : Int)), (3, ii place)]) (S' := [ii verb, .ref 102, .ref 102]) dm_X12_monad_208 rfl rfl rfl rfl ?_
      refine me1 (pc' := 210) (L' := [(4, ii (vk v : Int)), (0, .ref 102), (1, ii verb), (2, ii (hd : Int)), (3, ii place)]) (S' := [ii (hd : Int), ii verb, .ref 102, .ref 102]) dm_X12_monad_209 rfl rfl rfl rfl ?_
      refine me1 (pc' := 211) (L' := [(4, ii (vk v : Int)), (0, .ref 102), (1, ii verb), (2, ii (hd : Int)), (3, ii place)]) (S' := [ii place, ii (hd : Int), ii verb, .ref 102, .ref 102]) dm_X12_monad_210 rfl rfl rfl rfl ?_
      refine x_cv (pc' := 214) (rest := [.ref 102]) dm_X12_monad_211 rfl (q_inv (As := [ii verb, ii (hd : Int), ii place]) (S := [.ref 102]) hm rfl rfl rfl) rfl rfl rfl (r_through_ (place := place) (vb := verb) hm (by omega) 7 (by omega) hBs hvs hh3 hqS hbS hq3 (by omega) heS hcaS (by omega)) ?_
      rintro x1 g1 hres
      have hG : rG pre post s2 8 ((pno (vbo verb) 7 z0 v)) place ((paC 7 z0 v + paM 7 z0 v)) ((paK 7 z0 v)) x1 g1 := rG_up (rG_N hres)
      obtain ⟨z1, rfl⟩ := rG_ii hG
      obtain ⟨t1, rfl⟩ := rG_st hG
      refine me1 (pc' := 215) (L' := [(4, ii (vk v : Int)), (0, .ref 102), (1, ii verb), (2, ii (hd : Int)), (3, ii place)]) (S' := [ii place, ii z1, .ref 102]) dm_X12_monad_214 rfl rfl rfl rfl ?_
      refine x_cv (pc' := 218) (rest := []) dm_X12_monad_215 rfl (q_inv (As := [ii z1, ii place]) (S := []) hm rfl rfl rfl) rfl rfl rfl (r_mdo (s := s) (s2 := s2) (W2 := W - (3 + vS v)) (cost := 3 + vS v) (p := 0) (C := (paC 7 z0 v + paM 7 z0 v)) (V := (paK 7 z0 v)) (o := (pno (vbo verb) 7 z0 v)) (c := 4) (nd := nd) hm (by omega) hT hB0 hG hca (by omega) (by omega) hnd (fun n hn => pno_n hpa.2 hn) (fun r hr => by rw [pno_r hr]; exact (hpa.2 (vbo verb)).1) (by omega) (by omega) (by omega) (fun r hr _ _ => by have y : vS v = vsz 7 v := rfl; have w := (hpa.2 (vbo verb)).2.1; rw [pno_r hr, w]; omega)) ?_
      rintro x9 g9 hfin
      obtain ⟨z9, rfl⟩ := dres_ii hfin
      obtain ⟨t9, rfl⟩ := dres_st hfin
      refine y_ret (r := some (ii z9)) dm_X12_monad_218 rfl rfl rfl ?_
      have e9 : dOne (cpS s) W verb v place = dMo (cpS s) (W - (3 + vS v)) 0 (pno (vbo verb) 7 z0 v) place := by unfold dOne; rw [dAc_mo (by omega), hsp]; exact (dMo_pair (hpa.2 (vbo verb)).2.1 (hpa.2 (vbo verb)).2.2.1).symm
      rw [hww] at hfin
      rw [e9]
      exact ⟨_, rfl, hfin⟩
    refine y_sw (a := verb) (46) (t := 523) (i := .lookupswitch 547 #[(33, 383), (35, 505), (37, 176), (38, 218), (42, 189), (43, 154), (44, 482), (45, 176), (46, 493), (60, 294), (61, 359), (62, 294), (63, 371), (64, 533), (94, 294), (95, 522), (124, 230), (126, 176)]) (len := 154) dm_X12_monad_30 rfl rfl rfl (by omega) (by decide) (fun hb9 => ?_) (fun hb9 => ?_)
    · exfalso; omega
    refine y_sw (a := verb) (60) (t := 324) (i := .lookupswitch 547 #[(33, 383), (35, 505), (37, 176), (38, 218), (42, 189), (43, 154), (44, 482), (45, 176), (46, 493), (60, 294), (61, 359), (62, 294), (63, 371), (64, 533), (94, 294), (95, 522), (124, 230), (126, 176)]) (len := 154) dm_X12_monad_30 rfl rfl rfl (by omega) (by decide) (fun hb10 => ?_) (fun hb10 => ?_)
    · exfalso; omega
    refine y_sw (a := verb) (61) (t := 389) (i := .lookupswitch 547 #[(33, 383), (35, 505), (37, 176), (38, 218), (42, 189), (43, 154), (44, 482), (45, 176), (46, 493), (60, 294), (61, 359), (62, 294), (63, 371), (64, 533), (94, 294), (95, 522), (124, 230), (126, 176)]) (len := 154) dm_X12_monad_30 rfl rfl rfl (by omega) (by decide) (fun hb11 => ?_) (fun hb11 => ?_)
    · exfalso; omega
    refine y_sw (a := verb) (62) (t := 324) (i := .lookupswitch 547 #[(33, 383), (35, 505), (37, 176), (38, 218), (42, 189), (43, 154), (44, 482), (45, 176), (46, 493), (60, 294), (61, 359), (62, 294), (63, 371), (64, 533), (94, 294), (95, 522), (124, 230), (126, 176)]) (len := 154) dm_X12_monad_30 rfl rfl rfl (by omega) (by decide) (fun hb12 => ?_) (fun hb12 => ?_)
    · exfalso; omega
    refine y_sw (a := verb) (63) (t := 401) (i := .lookupswitch 547 #[(33, 383), (35, 505), (37, 176), (38, 218), (42, 189), (43, 154), (44, 482), (45, 176), (46, 493), (60, 294), (61, 359), (62, 294), (63, 371), (64, 533), (94, 294), (95, 522), (124, 230), (126, 176)]) (len := 154) dm_X12_monad_30 rfl rfl rfl (by omega) (by decide) (fun hb13 => ?_) (fun hb13 => ?_)
    · exfalso; omega
    refine y_sw (a := verb) (64) (t := 563) (i := .lookupswitch 547 #[(33, 383), (35, 505), (37, 176), (38, 218), (42, 189), (43, 154), (44, 482), (45, 176), (46, 493), (60, 294), (61, 359), (62, 294), (63, 371), (64, 533), (94, 294), (95, 522), (124, 230), (126, 176)]) (len := 154) dm_X12_monad_30 rfl rfl rfl (by omega) (by decide) (fun hb14 => ?_) (fun hb14 => ?_)
    · exfalso; omega
    refine y_sw (a := verb) (94) (t := 324) (i := .lookupswitch 547 #[(33, 383), (35, 505), (37, 176), (38, 218), (42, 189), (43, 154), (44, 482), (45, 176), (46, 493), (60, 294), (61, 359), (62, 294), (63, 371), (64, 533), (94, 294), (95, 522), (124, 230), (126, 176)]) (len := 154) dm_X12_monad_30 rfl rfl rfl (by omega) (by decide) (fun hb15 => ?_) (fun hb15 => ?_)
    · exfalso; omega
    refine y_sw (a := verb) (95) (t := 552) (i := .lookupswitch 547 #[(33, 383), (35, 505), (37, 176), (38, 218), (42, 189), (43, 154), (44, 482), (45, 176), (46, 493), (60, 294), (61, 359), (62, 294), (63, 371), (64, 533), (94, 294), (95, 522), (124, 230), (126, 176)]) (len := 154) dm_X12_monad_30 rfl rfl rfl (by omega) (by decide) (fun hb16 => ?_) (fun hb16 => ?_)
    · exfalso; omega
    refine y_sw (a := verb) (124) (t := 260) (i := .lookupswitch 547 #[(33, 383), (35, 505), (37, 176), (38, 218), (42, 189), (43, 154), (44, 482), (45, 176), (46, 493), (60, 294), (61, 359), (62, 294), (63, 371), (64, 533), (94, 294), (95, 522), (124, 230), (126, 176)]) (len := 154) dm_X12_monad_30 rfl rfl rfl (by omega) (by decide) (fun hb17 => ?_) (fun hb17 => ?_)
    · exfalso; omega
    refine y_sw (a := verb) (126) (t := 206) (i := .lookupswitch 547 #[(33, 383), (35, 505), (37, 176), (38, 218), (42, 189), (43, 154), (44, 482), (45, 176), (46, 493), (60, 294), (61, 359), (62, 294), (63, 371), (64, 533), (94, 294), (95, 522), (124, 230), (126, 176)]) (len := 154) dm_X12_monad_30 rfl rfl rfl (by omega) (by decide) (fun hb18 => ?_) (fun hb18 => ?_)
    · refine me1 (pc' := 207) (L' := [(4, ii (vk v : Int)), (0, .ref 102), (1, ii verb), (2, ii (hd : Int)), (3, ii place)]) (S' := [.ref 102]) dm_X12_monad_206 rfl rfl rfl rfl ?_
      refine me1 (pc' := 208) (L' := [(4, ii (vk v : Int)), (0, .ref 102), (1, ii verb), (2, ii (hd : Int)), (3, ii place)]) (S' := [.ref 102, .ref 102]) dm_X12_monad_207 rfl rfl rfl rfl ?_
      refine me1 (pc' := 209) (L' := [(4, ii (vk v : Int)), (0, .ref 102), (1, ii verb), (2, ii (hd : Int)), (3, ii place)]) (S' := [ii verb, .ref 102, .ref 102]) dm_X12_monad_208 rfl rfl rfl rfl ?_
      refine me1 (pc' := 210) (L' := [(4, ii (vk v : Int)), (0, .ref 102), (1, ii verb), (2, ii (hd : Int)), (3, ii place)]) (S' := [ii (hd : Int), ii verb, .ref 102, .ref 102]) dm_X12_monad_209 rfl rfl rfl rfl ?_
      refine me1 (pc' := 211) (L' := [(4, ii (vk v : Int)), (0, .ref 102), (1, ii verb), (2, ii (hd : Int)), (3, ii place)]) (S' := [ii place, ii (hd : Int), ii verb, .ref 102, .ref 102]) dm_X12_monad_210 rfl rfl rfl rfl ?_
      refine x_cv (pc' := 214) (rest := [.ref 102]) dm_X12_monad_211 rfl (q_inv (As := [ii verb, ii (hd : Int), ii place]) (S := [.ref 102]) hm rfl rfl rfl) rfl rfl rfl (r_through_ (place := place) (vb := verb) hm (by omega) 7 (by omega) hBs hvs hh3 hqS hbS hq3 (by omega) heS hcaS (by omega)) ?_
      rintro x1 g1 hres
      have hG : rG pre post s2 8 ((pno (vbo verb) 7 z0 v)) place ((paC 7 z0 v + paM 7 z0 v)) ((paK 7 z0 v)) x1 g1 := rG_up (rG_N hres)
      obtain ⟨z1, rfl⟩ := rG_ii hG
      obtain ⟨t1, rfl⟩ := rG_st hG
      refine me1 (pc' := 215) (L' := [(4, ii (vk v : Int)), (0, .ref 102), (1, ii verb), (2, ii (hd : Int)), (3, ii place)]) (S' := [ii place, ii z1, .ref 102]) dm_X12_monad_214 rfl rfl rfl rfl ?_
      refine x_cv (pc' := 218) (rest := []) dm_X12_monad_215 rfl (q_inv (As := [ii z1, ii place]) (S := []) hm rfl rfl rfl) rfl rfl rfl (r_mdo (s := s) (s2 := s2) (W2 := W - (3 + vS v)) (cost := 3 + vS v) (p := 0) (C := (paC 7 z0 v + paM 7 z0 v)) (V := (paK 7 z0 v)) (o := (pno (vbo verb) 7 z0 v)) (c := 4) (nd := nd) hm (by omega) hT hB0 hG hca (by omega) (by omega) hnd (fun n hn => pno_n hpa.2 hn) (fun r hr => by rw [pno_r hr]; exact (hpa.2 (vbo verb)).1) (by omega) (by omega) (by omega) (fun r hr _ _ => by have y : vS v = vsz 7 v := rfl; have w := (hpa.2 (vbo verb)).2.1; rw [pno_r hr, w]; omega)) ?_
      rintro x9 g9 hfin
      obtain ⟨z9, rfl⟩ := dres_ii hfin
      obtain ⟨t9, rfl⟩ := dres_st hfin
      refine y_ret (r := some (ii z9)) dm_X12_monad_218 rfl rfl rfl ?_
      have e9 : dOne (cpS s) W verb v place = dMo (cpS s) (W - (3 + vS v)) 0 (pno (vbo verb) 7 z0 v) place := by unfold dOne; rw [dAc_mo (by omega), hsp]; exact (dMo_pair (hpa.2 (vbo verb)).2.1 (hpa.2 (vbo verb)).2.2.1).symm
      rw [hww] at hfin
      rw [e9]
      exact ⟨_, rfl, hfin⟩
    exfalso; omega
theorem dm_X12_monad_535 : mj_dec prog_14_method_29_code 535 = some (.aload_n 0, 1) := by decide +kernel
theorem dm_X12_monad_536 : mj_dec prog_14_method_29_code 536 = some (.aload_n 0, 1) := by decide +kernel
theorem dm_X12_monad_537 : mj_dec prog_14_method_29_code 537 = some (.iconst 0, 1) := by decide +kernel
theorem dm_X12_monad_538 : mj_dec prog_14_method_29_code 538 = some (.aload_n 0, 1) := by decide +kernel
theorem dm_X12_monad_539 : mj_dec prog_14_method_29_code 539 = some (.iload_n 2, 1) := by decide +kernel
theorem dm_X12_monad_540 : mj_dec prog_14_method_29_code 540 = some (.invokevirtual 134, 3) := by decide +kernel
theorem dm_X12_monad_543 : mj_dec prog_14_method_29_code 543 = some (.i2l, 1) := by decide +kernel
theorem dm_X12_monad_544 : mj_dec prog_14_method_29_code 544 = some (.invokevirtual 105, 3) := by decide +kernel
theorem dm_X12_monad_547 : mj_dec prog_14_method_29_code 547 = some (.iload_n 3, 1) := by decide +kernel
theorem dm_X12_monad_548 : mj_dec prog_14_method_29_code 548 = some (.invokevirtual 208, 3) := by decide +kernel
theorem dm_X12_monad_551 : mj_dec prog_14_method_29_code 551 = some (.ireturn, 1) := by decide +kernel
theorem r_mon35 {xt : mj_X} {d hd q b base W : Nat} {pre post : mj_H} {s : RS} {v : VV} {place nd verb : Int} (hm : pre.length = 102) (hd1 : 60 ≤ d) (hRS : RSO) (hB : rB s) (hv : rv s 7 hd v) (hh3 : 3 ≤ hd) (hz1 : vsz 7 v ≤ 1000) (hz2 : vlv 7 v ≤ 5) (hq : s.1 4 = (q : Int)) (hb : s.1 3 = (b : Int)) (hq3 : 3 ≤ q) (hV2 : q + 2100 < 310000) (he0 : s.1 5 = 0) (hca : 0 ≤ s.1 10 ∧ s.1 10 ≤ 100) (hC : b + 291000 ≤ 820000) (hw13 : s.1 13 = (base : Int)) (hbs : base ≤ 7900) (h8 : s.1 8 = (W : Int)) (hW5 : W ≤ 500000) (hnd : 0 ≤ nd) (hvb : verb = 35) : pgV xt d 281 [.ref 102, ii verb, ii (hd : Int), ii place] (rS pre post s) (dres pre post s W 4 nd (dOne (cpS s) W verb v place)) := by
  have hB0 := hB
  obtain ⟨hB1, hB2, hB3, hB4⟩ := hB
  obtain ⟨fr, hfr, hsh, hlt, hcl, hvk, hvm, hvc, hvq, hvcl⟩ := rv_val hv
  have hvb2 : -2147483648 ≤ verb ∧ verb ≤ 2147483647 := by omega
  refine x_enter pm_X12_monad (L0 := [(0, .ref 102), (1, ii verb), (2, ii (hd : Int)), (3, ii place)]) rfl (Nat.le_of_ble_eq_true rfl) (by omega) ?_
  refine me1 (pc' := 1) (L' := [(0, .ref 102), (1, ii verb), (2, ii (hd : Int)), (3, ii place)]) (S' := [.ref 102]) dm_X12_monad_0 rfl rfl rfl rfl ?_
  refine me1 (pc' := 2) (L' := [(0, .ref 102), (1, ii verb), (2, ii (hd : Int)), (3, ii place)]) (S' := [ii (hd : Int), .ref 102]) dm_X12_monad_1 rfl rfl rfl rfl ?_
  refine x_cp (pc' := 5) (v := ii (vk v : Int)) (rest := []) dm_X12_monad_2 rfl (q_inv (As := [ii (hd : Int)]) (S := []) hm rfl rfl rfl) rfl rfl rfl (r_kindOf_ (e := 6) hm (by omega) hB0 hv) ?_
  refine me1 (pc' := 7) (L' := [(4, ii (vk v : Int)), (0, .ref 102), (1, ii verb), (2, ii (hd : Int)), (3, ii place)]) (S' := []) dm_X12_monad_5 rfl rfl rfl rfl ?_
  refine me1 (pc' := 8) (L' := [(4, ii (vk v : Int)), (0, .ref 102), (1, ii verb), (2, ii (hd : Int)), (3, ii place)]) (S' := [.ref 102]) dm_X12_monad_7 rfl rfl rfl rfl ?_
  refine me0 (pc' := 9) (S' := [ii 3, .ref 102]) dm_X12_monad_8 rfl rfl rfl rfl ?_
  refine me1 (pc' := 10) (L' := [(4, ii (vk v : Int)), (0, .ref 102), (1, ii verb), (2, ii (hd : Int)), (3, ii place)]) (S' := [.ref 102, ii 3, .ref 102]) dm_X12_monad_9 rfl rfl rfl rfl ?_
  refine me1 (pc' := 11) (L' := [(4, ii (vk v : Int)), (0, .ref 102), (1, ii verb), (2, ii (hd : Int)), (3, ii place)]) (S' := [ii (hd : Int), .ref 102, ii 3, .ref 102]) dm_X12_monad_10 rfl rfl rfl rfl ?_
  refine x_cp (pc' := 14) (v := ii (vsz 7 v : Int)) (rest := [ii 3, .ref 102]) dm_X12_monad_11 rfl (q_inv (As := [ii (hd : Int)]) (S := [ii 3, .ref 102]) hm rfl rfl rfl) rfl rfl rfl (r_sizeOf_ hm hB0 7 (by omega) hv) ?_
  refine y_iadd (a := 3) (b := (vsz 7 v : Int)) dm_X12_monad_14 (pc' := 15) rfl ?_
  refine pg_st (S' := [ii ((3 + vS v : Nat) : Int), .ref 102]) (congrArg (fun z => ii z :: [.ref 102]) (show 3 + (vsz 7 v : Int) = ((3 + vS v : Nat) : Int) by show _ = ((3 + vsz 7 v : Nat) : Int); omega)) ?_
  have hvS : vS v = vsz 7 v := rfl
  by_cases hW : W < 3 + vS v
  · refine me1 (pc' := 16) (L' := [(4, ii (vk v : Int)), (0, .ref 102), (1, ii verb), (2, ii (hd : Int)), (3, ii place)]) (S' := [ii place, ii ((3 + vS v : Nat) : Int), .ref 102]) dm_X12_monad_15 rfl rfl rfl rfl ?_
    refine x_cv (pc' := 19) (rest := []) dm_X12_monad_16 rfl (q_inv (As := [ii ((3 + vS v : Nat) : Int), ii place]) (S := []) hm rfl rfl rfl) rfl rfl rfl ((by have z := r_takes_ (xt := xt) (d := d - 1) (pre := pre) (post := post) (s := s) (n := ((3 + vS v : Nat) : Int)) (place := place) hm (by omega) he0 hca.1 hca.2 (by omega) (by omega) (by omega); rw [tkS_f (by omega), decide_eq_false (by omega)] at z; exact z)) ?_
    rintro _ _ ⟨rfl, rfl⟩
    refine me_1f (pc' := 22) dm_X12_monad_19 rfl (by decide) rfl ?_
    refine me0 (pc' := 23) (S' := [ii (-1)]) dm_X12_monad_22 rfl rfl rfl rfl ?_
    refine y_ret (r := some (ii (-1))) dm_X12_monad_23 rfl rfl rfl ?_
    refine ⟨_, rfl, ?_⟩
    rw [show dOne (cpS s) W verb v place = dEr (cpS s) W 10 place from dAc_no hW]
    exact tk_no (n := 0) he0 h8 hnd
  · refine me1 (pc' := 16) (L' := [(4, ii (vk v : Int)), (0, .ref 102), (1, ii verb), (2, ii (hd : Int)), (3, ii place)]) (S' := [ii place, ii ((3 + vS v : Nat) : Int), .ref 102]) dm_X12_monad_15 rfl rfl rfl rfl ?_
    refine x_cv (pc' := 19) (rest := []) dm_X12_monad_16 rfl (q_inv (As := [ii ((3 + vS v : Nat) : Int), ii place]) (S := []) hm rfl rfl rfl) rfl rfl rfl ((by have z := r_takes_ (xt := xt) (d := d - 1) (pre := pre) (post := post) (s := s) (n := ((3 + vS v : Nat) : Int)) (place := place) hm (by omega) he0 hca.1 hca.2 (by omega) (by omega) (by omega); rw [tkS_t (by omega), decide_eq_true (by omega)] at z; exact z)) ?_
    rintro _ _ ⟨rfl, rfl⟩
    refine me_1t (pc' := 24) dm_X12_monad_19 rfl (by decide) ?_
    refine me1 (pc' := 25) (L' := [(4, ii (vk v : Int)), (0, .ref 102), (1, ii verb), (2, ii (hd : Int)), (3, ii place)]) (S' := [.ref 102]) dm_X12_monad_24 rfl rfl rfl rfl ?_
    refine me0 (pc' := 26) (S' := [ii 0, .ref 102]) dm_X12_monad_25 rfl rfl rfl rfl ?_
    refine me3 (pc' := 29) (S' := []) (h1 := rI pre post (va_up ((takeS s ((3 + vS v : Nat) : Int)).1) 9 0) ((takeS s ((3 + vS v : Nat) : Int)).2.1) ((takeS s ((3 + vS v : Nat) : Int)).2.2.1) ((takeS s ((3 + vS v : Nat) : Int)).2.2.2)) dm_X12_monad_26 (q_puti hm rfl rfl (fun m i l v => rf_9 m i l v)) rfl rfl rfl ?_
    obtain ⟨s2, hs2⟩ : ∃ s2 : RS, s2 = (va_up (takeS s ((3 + vS v : Nat) : Int)).1 9 0, (takeS s ((3 + vS v : Nat) : Int)).2.1, (takeS s ((3 + vS v : Nat) : Int)).2.2.1, (takeS s ((3 + vS v : Nat) : Int)).2.2.2) := ⟨_, rfl⟩
    have hT := tk_tkd (W := W) hs2 he0 h8 (by omega)
    have hqS : s2.1 4 = (q : Int) := hT.2.2.2.1.trans hq
    have hbS : s2.1 3 = (b : Int) := hT.2.2.1.trans hb
    have heS : s2.1 5 = 0 := hT.2.2.2.2.1
    have hwS : s2.1 13 = (base : Int) := hT.2.2.2.2.2.2.1.trans hw13
    have hcaS : 0 ≤ s2.1 10 ∧ s2.1 10 ≤ 100 := by rw [hT.2.1.1 10 (by decide) (by decide) (by decide) (by decide) (by decide) (by decide) (by decide) (by decide) (by decide) (by decide)]; exact hca
    have hBs : rB s2 := ⟨by omega, by omega, by omega, by omega⟩
    have hvs := rv_ext hT.1 hh3 hv
    have hrs := hRS verb v (rv_wf hv) hz1 hz2
    have hww : W - (3 + vS v) + (3 + vS v) = W := by omega
    refine pg_cast (h2 := rI pre post s2.1 s2.2.1 s2.2.2.1 s2.2.2.2) (by rw [hs2]) ?_
    refine me1 (pc' := 30) (L' := [(4, ii (vk v : Int)), (0, .ref 102), (1, ii verb), (2, ii (hd : Int)), (3, ii place)]) (S' := [ii verb]) dm_X12_monad_29 rfl rfl rfl rfl ?_
    have hsp : s_one verb 6 v = .inr (v1 0 (Int64.ofInt (vm v : Int))) := by unfold s_one; rw [if_neg (by omega), if_neg (by omega), if_neg (by omega), if_neg (by omega), if_neg (by omega), if_neg (by omega), if_neg (by omega), if_neg (by omega), if_neg (by omega), if_neg (by omega), if_neg (by omega), if_pos (by omega)]
    refine y_sw (a := verb) (33) (t := 413) (i := .lookupswitch 547 #[(33, 383), (35, 505), (37, 176), (38, 218), (42, 189), (43, 154), (44, 482), (45, 176), (46, 493), (60, 294), (61, 359), (62, 294), (63, 371), (64, 533), (94, 294), (95, 522), (124, 230), (126, 176)]) (len := 154) dm_X12_monad_30 rfl rfl rfl (by omega) (by decide) (fun hb1 => ?_) (fun hb1 => ?_)
    · exfalso; omega
    refine y_sw (a := verb) (35) (t := 535) (i := .lookupswitch 547 #[(33, 383), (35, 505), (37, 176), (38, 218), (42, 189), (43, 154), (44, 482), (45, 176), (46, 493), (60, 294), (61, 359), (62, 294), (63, 371), (64, 533), (94, 294), (95, 522), (124, 230), (126, 176)]) (len := 154) dm_X12_monad_30 rfl rfl rfl (by omega) (by decide) (fun hb2 => ?_) (fun hb2 => ?_)
    · refine me1 (pc' := 536) (L' := [(4, ii (vk v : Int)), (0, .ref 102), (1, ii verb), (2, ii (hd : Int)), (3, ii place)]) (S' := [.ref 102]) dm_X12_monad_535 rfl rfl rfl rfl ?_
      refine me1 (pc' := 537) (L' := [(4, ii (vk v : Int)), (0, .ref 102), (1, ii verb), (2, ii (hd : Int)), (3, ii place)]) (S' := [.ref 102, .ref 102]) dm_X12_monad_536 rfl rfl rfl rfl ?_
      refine me0 (pc' := 538) (S' := [ii 0, .ref 102, .ref 102]) dm_X12_monad_537 rfl rfl rfl rfl ?_
      refine me1 (pc' := 539) (L' := [(4, ii (vk v : Int)), (0, .ref 102), (1, ii verb), (2, ii (hd : Int)), (3, ii place)]) (S' := [.ref 102, ii 0, .ref 102, .ref 102]) dm_X12_monad_538 rfl rfl rfl rfl ?_
      refine me1 (pc' := 540) (L' := [(4, ii (vk v : Int)), (0, .ref 102), (1, ii verb), (2, ii (hd : Int)), (3, ii place)]) (S' := [ii (hd : Int), .ref 102, ii 0, .ref 102, .ref 102]) dm_X12_monad_539 rfl rfl rfl rfl ?_
      refine x_cp (pc' := 543) (v := ii (vm v : Int)) (rest := [ii 0, .ref 102, .ref 102]) dm_X12_monad_540 rfl (q_inv (As := [ii (hd : Int)]) (S := [ii 0, .ref 102, .ref 102]) hm rfl rfl rfl) rfl rfl rfl (r_many_ (e := 6) hm (by omega) hBs hvs) ?_
      refine y_i2l (a := (vm v : Int)) dm_X12_monad_543 (pc' := 544) rfl (by omega) (by omega) ?_
      refine x_cv (pc' := 547) (rest := [.ref 102]) dm_X12_monad_544 rfl (q_inv (As := [ii 0, .long (Int64.ofInt (vm v : Int))]) (S := [.ref 102]) hm rfl rfl rfl) rfl rfl rfl (r_one_ (s := s2) (q := q) (b := b) hm (by omega) hqS hbS (by omega) (by omega) (by omega)) ?_
      rintro _ _ ⟨rfl, rfl⟩
      have hG : rG pre post s2 8 (.inr (v1 0 (Int64.ofInt (vm v : Int)))) place (rcb (.inr (v1 0 (Int64.ofInt (vm v : Int)))) 1) (rvb (.inr (v1 0 (Int64.ofInt (vm v : Int)))) 1) (ii (q : Int)) (rS pre post (fillS (rowS s2 q b 0 1) b 1 (fun _ => (Int64.ofInt (vm v : Int))))) := rG_r (rres_row (e := 7) (kind := 0) (n := 1) (w := v1 0 (Int64.ofInt (vm v : Int))) hqS hq3 hbS heS (vw1_one (by omega)) (by show ¬ 0 = 7; omega) (by show ¬ 0 = 6; omega) rfl rfl rfl (fun k hk => by rw [show k = 0 by omega]; rfl) (Nat.le_refl _) (Nat.le_refl _))
      refine me1 (pc' := 548) (L' := [(4, ii (vk v : Int)), (0, .ref 102), (1, ii verb), (2, ii (hd : Int)), (3, ii place)]) (S' := [ii place, ii (q : Int), .ref 102]) dm_X12_monad_547 rfl rfl rfl rfl ?_
      refine x_cv (pc' := 551) (rest := []) dm_X12_monad_548 rfl (q_inv (As := [ii (q : Int), ii place]) (S := []) hm rfl rfl rfl) rfl rfl rfl (r_mdo1 (s := s) (s2 := s2) (W2 := W - (3 + vS v)) (cost := 3 + vS v) (cb := 1) (o := .inr (v1 0 (Int64.ofInt (vm v : Int)))) (c := 4) (nd := nd) hm (by omega) hT hB0 hG hca (by omega) hnd (fun n hn => hrs.1 n (hsp.trans hn)) (fun r hr => hrs.2 r (hsp.trans hr)) (by omega) (by omega) (by omega)) ?_
      rintro x9 g9 hfin
      obtain ⟨z9, rfl⟩ := dres_ii hfin
      obtain ⟨t9, rfl⟩ := dres_st hfin
      refine y_ret (r := some (ii z9)) dm_X12_monad_551 rfl rfl rfl ?_
      have e9 : dOne (cpS s) W verb v place = dMo (cpS s) (W - (3 + vS v)) 0 (.inr (v1 0 (Int64.ofInt (vm v : Int)))) place := by unfold dOne; rw [dAc_mo (by omega), hsp]
      rw [hww] at hfin
      rw [e9]
      exact ⟨_, rfl, hfin⟩
    refine y_sw (a := verb) (37) (t := 206) (i := .lookupswitch 547 #[(33, 383), (35, 505), (37, 176), (38, 218), (42, 189), (43, 154), (44, 482), (45, 176), (46, 493), (60, 294), (61, 359), (62, 294), (63, 371), (64, 533), (94, 294), (95, 522), (124, 230), (126, 176)]) (len := 154) dm_X12_monad_30 rfl rfl rfl (by omega) (by decide) (fun hb3 => ?_) (fun hb3 => ?_)
    · exfalso; omega
    refine y_sw (a := verb) (38) (t := 248) (i := .lookupswitch 547 #[(33, 383), (35, 505), (37, 176), (38, 218), (42, 189), (43, 154), (44, 482), (45, 176), (46, 493), (60, 294), (61, 359), (62, 294), (63, 371), (64, 533), (94, 294), (95, 522), (124, 230), (126, 176)]) (len := 154) dm_X12_monad_30 rfl rfl rfl (by omega) (by decide) (fun hb4 => ?_) (fun hb4 => ?_)
    · exfalso; omega
    refine y_sw (a := verb) (42) (t := 219) (i := .lookupswitch 547 #[(33, 383), (35, 505), (37, 176), (38, 218), (42, 189), (43, 154), (44, 482), (45, 176), (46, 493), (60, 294), (61, 359), (62, 294), (63, 371), (64, 533), (94, 294), (95, 522), (124, 230), (126, 176)]) (len := 154) dm_X12_monad_30 rfl rfl rfl (by omega) (by decide) (fun hb5 => ?_) (fun hb5 => ?_)
    · exfalso; omega
    refine y_sw (a := verb) (43) (t := 184) (i := .lookupswitch 547 #[(33, 383), (35, 505), (37, 176), (38, 218), (42, 189), (43, 154), (44, 482), (45, 176), (46, 493), (60, 294), (61, 359), (62, 294), (63, 371), (64, 533), (94, 294), (95, 522), (124, 230), (126, 176)]) (len := 154) dm_X12_monad_30 rfl rfl rfl (by omega) (by decide) (fun hb6 => ?_) (fun hb6 => ?_)
    · exfalso; omega
    refine y_sw (a := verb) (44) (t := 512) (i := .lookupswitch 547 #[(33, 383), (35, 505), (37, 176), (38, 218), (42, 189), (43, 154), (44, 482), (45, 176), (46, 493), (60, 294), (61, 359), (62, 294), (63, 371), (64, 533), (94, 294), (95, 522), (124, 230), (126, 176)]) (len := 154) dm_X12_monad_30 rfl rfl rfl (by omega) (by decide) (fun hb7 => ?_) (fun hb7 => ?_)
    · exfalso; omega
    refine y_sw (a := verb) (45) (t := 206) (i := .lookupswitch 547 #[(33, 383), (35, 505), (37, 176), (38, 218), (42, 189), (43, 154), (44, 482), (45, 176), (46, 493), (60, 294), (61, 359), (62, 294), (63, 371), (64, 533), (94, 294), (95, 522), (124, 230), (126, 176)]) (len := 154) dm_X12_monad_30 rfl rfl rfl (by omega) (by decide) (fun hb8 => ?_) (fun hb8 => ?_)
    · exfalso; omega
    refine y_sw (a := verb) (46) (t := 523) (i := .lookupswitch 547 #[(33, 383), (35, 505), (37, 176), (38, 218), (42, 189), (43, 154), (44, 482), (45, 176), (46, 493), (60, 294), (61, 359), (62, 294), (63, 371), (64, 533), (94, 294), (95, 522), (124, 230), (126, 176)]) (len := 154) dm_X12_monad_30 rfl rfl rfl (by omega) (by decide) (fun hb9 => ?_) (fun hb9 => ?_)
    · exfalso; omega
    refine y_sw (a := verb) (60) (t := 324) (i := .lookupswitch 547 #[(33, 383), (35, 505), (37, 176), (38, 218), (42, 189), (43, 154), (44, 482), (45, 176), (46, 493), (60, 294), (61, 359), (62, 294), (63, 371), (64, 533), (94, 294), (95, 522), (124, 230), (126, 176)]) (len := 154) dm_X12_monad_30 rfl rfl rfl (by omega) (by decide) (fun hb10 => ?_) (fun hb10 => ?_)
    · exfalso; omega
    refine y_sw (a := verb) (61) (t := 389) (i := .lookupswitch 547 #[(33, 383), (35, 505), (37, 176), (38, 218), (42, 189), (43, 154), (44, 482), (45, 176), (46, 493), (60, 294), (61, 359), (62, 294), (63, 371), (64, 533), (94, 294), (95, 522), (124, 230), (126, 176)]) (len := 154) dm_X12_monad_30 rfl rfl rfl (by omega) (by decide) (fun hb11 => ?_) (fun hb11 => ?_)
    · exfalso; omega
    refine y_sw (a := verb) (62) (t := 324) (i := .lookupswitch 547 #[(33, 383), (35, 505), (37, 176), (38, 218), (42, 189), (43, 154), (44, 482), (45, 176), (46, 493), (60, 294), (61, 359), (62, 294), (63, 371), (64, 533), (94, 294), (95, 522), (124, 230), (126, 176)]) (len := 154) dm_X12_monad_30 rfl rfl rfl (by omega) (by decide) (fun hb12 => ?_) (fun hb12 => ?_)
    · exfalso; omega
    refine y_sw (a := verb) (63) (t := 401) (i := .lookupswitch 547 #[(33, 383), (35, 505), (37, 176), (38, 218), (42, 189), (43, 154), (44, 482), (45, 176), (46, 493), (60, 294), (61, 359), (62, 294), (63, 371), (64, 533), (94, 294), (95, 522), (124, 230), (126, 176)]) (len := 154) dm_X12_monad_30 rfl rfl rfl (by omega) (by decide) (fun hb13 => ?_) (fun hb13 => ?_)
    · exfalso; omega
    refine y_sw (a := verb) (64) (t := 563) (i := .lookupswitch 547 #[(33, 383), (35, 505), (37, 176), (38, 218), (42, 189), (43, 154), (44, 482), (45, 176), (46, 493), (60, 294), (61, 359), (62, 294), (63, 371), (64, 533), (94, 294), (95, 522), (124, 230), (126, 176)]) (len := 154) dm_X12_monad_30 rfl rfl rfl (by omega) (by decide) (fun hb14 => ?_) (fun hb14 => ?_)
    · exfalso; omega
    refine y_sw (a := verb) (94) (t := 324) (i := .lookupswitch 547 #[(33, 383), (35, 505), (37, 176), (38, 218), (42, 189), (43, 154), (44, 482), (45, 176), (46, 493), (60, 294), (61, 359), (62, 294), (63, 371), (64, 533), (94, 294), (95, 522), (124, 230), (126, 176)]) (len := 154) dm_X12_monad_30 rfl rfl rfl (by omega) (by decide) (fun hb15 => ?_) (fun hb15 => ?_)
    · exfalso; omega
    refine y_sw (a := verb) (95) (t := 552) (i := .lookupswitch 547 #[(33, 383), (35, 505), (37, 176), (38, 218), (42, 189), (43, 154), (44, 482), (45, 176), (46, 493), (60, 294), (61, 359), (62, 294), (63, 371), (64, 533), (94, 294), (95, 522), (124, 230), (126, 176)]) (len := 154) dm_X12_monad_30 rfl rfl rfl (by omega) (by decide) (fun hb16 => ?_) (fun hb16 => ?_)
    · exfalso; omega
    refine y_sw (a := verb) (124) (t := 260) (i := .lookupswitch 547 #[(33, 383), (35, 505), (37, 176), (38, 218), (42, 189), (43, 154), (44, 482), (45, 176), (46, 493), (60, 294), (61, 359), (62, 294), (63, 371), (64, 533), (94, 294), (95, 522), (124, 230), (126, 176)]) (len := 154) dm_X12_monad_30 rfl rfl rfl (by omega) (by decide) (fun hb17 => ?_) (fun hb17 => ?_)
    · exfalso; omega
    refine y_sw (a := verb) (126) (t := 206) (i := .lookupswitch 547 #[(33, 383), (35, 505), (37, 176), (38, 218), (42, 189), (43, 154), (44, 482), (45, 176), (46, 493), (60, 294), (61, 359), (62, 294), (63, 371), (64, 533), (94, 294), (95, 522), (124, 230), (126, 176)]) (len := 154) dm_X12_monad_30 rfl rfl rfl (by omega) (by decide) (fun hb18 => ?_) (fun hb18 => ?_)
    · exfalso; omega
    exfalso; omega
theorem dm_X12_monad_563 : mj_dec prog_14_method_29_code 563 = some (.aload_n 0, 1) := by decide +kernel
theorem dm_X12_monad_564 : mj_dec prog_14_method_29_code 564 = some (.aload_n 0, 1) := by decide +kernel
theorem dm_X12_monad_565 : mj_dec prog_14_method_29_code 565 = some (.iconst 0, 1) := by decide +kernel
theorem dm_X12_monad_566 : mj_dec prog_14_method_29_code 566 = some (.iload 4, 2) := by decide +kernel
theorem dm_X12_monad_568 : mj_dec prog_14_method_29_code 568 = some (.i2l, 1) := by decide +kernel
theorem dm_X12_monad_569 : mj_dec prog_14_method_29_code 569 = some (.invokevirtual 105, 3) := by decide +kernel
theorem dm_X12_monad_572 : mj_dec prog_14_method_29_code 572 = some (.iload_n 3, 1) := by decide +kernel
theorem dm_X12_monad_573 : mj_dec prog_14_method_29_code 573 = some (.invokevirtual 208, 3) := by decide +kernel
theorem dm_X12_monad_576 : mj_dec prog_14_method_29_code 576 = some (.ireturn, 1) := by decide +kernel
theorem r_mon64 {xt : mj_X} {d hd q b base W : Nat} {pre post : mj_H} {s : RS} {v : VV} {place nd verb : Int} (hm : pre.length = 102) (hd1 : 60 ≤ d) (hRS : RSO) (hB : rB s) (hv : rv s 7 hd v) (hh3 : 3 ≤ hd) (hz1 : vsz 7 v ≤ 1000) (hz2 : vlv 7 v ≤ 5) (hq : s.1 4 = (q : Int)) (hb : s.1 3 = (b : Int)) (hq3 : 3 ≤ q) (hV2 : q + 2100 < 310000) (he0 : s.1 5 = 0) (hca : 0 ≤ s.1 10 ∧ s.1 10 ≤ 100) (hC : b + 291000 ≤ 820000) (hw13 : s.1 13 = (base : Int)) (hbs : base ≤ 7900) (h8 : s.1 8 = (W : Int)) (hW5 : W ≤ 500000) (hnd : 0 ≤ nd) (hvb : verb = 64) : pgV xt d 281 [.ref 102, ii verb, ii (hd : Int), ii place] (rS pre post s) (dres pre post s W 4 nd (dOne (cpS s) W verb v place)) := by
  have hB0 := hB
  obtain ⟨hB1, hB2, hB3, hB4⟩ := hB
  obtain ⟨fr, hfr, hsh, hlt, hcl, hvk, hvm, hvc, hvq, hvcl⟩ := rv_val hv
  have hvb2 : -2147483648 ≤ verb ∧ verb ≤ 2147483647 := by omega
  refine x_enter pm_X12_monad (L0 := [(0, .ref 102), (1, ii verb), (2, ii (hd : Int)), (3, ii place)]) rfl (Nat.le_of_ble_eq_true rfl) (by omega) ?_
  refine me1 (pc' := 1) (L' := [(0, .ref 102), (1, ii verb), (2, ii (hd : Int)), (3, ii place)]) (S' := [.ref 102]) dm_X12_monad_0 rfl rfl rfl rfl ?_
  refine me1 (pc' := 2) (L' := [(0, .ref 102), (1, ii verb), (2, ii (hd : Int)), (3, ii place)]) (S' := [ii (hd : Int), .ref 102]) dm_X12_monad_1 rfl rfl rfl rfl ?_
  refine x_cp (pc' := 5) (v := ii (vk v : Int)) (rest := []) dm_X12_monad_2 rfl (q_inv (As := [ii (hd : Int)]) (S := []) hm rfl rfl rfl) rfl rfl rfl (r_kindOf_ (e := 6) hm (by omega) hB0 hv) ?_
  refine me1 (pc' := 7) (L' := [(4, ii (vk v : Int)), (0, .ref 102), (1, ii verb), (2, ii (hd : Int)), (3, ii place)]) (S' := []) dm_X12_monad_5 rfl rfl rfl rfl ?_
  refine me1 (pc' := 8) (L' := [(4, ii (vk v : Int)), (0, .ref 102), (1, ii verb), (2, ii (hd : Int)), (3, ii place)]) (S' := [.ref 102]) dm_X12_monad_7 rfl rfl rfl rfl ?_
  refine me0 (pc' := 9) (S' := [ii 3, .ref 102]) dm_X12_monad_8 rfl rfl rfl rfl ?_
  refine me1 (pc' := 10) (L' := [(4, ii (vk v : Int)), (0, .ref 102), (1, ii verb), (2, ii (hd : Int)), (3, ii place)]) (S' := [.ref 102, ii 3, .ref 102]) dm_X12_monad_9 rfl rfl rfl rfl ?_
  refine me1 (pc' := 11) (L' := [(4, ii (vk v : Int)), (0, .ref 102), (1, ii verb), (2, ii (hd : Int)), (3, ii place)]) (S' := [ii (hd : Int), .ref 102, ii 3, .ref 102]) dm_X12_monad_10 rfl rfl rfl rfl ?_
  refine x_cp (pc' := 14) (v := ii (vsz 7 v : Int)) (rest := [ii 3, .ref 102]) dm_X12_monad_11 rfl (q_inv (As := [ii (hd : Int)]) (S := [ii 3, .ref 102]) hm rfl rfl rfl) rfl rfl rfl (r_sizeOf_ hm hB0 7 (by omega) hv) ?_
  refine y_iadd (a := 3) (b := (vsz 7 v : Int)) dm_X12_monad_14 (pc' := 15) rfl ?_
  refine pg_st (S' := [ii ((3 + vS v : Nat) : Int), .ref 102]) (congrArg (fun z => ii z :: [.ref 102]) (show 3 + (vsz 7 v : Int) = ((3 + vS v : Nat) : Int) by show _ = ((3 + vsz 7 v : Nat) : Int); omega)) ?_
  have hvS : vS v = vsz 7 v := rfl
  by_cases hW : W < 3 + vS v
  · refine me1 (pc' := 16) (L' := [(4, ii (vk v : Int)), (0, .ref 102), (1, ii verb), (2, ii (hd : Int)), (3, ii place)]) (S' := [ii place, ii ((3 + vS v : Nat) : Int), .ref 102]) dm_X12_monad_15 rfl rfl rfl rfl ?_
    refine x_cv (pc' := 19) (rest := []) dm_X12_monad_16 rfl (q_inv (As := [ii ((3 + vS v : Nat) : Int), ii place]) (S := []) hm rfl rfl rfl) rfl rfl rfl ((by have z := r_takes_ (xt := xt) (d := d - 1) (pre := pre) (post := post) (s := s) (n := ((3 + vS v : Nat) : Int)) (place := place) hm (by omega) he0 hca.1 hca.2 (by omega) (by omega) (by omega); rw [tkS_f (by omega), decide_eq_false (by omega)] at z; exact z)) ?_
    rintro _ _ ⟨rfl, rfl⟩
    refine me_1f (pc' := 22) dm_X12_monad_19 rfl (by decide) rfl ?_
    refine me0 (pc' := 23) (S' := [ii (-1)]) dm_X12_monad_22 rfl rfl rfl rfl ?_
    refine y_ret (r := some (ii (-1))) dm_X12_monad_23 rfl rfl rfl ?_
    refine ⟨_, rfl, ?_⟩
    rw [show dOne (cpS s) W verb v place = dEr (cpS s) W 10 place from dAc_no hW]
    exact tk_no (n := 0) he0 h8 hnd
  · refine me1 (pc' := 16) (L' := [(4, ii (vk v : Int)), (0, .ref 102), (1, ii verb), (2, ii (hd : Int)), (3, ii place)]) (S' := [ii place, ii ((3 + vS v : Nat) : Int), .ref 102]) dm_X12_monad_15 rfl rfl rfl rfl ?_
    refine x_cv (pc' := 19) (rest := []) dm_X12_monad_16 rfl (q_inv (As := [ii ((3 + vS v : Nat) : Int), ii place]) (S := []) hm rfl rfl rfl) rfl rfl rfl ((by have z := r_takes_ (xt := xt) (d := d - 1) (pre := pre) (post := post) (s := s) (n := ((3 + vS v : Nat) : Int)) (place := place) hm (by omega) he0 hca.1 hca.2 (by omega) (by omega) (by omega); rw [tkS_t (by omega), decide_eq_true (by omega)] at z; exact z)) ?_
    rintro _ _ ⟨rfl, rfl⟩
    refine me_1t (pc' := 24) dm_X12_monad_19 rfl (by decide) ?_
    refine me1 (pc' := 25) (L' := [(4, ii (vk v : Int)), (0, .ref 102), (1, ii verb), (2, ii (hd : Int)), (3, ii place)]) (S' := [.ref 102]) dm_X12_monad_24 rfl rfl rfl rfl ?_
    refine me0 (pc' := 26) (S' := [ii 0, .ref 102]) dm_X12_monad_25 rfl rfl rfl rfl ?_
    refine me3 (pc' := 29) (S' := []) (h1 := rI pre post (va_up ((takeS s ((3 + vS v : Nat) : Int)).1) 9 0) ((takeS s ((3 + vS v : Nat) : Int)).2.1) ((takeS s ((3 + vS v : Nat) : Int)).2.2.1) ((takeS s ((3 + vS v : Nat) : Int)).2.2.2)) dm_X12_monad_26 (q_puti hm rfl rfl (fun m i l v => rf_9 m i l v)) rfl rfl rfl ?_
    obtain ⟨s2, hs2⟩ : ∃ s2 : RS, s2 = (va_up (takeS s ((3 + vS v : Nat) : Int)).1 9 0, (takeS s ((3 + vS v : Nat) : Int)).2.1, (takeS s ((3 + vS v : Nat) : Int)).2.2.1, (takeS s ((3 + vS v : Nat) : Int)).2.2.2) := ⟨_, rfl⟩
    have hT := tk_tkd (W := W) hs2 he0 h8 (by omega)
    have hqS : s2.1 4 = (q : Int) := hT.2.2.2.1.trans hq
    have hbS : s2.1 3 = (b : Int) := hT.2.2.1.trans hb
    have heS : s2.1 5 = 0 := hT.2.2.2.2.1
    have hwS : s2.1 13 = (base : Int) := hT.2.2.2.2.2.2.1.trans hw13
    have hcaS : 0 ≤ s2.1 10 ∧ s2.1 10 ≤ 100 := by rw [hT.2.1.1 10 (by decide) (by decide) (by decide) (by decide) (by decide) (by decide) (by decide) (by decide) (by decide) (by decide)]; exact hca
    have hBs : rB s2 := ⟨by omega, by omega, by omega, by omega⟩
    have hvs := rv_ext hT.1 hh3 hv
    have hrs := hRS verb v (rv_wf hv) hz1 hz2
    have hww : W - (3 + vS v) + (3 + vS v) = W := by omega
    refine pg_cast (h2 := rI pre post s2.1 s2.2.1 s2.2.2.1 s2.2.2.2) (by rw [hs2]) ?_
    refine me1 (pc' := 30) (L' := [(4, ii (vk v : Int)), (0, .ref 102), (1, ii verb), (2, ii (hd : Int)), (3, ii place)]) (S' := [ii verb]) dm_X12_monad_29 rfl rfl rfl rfl ?_
    have hsp : s_one verb 6 v = .inr (v1 0 (Int64.ofInt (vk v : Int))) := by unfold s_one; rw [if_neg (by omega), if_neg (by omega), if_neg (by omega), if_neg (by omega), if_neg (by omega), if_neg (by omega), if_neg (by omega), if_neg (by omega), if_neg (by omega), if_neg (by omega), if_neg (by omega), if_neg (by omega), if_neg (by omega), if_pos (by omega)]
    refine y_sw (a := verb) (33) (t := 413) (i := .lookupswitch 547 #[(33, 383), (35, 505), (37, 176), (38, 218), (42, 189), (43, 154), (44, 482), (45, 176), (46, 493), (60, 294), (61, 359), (62, 294), (63, 371), (64, 533), (94, 294), (95, 522), (124, 230), (126, 176)]) (len := 154) dm_X12_monad_30 rfl rfl rfl (by omega) (by decide) (fun hb1 => ?_) (fun hb1 => ?_)
    · exfalso; omega
    refine y_sw (a := verb) (35) (t := 535) (i := .lookupswitch 547 #[(33, 383), (35, 505), (37, 176), (38, 218), (42, 189), (43, 154), (44, 482), (45, 176), (46, 493), (60, 294), (61, 359), (62, 294), (63, 371), (64, 533), (94, 294), (95, 522), (124, 230), (126, 176)]) (len := 154) dm_X12_monad_30 rfl rfl rfl (by omega) (by decide) (fun hb2 => ?_) (fun hb2 => ?_)
    · exfalso; omega
    refine y_sw (a := verb) (37) (t := 206) (i := .lookupswitch 547 #[(33, 383), (35, 505), (37, 176), (38, 218), (42, 189), (43, 154), (44, 482), (45, 176), (46, 493), (60, 294), (61, 359), (62, 294), (63, 371), (64, 533), (94, 294), (95, 522), (124, 230), (126, 176)]) (len := 154) dm_X12_monad_30 rfl rfl rfl (by omega) (by decide) (fun hb3 => ?_) (fun hb3 => ?_)
    · exfalso; omega
    refine y_sw (a := verb) (38) (t := 248) (i := .lookupswitch 547 #[(33, 383), (35, 505), (37, 176), (38, 218), (42, 189), (43, 154), (44, 482), (45, 176), (46, 493), (60, 294), (61, 359), (62, 294), (63, 371), (64, 533), (94, 294), (95, 522), (124, 230), (126, 176)]) (len := 154) dm_X12_monad_30 rfl rfl rfl (by omega) (by decide) (fun hb4 => ?_) (fun hb4 => ?_)
    · exfalso; omega
    refine y_sw (a := verb) (42) (t := 219) (i := .lookupswitch 547 #[(33, 383), (35, 505), (37, 176), (38, 218), (42, 189), (43, 154), (44, 482), (45, 176), (46, 493), (60, 294), (61, 359), (62, 294), (63, 371), (64, 533), (94, 294), (95, 522), (124, 230), (126, 176)]) (len := 154) dm_X12_monad_30 rfl rfl rfl (by omega) (by decide) (fun hb5 => ?_) (fun hb5 => ?_)
    · exfalso; omega
    refine y_sw (a := verb) (43) (t := 184) (i := .lookupswitch 547 #[(33, 383), (35, 505), (37, 176), (38, 218), (42, 189), (43, 154), (44, 482), (45, 176), (46, 493), (60, 294), (61, 359), (62, 294), (63, 371), (64, 533), (94, 294), (95, 522), (124, 230), (126, 176)]) (len := 154) dm_X12_monad_30 rfl rfl rfl (by omega) (by decide) (fun hb6 => ?_) (fun hb6 => ?_)
    · exfalso; omega
    refine y_sw (a := verb) (44) (t := 512) (i := .lookupswitch 547 #[(33, 383), (35, 505), (37, 176), (38, 218), (42, 189), (43, 154), (44, 482), (45, 176), (46, 493), (60, 294), (61, 359), (62, 294), (63, 371), (64, 533), (94, 294), (95, 522), (124, 230), (126, 176)]) (len := 154) dm_X12_monad_30 rfl rfl rfl (by omega) (by decide) (fun hb7 => ?_) (fun hb7 => ?_)
    · exfalso; omega
    refine y_sw (a := verb) (45) (t := 206) (i := .lookupswitch 547 #[(33, 383), (35, 505), (37, 176), (38, 218), (42, 189), (43, 154), (44, 482), (45, 176), (46, 493), (60, 294), (61, 359), (62, 294), (63, 371), (64, 533), (94, 294), (95, 522), (124, 230), (126, 176)]) (len := 154) dm_X12_monad_30 rfl rfl rfl (by omega) (by decide) (fun hb8 => ?_) (fun hb8 => ?_)
    · exfalso; omega
    refine y_sw (a := verb) (46) (t := 523) (i := .lookupswitch 547 #[(33, 383), (35, 505), (37, 176), (38, 218), (42, 189), (43, 154), (44, 482), (45, 176), (46, 493), (60, 294), (61, 359), (62, 294), (63, 371), (64, 533), (94, 294), (95, 522), (124, 230), (126, 176)]) (len := 154) dm_X12_monad_30 rfl rfl rfl (by omega) (by decide) (fun hb9 => ?_) (fun hb9 => ?_)
    · exfalso; omega
    refine y_sw (a := verb) (60) (t := 324) (i := .lookupswitch 547 #[(33, 383), (35, 505), (37, 176), (38, 218), (42, 189), (43, 154), (44, 482), (45, 176), (46, 493), (60, 294), (61, 359), (62, 294), (63, 371), (64, 533), (94, 294), (95, 522), (124, 230), (126, 176)]) (len := 154) dm_X12_monad_30 rfl rfl rfl (by omega) (by decide) (fun hb10 => ?_) (fun hb10 => ?_)
    · exfalso; omega
    refine y_sw (a := verb) (61) (t := 389) (i := .lookupswitch 547 #[(33, 383), (35, 505), (37, 176), (38, 218), (42, 189), (43, 154), (44, 482), (45, 176), (46, 493), (60, 294), (61, 359), (62, 294), (63, 371), (64, 533), (94, 294), (95, 522), (124, 230), (126, 176)]) (len := 154) dm_X12_monad_30 rfl rfl rfl (by omega) (by decide) (fun hb11 => ?_) (fun hb11 => ?_)
    · exfalso; omega
    refine y_sw (a := verb) (62) (t := 324) (i := .lookupswitch 547 #[(33, 383), (35, 505), (37, 176), (38, 218), (42, 189), (43, 154), (44, 482), (45, 176), (46, 493), (60, 294), (61, 359), (62, 294), (63, 371), (64, 533), (94, 294), (95, 522), (124, 230), (126, 176)]) (len := 154) dm_X12_monad_30 rfl rfl rfl (by omega) (by decide) (fun hb12 => ?_) (fun hb12 => ?_)
    · exfalso; omega
    refine y_sw (a := verb) (63) (t := 401) (i := .lookupswitch 547 #[(33, 383), (35, 505), (37, 176), (38, 218), (42, 189), (43, 154), (44, 482), (45, 176), (46, 493), (60, 294), (61, 359), (62, 294), (63, 371), (64, 533), (94, 294), (95, 522), (124, 230), (126, 176)]) (len := 154) dm_X12_monad_30 rfl rfl rfl (by omega) (by decide) (fun hb13 => ?_) (fun hb13 => ?_)
    · exfalso; omega
    refine y_sw (a := verb) (64) (t := 563) (i := .lookupswitch 547 #[(33, 383), (35, 505), (37, 176), (38, 218), (42, 189), (43, 154), (44, 482), (45, 176), (46, 493), (60, 294), (61, 359), (62, 294), (63, 371), (64, 533), (94, 294), (95, 522), (124, 230), (126, 176)]) (len := 154) dm_X12_monad_30 rfl rfl rfl (by omega) (by decide) (fun hb14 => ?_) (fun hb14 => ?_)
    · refine me1 (pc' := 564) (L' := [(4, ii (vk v : Int)), (0, .ref 102), (1, ii verb), (2, ii (hd : Int)), (3, ii place)]) (S' := [.ref 102]) dm_X12_monad_563 rfl rfl rfl rfl ?_
      refine me1 (pc' := 565) (L' := [(4, ii (vk v : Int)), (0, .ref 102), (1, ii verb), (2, ii (hd : Int)), (3, ii place)]) (S' := [.ref 102, .ref 102]) dm_X12_monad_564 rfl rfl rfl rfl ?_
      refine me0 (pc' := 566) (S' := [ii 0, .ref 102, .ref 102]) dm_X12_monad_565 rfl rfl rfl rfl ?_
      refine me1 (pc' := 568) (L' := [(4, ii (vk v : Int)), (0, .ref 102), (1, ii verb), (2, ii (hd : Int)), (3, ii place)]) (S' := [ii (vk v : Int), ii 0, .ref 102, .ref 102]) dm_X12_monad_566 rfl rfl rfl rfl ?_
      refine y_i2l (a := (vk v : Int)) dm_X12_monad_568 (pc' := 569) rfl (by omega) (by omega) ?_
      refine x_cv (pc' := 572) (rest := [.ref 102]) dm_X12_monad_569 rfl (q_inv (As := [ii 0, .long (Int64.ofInt (vk v : Int))]) (S := [.ref 102]) hm rfl rfl rfl) rfl rfl rfl (r_one_ (s := s2) (q := q) (b := b) hm (by omega) hqS hbS (by omega) (by omega) (by omega)) ?_
      rintro _ _ ⟨rfl, rfl⟩
      have hG : rG pre post s2 8 (.inr (v1 0 (Int64.ofInt (vk v : Int)))) place (rcb (.inr (v1 0 (Int64.ofInt (vk v : Int)))) 1) (rvb (.inr (v1 0 (Int64.ofInt (vk v : Int)))) 1) (ii (q : Int)) (rS pre post (fillS (rowS s2 q b 0 1) b 1 (fun _ => (Int64.ofInt (vk v : Int))))) := rG_r (rres_row (e := 7) (kind := 0) (n := 1) (w := v1 0 (Int64.ofInt (vk v : Int))) hqS hq3 hbS heS (vw1_one (by omega)) (by show ¬ 0 = 7; omega) (by show ¬ 0 = 6; omega) rfl rfl rfl (fun k hk => by rw [show k = 0 by omega]; rfl) (Nat.le_refl _) (Nat.le_refl _))
      refine me1 (pc' := 573) (L' := [(4, ii (vk v : Int)), (0, .ref 102), (1, ii verb), (2, ii (hd : Int)), (3, ii place)]) (S' := [ii place, ii (q : Int), .ref 102]) dm_X12_monad_572 rfl rfl rfl rfl ?_
      refine x_cv (pc' := 576) (rest := []) dm_X12_monad_573 rfl (q_inv (As := [ii (q : Int), ii place]) (S := []) hm rfl rfl rfl) rfl rfl rfl (r_mdo1 (s := s) (s2 := s2) (W2 := W - (3 + vS v)) (cost := 3 + vS v) (cb := 1) (o := .inr (v1 0 (Int64.ofInt (vk v : Int)))) (c := 4) (nd := nd) hm (by omega) hT hB0 hG hca (by omega) hnd (fun n hn => hrs.1 n (hsp.trans hn)) (fun r hr => hrs.2 r (hsp.trans hr)) (by omega) (by omega) (by omega)) ?_
      rintro x9 g9 hfin
      obtain ⟨z9, rfl⟩ := dres_ii hfin
      obtain ⟨t9, rfl⟩ := dres_st hfin
      refine y_ret (r := some (ii z9)) dm_X12_monad_576 rfl rfl rfl ?_
      have e9 : dOne (cpS s) W verb v place = dMo (cpS s) (W - (3 + vS v)) 0 (.inr (v1 0 (Int64.ofInt (vk v : Int)))) place := by unfold dOne; rw [dAc_mo (by omega), hsp]
      rw [hww] at hfin
      rw [e9]
      exact ⟨_, rfl, hfin⟩
    refine y_sw (a := verb) (94) (t := 324) (i := .lookupswitch 547 #[(33, 383), (35, 505), (37, 176), (38, 218), (42, 189), (43, 154), (44, 482), (45, 176), (46, 493), (60, 294), (61, 359), (62, 294), (63, 371), (64, 533), (94, 294), (95, 522), (124, 230), (126, 176)]) (len := 154) dm_X12_monad_30 rfl rfl rfl (by omega) (by decide) (fun hb15 => ?_) (fun hb15 => ?_)
    · exfalso; omega
    refine y_sw (a := verb) (95) (t := 552) (i := .lookupswitch 547 #[(33, 383), (35, 505), (37, 176), (38, 218), (42, 189), (43, 154), (44, 482), (45, 176), (46, 493), (60, 294), (61, 359), (62, 294), (63, 371), (64, 533), (94, 294), (95, 522), (124, 230), (126, 176)]) (len := 154) dm_X12_monad_30 rfl rfl rfl (by omega) (by decide) (fun hb16 => ?_) (fun hb16 => ?_)
    · exfalso; omega
    refine y_sw (a := verb) (124) (t := 260) (i := .lookupswitch 547 #[(33, 383), (35, 505), (37, 176), (38, 218), (42, 189), (43, 154), (44, 482), (45, 176), (46, 493), (60, 294), (61, 359), (62, 294), (63, 371), (64, 533), (94, 294), (95, 522), (124, 230), (126, 176)]) (len := 154) dm_X12_monad_30 rfl rfl rfl (by omega) (by decide) (fun hb17 => ?_) (fun hb17 => ?_)
    · exfalso; omega
    refine y_sw (a := verb) (126) (t := 206) (i := .lookupswitch 547 #[(33, 383), (35, 505), (37, 176), (38, 218), (42, 189), (43, 154), (44, 482), (45, 176), (46, 493), (60, 294), (61, 359), (62, 294), (63, 371), (64, 533), (94, 294), (95, 522), (124, 230), (126, 176)]) (len := 154) dm_X12_monad_30 rfl rfl rfl (by omega) (by decide) (fun hb18 => ?_) (fun hb18 => ?_)
    · exfalso; omega
    exfalso; omega
theorem dm_X12_monad_219 : mj_dec prog_14_method_29_code 219 = some (.aload_n 0, 1) := by decide +kernel
theorem dm_X12_monad_220 : mj_dec prog_14_method_29_code 220 = some (.iload_n 2, 1) := by decide +kernel
theorem dm_X12_monad_221 : mj_dec prog_14_method_29_code 221 = some (.invokevirtual 134, 3) := by decide +kernel
theorem dm_X12_monad_224 : mj_dec prog_14_method_29_code 224 = some (.ifCond .ne 12, 3) := by decide +kernel
theorem dm_X12_monad_227 : mj_dec prog_14_method_29_code 227 = some (.aload_n 0, 1) := by decide +kernel
theorem dm_X12_monad_228 : mj_dec prog_14_method_29_code 228 = some (.iconst 4, 1) := by decide +kernel
theorem dm_X12_monad_229 : mj_dec prog_14_method_29_code 229 = some (.iload_n 3, 1) := by decide +kernel
theorem dm_X12_monad_230 : mj_dec prog_14_method_29_code 230 = some (.invokevirtual 190, 3) := by decide +kernel
theorem dm_X12_monad_233 : mj_dec prog_14_method_29_code 233 = some (.goto 14, 3) := by decide +kernel
theorem dm_X12_monad_236 : mj_dec prog_14_method_29_code 236 = some (.aload_n 0, 1) := by decide +kernel
theorem dm_X12_monad_237 : mj_dec prog_14_method_29_code 237 = some (.aload_n 0, 1) := by decide +kernel
theorem dm_X12_monad_238 : mj_dec prog_14_method_29_code 238 = some (.iload_n 2, 1) := by decide +kernel
theorem dm_X12_monad_239 : mj_dec prog_14_method_29_code 239 = some (.iconst 0, 1) := by decide +kernel
theorem dm_X12_monad_240 : mj_dec prog_14_method_29_code 240 = some (.invokevirtual 217, 3) := by decide +kernel
theorem dm_X12_monad_243 : mj_dec prog_14_method_29_code 243 = some (.iload_n 3, 1) := by decide +kernel
theorem dm_X12_monad_244 : mj_dec prog_14_method_29_code 244 = some (.invokevirtual 208, 3) := by decide +kernel
theorem dm_X12_monad_247 : mj_dec prog_14_method_29_code 247 = some (.ireturn, 1) := by decide +kernel
theorem r_mon42 {xt : mj_X} {d hd q b base W : Nat} {pre post : mj_H} {s : RS} {v : VV} {place nd verb : Int} (hm : pre.length = 102) (hd1 : 60 ≤ d) (hRS : RSO) (hB : rB s) (hv : rv s 7 hd v) (hh3 : 3 ≤ hd) (hz1 : vsz 7 v ≤ 1000) (hz2 : vlv 7 v ≤ 5) (hq : s.1 4 = (q : Int)) (hb : s.1 3 = (b : Int)) (hq3 : 3 ≤ q) (hV2 : q + 2100 < 310000) (he0 : s.1 5 = 0) (hca : 0 ≤ s.1 10 ∧ s.1 10 ≤ 100) (hC : b + 291000 ≤ 820000) (hw13 : s.1 13 = (base : Int)) (hbs : base ≤ 7900) (h8 : s.1 8 = (W : Int)) (hW5 : W ≤ 500000) (hnd : 0 ≤ nd) (hvb : verb = 42) : pgV xt d 281 [.ref 102, ii verb, ii (hd : Int), ii place] (rS pre post s) (dres pre post s W 4 nd (dOne (cpS s) W verb v place)) := by
  have hB0 := hB
  obtain ⟨hB1, hB2, hB3, hB4⟩ := hB
  obtain ⟨fr, hfr, hsh, hlt, hcl, hvk, hvm, hvc, hvq, hvcl⟩ := rv_val hv
  have hvb2 : -2147483648 ≤ verb ∧ verb ≤ 2147483647 := by omega
  refine x_enter pm_X12_monad (L0 := [(0, .ref 102), (1, ii verb), (2, ii (hd : Int)), (3, ii place)]) rfl (Nat.le_of_ble_eq_true rfl) (by omega) ?_
  refine me1 (pc' := 1) (L' := [(0, .ref 102), (1, ii verb), (2, ii (hd : Int)), (3, ii place)]) (S' := [.ref 102]) dm_X12_monad_0 rfl rfl rfl rfl ?_
  refine me1 (pc' := 2) (L' := [(0, .ref 102), (1, ii verb), (2, ii (hd : Int)), (3, ii place)]) (S' := [ii (hd : Int), .ref 102]) dm_X12_monad_1 rfl rfl rfl rfl ?_
  refine x_cp (pc' := 5) (v := ii (vk v : Int)) (rest := []) dm_X12_monad_2 rfl (q_inv (As := [ii (hd : Int)]) (S := []) hm rfl rfl rfl) rfl rfl rfl (r_kindOf_ (e := 6) hm (by omega) hB0 hv) ?_
  refine me1 (pc' := 7) (L' := [(4, ii (vk v : Int)), (0, .ref 102), (1, ii verb), (2, ii (hd : Int)), (3, ii place)]) (S' := []) dm_X12_monad_5 rfl rfl rfl rfl ?_
  refine me1 (pc' := 8) (L' := [(4, ii (vk v : Int)), (0, .ref 102), (1, ii verb), (2, ii (hd : Int)), (3, ii place)]) (S' := [.ref 102]) dm_X12_monad_7 rfl rfl rfl rfl ?_
  refine me0 (pc' := 9) (S' := [ii 3, .ref 102]) dm_X12_monad_8 rfl rfl rfl rfl ?_
  refine me1 (pc' := 10) (L' := [(4, ii (vk v : Int)), (0, .ref 102), (1, ii verb), (2, ii (hd : Int)), (3, ii place)]) (S' := [.ref 102, ii 3, .ref 102]) dm_X12_monad_9 rfl rfl rfl rfl ?_
  refine me1 (pc' := 11) (L' := [(4, ii (vk v : Int)), (0, .ref 102), (1, ii verb), (2, ii (hd : Int)), (3, ii place)]) (S' := [ii (hd : Int), .ref 102, ii 3, .ref 102]) dm_X12_monad_10 rfl rfl rfl rfl ?_
  refine x_cp (pc' := 14) (v := ii (vsz 7 v : Int)) (rest := [ii 3, .ref 102]) dm_X12_monad_11 rfl (q_inv (As := [ii (hd : Int)]) (S := [ii 3, .ref 102]) hm rfl rfl rfl) rfl rfl rfl (r_sizeOf_ hm hB0 7 (by omega) hv) ?_
  refine y_iadd (a := 3) (b := (vsz 7 v : Int)) dm_X12_monad_14 (pc' := 15) rfl ?_
  refine pg_st (S' := [ii ((3 + vS v : Nat) : Int), .ref 102]) (congrArg (fun z => ii z :: [.ref 102]) (show 3 + (vsz 7 v : Int) = ((3 + vS v : Nat) : Int) by show _ = ((3 + vsz 7 v : Nat) : Int); omega)) ?_
  have hvS : vS v = vsz 7 v := rfl
  by_cases hW : W < 3 + vS v
  · refine me1 (pc' := 16) (L' := [(4, ii (vk v : Int)), (0, .ref 102), (1, ii verb), (2, ii (hd : Int)), (3, ii place)]) (S' := [ii place, ii ((3 + vS v : Nat) : Int), .ref 102]) dm_X12_monad_15 rfl rfl rfl rfl ?_
    refine x_cv (pc' := 19) (rest := []) dm_X12_monad_16 rfl (q_inv (As := [ii ((3 + vS v : Nat) : Int), ii place]) (S := []) hm rfl rfl rfl) rfl rfl rfl ((by have z := r_takes_ (xt := xt) (d := d - 1) (pre := pre) (post := post) (s := s) (n := ((3 + vS v : Nat) : Int)) (place := place) hm (by omega) he0 hca.1 hca.2 (by omega) (by omega) (by omega); rw [tkS_f (by omega), decide_eq_false (by omega)] at z; exact z)) ?_
    rintro _ _ ⟨rfl, rfl⟩
    refine me_1f (pc' := 22) dm_X12_monad_19 rfl (by decide) rfl ?_
    refine me0 (pc' := 23) (S' := [ii (-1)]) dm_X12_monad_22 rfl rfl rfl rfl ?_
    refine y_ret (r := some (ii (-1))) dm_X12_monad_23 rfl rfl rfl ?_
    refine ⟨_, rfl, ?_⟩
    rw [show dOne (cpS s) W verb v place = dEr (cpS s) W 10 place from dAc_no hW]
    exact tk_no (n := 0) he0 h8 hnd
  · refine me1 (pc' := 16) (L' := [(4, ii (vk v : Int)), (0, .ref 102), (1, ii verb), (2, ii (hd : Int)), (3, ii place)]) (S' := [ii place, ii ((3 + vS v : Nat) : Int), .ref 102]) dm_X12_monad_15 rfl rfl rfl rfl ?_
    refine x_cv (pc' := 19) (rest := []) dm_X12_monad_16 rfl (q_inv (As := [ii ((3 + vS v : Nat) : Int), ii place]) (S := []) hm rfl rfl rfl) rfl rfl rfl ((by have z := r_takes_ (xt := xt) (d := d - 1) (pre := pre) (post := post) (s := s) (n := ((3 + vS v : Nat) : Int)) (place := place) hm (by omega) he0 hca.1 hca.2 (by omega) (by omega) (by omega); rw [tkS_t (by omega), decide_eq_true (by omega)] at z; exact z)) ?_
    rintro _ _ ⟨rfl, rfl⟩
    refine me_1t (pc' := 24) dm_X12_monad_19 rfl (by decide) ?_
    refine me1 (pc' := 25) (L' := [(4, ii (vk v : Int)), (0, .ref 102), (1, ii verb), (2, ii (hd : Int)), (3, ii place)]) (S' := [.ref 102]) dm_X12_monad_24 rfl rfl rfl rfl ?_
    refine me0 (pc' := 26) (S' := [ii 0, .ref 102]) dm_X12_monad_25 rfl rfl rfl rfl ?_
    refine me3 (pc' := 29) (S' := []) (h1 := rI pre post (va_up ((takeS s ((3 + vS v : Nat) : Int)).1) 9 0) ((takeS s ((3 + vS v : Nat) : Int)).2.1) ((takeS s ((3 + vS v : Nat) : Int)).2.2.1) ((takeS s ((3 + vS v : Nat) : Int)).2.2.2)) dm_X12_monad_26 (q_puti hm rfl rfl (fun m i l v => rf_9 m i l v)) rfl rfl rfl ?_
    obtain ⟨s2, hs2⟩ : ∃ s2 : RS, s2 = (va_up (takeS s ((3 + vS v : Nat) : Int)).1 9 0, (takeS s ((3 + vS v : Nat) : Int)).2.1, (takeS s ((3 + vS v : Nat) : Int)).2.2.1, (takeS s ((3 + vS v : Nat) : Int)).2.2.2) := ⟨_, rfl⟩
    have hT := tk_tkd (W := W) hs2 he0 h8 (by omega)
    have hqS : s2.1 4 = (q : Int) := hT.2.2.2.1.trans hq
    have hbS : s2.1 3 = (b : Int) := hT.2.2.1.trans hb
    have heS : s2.1 5 = 0 := hT.2.2.2.2.1
    have hwS : s2.1 13 = (base : Int) := hT.2.2.2.2.2.2.1.trans hw13
    have hcaS : 0 ≤ s2.1 10 ∧ s2.1 10 ≤ 100 := by rw [hT.2.1.1 10 (by decide) (by decide) (by decide) (by decide) (by decide) (by decide) (by decide) (by decide) (by decide) (by decide)]; exact hca
    have hBs : rB s2 := ⟨by omega, by omega, by omega, by omega⟩
    have hvs := rv_ext hT.1 hh3 hv
    have hrs := hRS verb v (rv_wf hv) hz1 hz2
    have hww : W - (3 + vS v) + (3 + vS v) = W := by omega
    refine pg_cast (h2 := rI pre post s2.1 s2.2.1 s2.2.2.1 s2.2.2.2) (by rw [hs2]) ?_
    refine me1 (pc' := 30) (L' := [(4, ii (vk v : Int)), (0, .ref 102), (1, ii verb), (2, ii (hd : Int)), (3, ii place)]) (S' := [ii verb]) dm_X12_monad_29 rfl rfl rfl rfl ?_
    have hsp : s_one verb 6 v = (if vm v = 0 then .inl 4 else .inr (vit v 0)) := by unfold s_one; rw [if_neg (by omega), if_neg (by omega), if_pos (by omega)]
    refine y_sw (a := verb) (33) (t := 413) (i := .lookupswitch 547 #[(33, 383), (35, 505), (37, 176), (38, 218), (42, 189), (43, 154), (44, 482), (45, 176), (46, 493), (60, 294), (61, 359), (62, 294), (63, 371), (64, 533), (94, 294), (95, 522), (124, 230), (126, 176)]) (len := 154) dm_X12_monad_30 rfl rfl rfl (by omega) (by decide) (fun hb1 => ?_) (fun hb1 => ?_)
    · exfalso; omega
    refine y_sw (a := verb) (35) (t := 535) (i := .lookupswitch 547 #[(33, 383), (35, 505), (37, 176), (38, 218), (42, 189), (43, 154), (44, 482), (45, 176), (46, 493), (60, 294), (61, 359), (62, 294), (63, 371), (64, 533), (94, 294), (95, 522), (124, 230), (126, 176)]) (len := 154) dm_X12_monad_30 rfl rfl rfl (by omega) (by decide) (fun hb2 => ?_) (fun hb2 => ?_)
    · exfalso; omega
    refine y_sw (a := verb) (37) (t := 206) (i := .lookupswitch 547 #[(33, 383), (35, 505), (37, 176), (38, 218), (42, 189), (43, 154), (44, 482), (45, 176), (46, 493), (60, 294), (61, 359), (62, 294), (63, 371), (64, 533), (94, 294), (95, 522), (124, 230), (126, 176)]) (len := 154) dm_X12_monad_30 rfl rfl rfl (by omega) (by decide) (fun hb3 => ?_) (fun hb3 => ?_)
    · exfalso; omega
    refine y_sw (a := verb) (38) (t := 248) (i := .lookupswitch 547 #[(33, 383), (35, 505), (37, 176), (38, 218), (42, 189), (43, 154), (44, 482), (45, 176), (46, 493), (60, 294), (61, 359), (62, 294), (63, 371), (64, 533), (94, 294), (95, 522), (124, 230), (126, 176)]) (len := 154) dm_X12_monad_30 rfl rfl rfl (by omega) (by decide) (fun hb4 => ?_) (fun hb4 => ?_)
    · exfalso; omega
    refine y_sw (a := verb) (42) (t := 219) (i := .lookupswitch 547 #[(33, 383), (35, 505), (37, 176), (38, 218), (42, 189), (43, 154), (44, 482), (45, 176), (46, 493), (60, 294), (61, 359), (62, 294), (63, 371), (64, 533), (94, 294), (95, 522), (124, 230), (126, 176)]) (len := 154) dm_X12_monad_30 rfl rfl rfl (by omega) (by decide) (fun hb5 => ?_) (fun hb5 => ?_)
    · refine me1 (pc' := 220) (L' := [(4, ii (vk v : Int)), (0, .ref 102), (1, ii verb), (2, ii (hd : Int)), (3, ii place)]) (S' := [.ref 102]) dm_X12_monad_219 rfl rfl rfl rfl ?_
      refine me1 (pc' := 221) (L' := [(4, ii (vk v : Int)), (0, .ref 102), (1, ii verb), (2, ii (hd : Int)), (3, ii place)]) (S' := [ii (hd : Int), .ref 102]) dm_X12_monad_220 rfl rfl rfl rfl ?_
      refine x_cp (pc' := 224) (v := ii (vm v : Int)) (rest := []) dm_X12_monad_221 rfl (q_inv (As := [ii (hd : Int)]) (S := []) hm rfl rfl rfl) rfl rfl rfl (r_many_ (e := 6) hm (by omega) hBs hvs) ?_
      refine y_1ne (a := (vm v : Int)) (t := 236) (pc' := 227) dm_X12_monad_224 rfl rfl (by omega) (fun hb6 => ?_) (fun hb6 => ?_)
      · have hsp2 : s_one verb 6 v = .inr (vit v 0) := by rw [hsp]; exact if_neg (by omega)
        clear hsp
        have hsp := hsp2
        refine me1 (pc' := 237) (L' := [(4, ii (vk v : Int)), (0, .ref 102), (1, ii verb), (2, ii (hd : Int)), (3, ii place)]) (S' := [.ref 102]) dm_X12_monad_236 rfl rfl rfl rfl ?_
        refine me1 (pc' := 238) (L' := [(4, ii (vk v : Int)), (0, .ref 102), (1, ii verb), (2, ii (hd : Int)), (3, ii place)]) (S' := [.ref 102, .ref 102]) dm_X12_monad_237 rfl rfl rfl rfl ?_
        refine me1 (pc' := 239) (L' := [(4, ii (vk v : Int)), (0, .ref 102), (1, ii verb), (2, ii (hd : Int)), (3, ii place)]) (S' := [ii (hd : Int), .ref 102, .ref 102]) dm_X12_monad_238 rfl rfl rfl rfl ?_
        refine me0 (pc' := 240) (S' := [ii 0, ii (hd : Int), .ref 102, .ref 102]) dm_X12_monad_239 rfl rfl rfl rfl ?_
        refine x_cv (pc' := 243) (rest := [.ref 102]) dm_X12_monad_240 rfl (q_inv (As := [ii (hd : Int), ii 0]) (S := [.ref 102]) hm rfl rfl rfl) rfl rfl rfl (r_itemOf_ (k := 0) (e := 6) (q := q) (b := b) (s := s2) (place := place) hm (by omega) hBs hvs hh3 hqS hbS hq3 (by omega) heS hcaS (by omega) (Or.inr (by omega)) (by omega)) ?_
        rintro x1 g1 hres
        have hG : rG pre post s2 8 (.inr (vit v 0)) place (rcb (.inr (vit v 0)) 0) (rvb (.inr (vit v 0)) 1) x1 g1 := rG_up (rG_r hres)
        obtain ⟨z1, rfl⟩ := rG_ii hG
        obtain ⟨t1, rfl⟩ := rG_st hG
        refine me1 (pc' := 244) (L' := [(4, ii (vk v : Int)), (0, .ref 102), (1, ii verb), (2, ii (hd : Int)), (3, ii place)]) (S' := [ii place, ii z1, .ref 102]) dm_X12_monad_243 rfl rfl rfl rfl ?_
        refine x_cv (pc' := 247) (rest := []) dm_X12_monad_244 rfl (q_inv (As := [ii z1, ii place]) (S := []) hm rfl rfl rfl) rfl rfl rfl (r_mdo1 (s := s) (s2 := s2) (W2 := W - (3 + vS v)) (cost := 3 + vS v) (cb := 0) (o := .inr (vit v 0)) (c := 4) (nd := nd) hm (by omega) hT hB0 hG hca (by omega) hnd (fun n hn => hrs.1 n (hsp.trans hn)) (fun r hr => hrs.2 r (hsp.trans hr)) (by omega) (by omega) (by omega)) ?_
        rintro x9 g9 hfin
        obtain ⟨z9, rfl⟩ := dres_ii hfin
        obtain ⟨t9, rfl⟩ := dres_st hfin
        refine y_ret (r := some (ii z9)) dm_X12_monad_247 rfl rfl rfl ?_
        have e9 : dOne (cpS s) W verb v place = dMo (cpS s) (W - (3 + vS v)) 0 (.inr (vit v 0)) place := by unfold dOne; rw [dAc_mo (by omega), hsp]
        rw [hww] at hfin
        rw [e9]
        exact ⟨_, rfl, hfin⟩
      · have hsp2 : s_one verb 6 v = .inl 4 := by rw [hsp]; exact if_pos (by omega)
        clear hsp
        have hsp := hsp2
        refine me1 (pc' := 228) (L' := [(4, ii (vk v : Int)), (0, .ref 102), (1, ii verb), (2, ii (hd : Int)), (3, ii place)]) (S' := [.ref 102]) dm_X12_monad_227 rfl rfl rfl rfl ?_
        refine me0 (pc' := 229) (S' := [ii 4, .ref 102]) dm_X12_monad_228 rfl rfl rfl rfl ?_
        refine me1 (pc' := 230) (L' := [(4, ii (vk v : Int)), (0, .ref 102), (1, ii verb), (2, ii (hd : Int)), (3, ii place)]) (S' := [ii place, ii 4, .ref 102]) dm_X12_monad_229 rfl rfl rfl rfl ?_
        refine x_cv (pc' := 233) (rest := []) dm_X12_monad_230 rfl (q_inv (As := [ii 4, ii place]) (S := []) hm rfl rfl rfl) rfl rfl rfl (r_fail_ (s := s2) hm (by omega) heS hcaS.1 hcaS.2) ?_
        rintro _ _ ⟨rfl, rfl⟩
        refine me2 (pc' := 247) (S' := [ii (-1)]) dm_X12_monad_233 rfl rfl rfl ?_
        refine y_ret (r := some (ii (-1))) dm_X12_monad_247 rfl rfl rfl ?_
        have e9 : dOne (cpS s) W verb v place = dEr (cpS s) (W - (3 + vS v)) 4 place := by unfold dOne; rw [dAc_mo (by omega), hsp]; rfl
        have hfin := dres_fl (pre := pre) (post := post) (c := 4) (nd := nd) (e := 4) (pl := place) hT (by omega) hnd
        rw [hww] at hfin
        rw [e9]
        exact ⟨_, rfl, hfin⟩
    refine y_sw (a := verb) (43) (t := 184) (i := .lookupswitch 547 #[(33, 383), (35, 505), (37, 176), (38, 218), (42, 189), (43, 154), (44, 482), (45, 176), (46, 493), (60, 294), (61, 359), (62, 294), (63, 371), (64, 533), (94, 294), (95, 522), (124, 230), (126, 176)]) (len := 154) dm_X12_monad_30 rfl rfl rfl (by omega) (by decide) (fun hb7 => ?_) (fun hb7 => ?_)
    · exfalso; omega
    refine y_sw (a := verb) (44) (t := 512) (i := .lookupswitch 547 #[(33, 383), (35, 505), (37, 176), (38, 218), (42, 189), (43, 154), (44, 482), (45, 176), (46, 493), (60, 294), (61, 359), (62, 294), (63, 371), (64, 533), (94, 294), (95, 522), (124, 230), (126, 176)]) (len := 154) dm_X12_monad_30 rfl rfl rfl (by omega) (by decide) (fun hb8 => ?_) (fun hb8 => ?_)
    · exfalso; omega
    refine y_sw (a := verb) (45) (t := 206) (i := .lookupswitch 547 #[(33, 383), (35, 505), (37, 176), (38, 218), (42, 189), (43, 154), (44, 482), (45, 176), (46, 493), (60, 294), (61, 359), (62, 294), (63, 371), (64, 533), (94, 294), (95, 522), (124, 230), (126, 176)]) (len := 154) dm_X12_monad_30 rfl rfl rfl (by omega) (by decide) (fun hb9 => ?_) (fun hb9 => ?_)
    · exfalso; omega
    refine y_sw (a := verb) (46) (t := 523) (i := .lookupswitch 547 #[(33, 383), (35, 505), (37, 176), (38, 218), (42, 189), (43, 154), (44, 482), (45, 176), (46, 493), (60, 294), (61, 359), (62, 294), (63, 371), (64, 533), (94, 294), (95, 522), (124, 230), (126, 176)]) (len := 154) dm_X12_monad_30 rfl rfl rfl (by omega) (by decide) (fun hb10 => ?_) (fun hb10 => ?_)
    · exfalso; omega
    refine y_sw (a := verb) (60) (t := 324) (i := .lookupswitch 547 #[(33, 383), (35, 505), (37, 176), (38, 218), (42, 189), (43, 154), (44, 482), (45, 176), (46, 493), (60, 294), (61, 359), (62, 294), (63, 371), (64, 533), (94, 294), (95, 522), (124, 230), (126, 176)]) (len := 154) dm_X12_monad_30 rfl rfl rfl (by omega) (by decide) (fun hb11 => ?_) (fun hb11 => ?_)
    · exfalso; omega
    refine y_sw (a := verb) (61) (t := 389) (i := .lookupswitch 547 #[(33, 383), (35, 505), (37, 176), (38, 218), (42, 189), (43, 154), (44, 482), (45, 176), (46, 493), (60, 294), (61, 359), (62, 294), (63, 371), (64, 533), (94, 294), (95, 522), (124, 230), (126, 176)]) (len := 154) dm_X12_monad_30 rfl rfl rfl (by omega) (by decide) (fun hb12 => ?_) (fun hb12 => ?_)
    · exfalso; omega
    refine y_sw (a := verb) (62) (t := 324) (i := .lookupswitch 547 #[(33, 383), (35, 505), (37, 176), (38, 218), (42, 189), (43, 154), (44, 482), (45, 176), (46, 493), (60, 294), (61, 359), (62, 294), (63, 371), (64, 533), (94, 294), (95, 522), (124, 230), (126, 176)]) (len := 154) dm_X12_monad_30 rfl rfl rfl (by omega) (by decide) (fun hb13 => ?_) (fun hb13 => ?_)
    · exfalso; omega
    refine y_sw (a := verb) (63) (t := 401) (i := .lookupswitch 547 #[(33, 383), (35, 505), (37, 176), (38, 218), (42, 189), (43, 154), (44, 482), (45, 176), (46, 493), (60, 294), (61, 359), (62, 294), (63, 371), (64, 533), (94, 294), (95, 522), (124, 230), (126, 176)]) (len := 154) dm_X12_monad_30 rfl rfl rfl (by omega) (by decide) (fun hb14 => ?_) (fun hb14 => ?_)
    · exfalso; omega
    refine y_sw (a := verb) (64) (t := 563) (i := .lookupswitch 547 #[(33, 383), (35, 505), (37, 176), (38, 218), (42, 189), (43, 154), (44, 482), (45, 176), (46, 493), (60, 294), (61, 359), (62, 294), (63, 371), (64, 533), (94, 294), (95, 522), (124, 230), (126, 176)]) (len := 154) dm_X12_monad_30 rfl rfl rfl (by omega) (by decide) (fun hb15 => ?_) (fun hb15 => ?_)
    · exfalso; omega
    refine y_sw (a := verb) (94) (t := 324) (i := .lookupswitch 547 #[(33, 383), (35, 505), (37, 176), (38, 218), (42, 189), (43, 154), (44, 482), (45, 176), (46, 493), (60, 294), (61, 359), (62, 294), (63, 371), (64, 533), (94, 294), (95, 522), (124, 230), (126, 176)]) (len := 154) dm_X12_monad_30 rfl rfl rfl (by omega) (by decide) (fun hb16 => ?_) (fun hb16 => ?_)
    · exfalso; omega
    refine y_sw (a := verb) (95) (t := 552) (i := .lookupswitch 547 #[(33, 383), (35, 505), (37, 176), (38, 218), (42, 189), (43, 154), (44, 482), (45, 176), (46, 493), (60, 294), (61, 359), (62, 294), (63, 371), (64, 533), (94, 294), (95, 522), (124, 230), (126, 176)]) (len := 154) dm_X12_monad_30 rfl rfl rfl (by omega) (by decide) (fun hb17 => ?_) (fun hb17 => ?_)
    · exfalso; omega
    refine y_sw (a := verb) (124) (t := 260) (i := .lookupswitch 547 #[(33, 383), (35, 505), (37, 176), (38, 218), (42, 189), (43, 154), (44, 482), (45, 176), (46, 493), (60, 294), (61, 359), (62, 294), (63, 371), (64, 533), (94, 294), (95, 522), (124, 230), (126, 176)]) (len := 154) dm_X12_monad_30 rfl rfl rfl (by omega) (by decide) (fun hb18 => ?_) (fun hb18 => ?_)
    · exfalso; omega
    refine y_sw (a := verb) (126) (t := 206) (i := .lookupswitch 547 #[(33, 383), (35, 505), (37, 176), (38, 218), (42, 189), (43, 154), (44, 482), (45, 176), (46, 493), (60, 294), (61, 359), (62, 294), (63, 371), (64, 533), (94, 294), (95, 522), (124, 230), (126, 176)]) (len := 154) dm_X12_monad_30 rfl rfl rfl (by omega) (by decide) (fun hb19 => ?_) (fun hb19 => ?_)
    · exfalso; omega
    exfalso; omega
theorem dm_X12_monad_184 : mj_dec prog_14_method_29_code 184 = some (.aload_n 0, 1) := by decide +kernel
theorem dm_X12_monad_185 : mj_dec prog_14_method_29_code 185 = some (.iload 4, 2) := by decide +kernel
theorem dm_X12_monad_187 : mj_dec prog_14_method_29_code 187 = some (.bipush 6, 2) := by decide +kernel
theorem dm_X12_monad_189 : mj_dec prog_14_method_29_code 189 = some (.if_icmp .ne 11, 3) := by decide +kernel
theorem dm_X12_monad_192 : mj_dec prog_14_method_29_code 192 = some (.aload_n 0, 1) := by decide +kernel
theorem dm_X12_monad_193 : mj_dec prog_14_method_29_code 193 = some (.iload_n 2, 1) := by decide +kernel
theorem dm_X12_monad_194 : mj_dec prog_14_method_29_code 194 = some (.invokevirtual 211, 3) := by decide +kernel
theorem dm_X12_monad_197 : mj_dec prog_14_method_29_code 197 = some (.goto 4, 3) := by decide +kernel
theorem dm_X12_monad_200 : mj_dec prog_14_method_29_code 200 = some (.iload_n 2, 1) := by decide +kernel
theorem dm_X12_monad_201 : mj_dec prog_14_method_29_code 201 = some (.iload_n 3, 1) := by decide +kernel
theorem dm_X12_monad_202 : mj_dec prog_14_method_29_code 202 = some (.invokevirtual 208, 3) := by decide +kernel
theorem dm_X12_monad_205 : mj_dec prog_14_method_29_code 205 = some (.ireturn, 1) := by decide +kernel
theorem r_mon43 {xt : mj_X} {d hd q b base W : Nat} {pre post : mj_H} {s : RS} {v : VV} {place nd verb : Int} (hm : pre.length = 102) (hd1 : 60 ≤ d) (hRS : RSO) (hB : rB s) (hv : rv s 7 hd v) (hh3 : 3 ≤ hd) (hz1 : vsz 7 v ≤ 1000) (hz2 : vlv 7 v ≤ 5) (hq : s.1 4 = (q : Int)) (hb : s.1 3 = (b : Int)) (hq3 : 3 ≤ q) (hV2 : q + 2100 < 310000) (he0 : s.1 5 = 0) (hca : 0 ≤ s.1 10 ∧ s.1 10 ≤ 100) (hC : b + 291000 ≤ 820000) (hw13 : s.1 13 = (base : Int)) (hbs : base ≤ 7900) (h8 : s.1 8 = (W : Int)) (hW5 : W ≤ 500000) (hnd : 0 ≤ nd) (hvb : verb = 43) : pgV xt d 281 [.ref 102, ii verb, ii (hd : Int), ii place] (rS pre post s) (dres pre post s W 4 nd (dOne (cpS s) W verb v place)) := by
  have hB0 := hB
  obtain ⟨hB1, hB2, hB3, hB4⟩ := hB
  obtain ⟨fr, hfr, hsh, hlt, hcl, hvk, hvm, hvc, hvq, hvcl⟩ := rv_val hv
  have hvb2 : -2147483648 ≤ verb ∧ verb ≤ 2147483647 := by omega
  refine x_enter pm_X12_monad (L0 := [(0, .ref 102), (1, ii verb), (2, ii (hd : Int)), (3, ii place)]) rfl (Nat.le_of_ble_eq_true rfl) (by omega) ?_
  refine me1 (pc' := 1) (L' := [(0, .ref 102), (1, ii verb), (2, ii (hd : Int)), (3, ii place)]) (S' := [.ref 102]) dm_X12_monad_0 rfl rfl rfl rfl ?_
  refine me1 (pc' := 2) (L' := [(0, .ref 102), (1, ii verb), (2, ii (hd : Int)), (3, ii place)]) (S' := [ii (hd : Int), .ref 102]) dm_X12_monad_1 rfl rfl rfl rfl ?_
  refine x_cp (pc' := 5) (v := ii (vk v : Int)) (rest := []) dm_X12_monad_2 rfl (q_inv (As := [ii (hd : Int)]) (S := []) hm rfl rfl rfl) rfl rfl rfl (r_kindOf_ (e := 6) hm (by omega) hB0 hv) ?_
  refine me1 (pc' := 7) (L' := [(4, ii (vk v : Int)), (0, .ref 102), (1, ii verb), (2, ii (hd : Int)), (3, ii place)]) (S' := []) dm_X12_monad_5 rfl rfl rfl rfl ?_
  refine me1 (pc' := 8) (L' := [(4, ii (vk v : Int)), (0, .ref 102), (1, ii verb), (2, ii (hd : Int)), (3, ii place)]) (S' := [.ref 102]) dm_X12_monad_7 rfl rfl rfl rfl ?_
  refine me0 (pc' := 9) (S' := [ii 3, .ref 102]) dm_X12_monad_8 rfl rfl rfl rfl ?_
  refine me1 (pc' := 10) (L' := [(4, ii (vk v : Int)), (0, .ref 102), (1, ii verb), (2, ii (hd : Int)), (3, ii place)]) (S' := [.ref 102, ii 3, .ref 102]) dm_X12_monad_9 rfl rfl rfl rfl ?_
  refine me1 (pc' := 11) (L' := [(4, ii (vk v : Int)), (0, .ref 102), (1, ii verb), (2, ii (hd : Int)), (3, ii place)]) (S' := [ii (hd : Int), .ref 102, ii 3, .ref 102]) dm_X12_monad_10 rfl rfl rfl rfl ?_
  refine x_cp (pc' := 14) (v := ii (vsz 7 v : Int)) (rest := [ii 3, .ref 102]) dm_X12_monad_11 rfl (q_inv (As := [ii (hd : Int)]) (S := [ii 3, .ref 102]) hm rfl rfl rfl) rfl rfl rfl (r_sizeOf_ hm hB0 7 (by omega) hv) ?_
  refine y_iadd (a := 3) (b := (vsz 7 v : Int)) dm_X12_monad_14 (pc' := 15) rfl ?_
  refine pg_st (S' := [ii ((3 + vS v : Nat) : Int), .ref 102]) (congrArg (fun z => ii z :: [.ref 102]) (show 3 + (vsz 7 v : Int) = ((3 + vS v : Nat) : Int) by show _ = ((3 + vsz 7 v : Nat) : Int); omega)) ?_
  have hvS : vS v = vsz 7 v := rfl
  by_cases hW : W < 3 + vS v
  · refine me1 (pc' := 16) (L' := [(4, ii (vk v : Int)), (0, .ref 102), (1, ii verb), (2, ii (hd : Int)), (3, ii place)]) (S' := [ii place, ii ((3 + vS v : Nat) : Int), .ref 102]) dm_X12_monad_15 rfl rfl rfl rfl ?_
    refine x_cv (pc' := 19) (rest := []) dm_X12_monad_16 rfl (q_inv (As := [ii ((3 + vS v : Nat) : Int), ii place]) (S := []) hm rfl rfl rfl) rfl rfl rfl ((by have z := r_takes_ (xt := xt) (d := d - 1) (pre := pre) (post := post) (s := s) (n := ((3 + vS v : Nat) : Int)) (place := place) hm (by omega) he0 hca.1 hca.2 (by omega) (by omega) (by omega); rw [tkS_f (by omega), decide_eq_false (by omega)] at z; exact z)) ?_
    rintro _ _ ⟨rfl, rfl⟩
    refine me_1f (pc' := 22) dm_X12_monad_19 rfl (by decide) rfl ?_
    refine me0 (pc' := 23) (S' := [ii (-1)]) dm_X12_monad_22 rfl rfl rfl rfl ?_
    refine y_ret (r := some (ii (-1))) dm_X12_monad_23 rfl rfl rfl ?_
    refine ⟨_, rfl, ?_⟩
    rw [show dOne (cpS s) W verb v place = dEr (cpS s) W 10 place from dAc_no hW]
    exact tk_no (n := 0) he0 h8 hnd
  · refine me1 (pc' := 16) (L' := [(4, ii (vk v : Int)), (0, .ref 102), (1, ii verb), (2, ii (hd : Int)), (3, ii place)]) (S' := [ii place, ii ((3 + vS v : Nat) : Int), .ref 102]) dm_X12_monad_15 rfl rfl rfl rfl ?_
    refine x_cv (pc' := 19) (rest := []) dm_X12_monad_16 rfl (q_inv (As := [ii ((3 + vS v : Nat) : Int), ii place]) (S := []) hm rfl rfl rfl) rfl rfl rfl ((by have z := r_takes_ (xt := xt) (d := d - 1) (pre := pre) (post := post) (s := s) (n := ((3 + vS v : Nat) : Int)) (place := place) hm (by omega) he0 hca.1 hca.2 (by omega) (by omega) (by omega); rw [tkS_t (by omega), decide_eq_true (by omega)] at z; exact z)) ?_
    rintro _ _ ⟨rfl, rfl⟩
    refine me_1t (pc' := 24) dm_X12_monad_19 rfl (by decide) ?_
    refine me1 (pc' := 25) (L' := [(4, ii (vk v : Int)), (0, .ref 102), (1, ii verb), (2, ii (hd : Int)), (3, ii place)]) (S' := [.ref 102]) dm_X12_monad_24 rfl rfl rfl rfl ?_
    refine me0 (pc' := 26) (S' := [ii 0, .ref 102]) dm_X12_monad_25 rfl rfl rfl rfl ?_
    refine me3 (pc' := 29) (S' := []) (h1 := rI pre post (va_up ((takeS s ((3 + vS v : Nat) : Int)).1) 9 0) ((takeS s ((3 + vS v : Nat) : Int)).2.1) ((takeS s ((3 + vS v : Nat) : Int)).2.2.1) ((takeS s ((3 + vS v : Nat) : Int)).2.2.2)) dm_X12_monad_26 (q_puti hm rfl rfl (fun m i l v => rf_9 m i l v)) rfl rfl rfl ?_
    obtain ⟨s2, hs2⟩ : ∃ s2 : RS, s2 = (va_up (takeS s ((3 + vS v : Nat) : Int)).1 9 0, (takeS s ((3 + vS v : Nat) : Int)).2.1, (takeS s ((3 + vS v : Nat) : Int)).2.2.1, (takeS s ((3 + vS v : Nat) : Int)).2.2.2) := ⟨_, rfl⟩
    have hT := tk_tkd (W := W) hs2 he0 h8 (by omega)
    have hqS : s2.1 4 = (q : Int) := hT.2.2.2.1.trans hq
    have hbS : s2.1 3 = (b : Int) := hT.2.2.1.trans hb
    have heS : s2.1 5 = 0 := hT.2.2.2.2.1
    have hwS : s2.1 13 = (base : Int) := hT.2.2.2.2.2.2.1.trans hw13
    have hcaS : 0 ≤ s2.1 10 ∧ s2.1 10 ≤ 100 := by rw [hT.2.1.1 10 (by decide) (by decide) (by decide) (by decide) (by decide) (by decide) (by decide) (by decide) (by decide) (by decide)]; exact hca
    have hBs : rB s2 := ⟨by omega, by omega, by omega, by omega⟩
    have hvs := rv_ext hT.1 hh3 hv
    have hrs := hRS verb v (rv_wf hv) hz1 hz2
    have hww : W - (3 + vS v) + (3 + vS v) = W := by omega
    refine pg_cast (h2 := rI pre post s2.1 s2.2.1 s2.2.2.1 s2.2.2.2) (by rw [hs2]) ?_
    refine me1 (pc' := 30) (L' := [(4, ii (vk v : Int)), (0, .ref 102), (1, ii verb), (2, ii (hd : Int)), (3, ii place)]) (S' := [ii verb]) dm_X12_monad_29 rfl rfl rfl rfl ?_
    have hsp : s_one verb 6 v = m_flip v := by unfold s_one; rw [if_pos (by omega)]
    refine y_sw (a := verb) (33) (t := 413) (i := .lookupswitch 547 #[(33, 383), (35, 505), (37, 176), (38, 218), (42, 189), (43, 154), (44, 482), (45, 176), (46, 493), (60, 294), (61, 359), (62, 294), (63, 371), (64, 533), (94, 294), (95, 522), (124, 230), (126, 176)]) (len := 154) dm_X12_monad_30 rfl rfl rfl (by omega) (by decide) (fun hb1 => ?_) (fun hb1 => ?_)
    · exfalso; omega
    refine y_sw (a := verb) (35) (t := 535) (i := .lookupswitch 547 #[(33, 383), (35, 505), (37, 176), (38, 218), (42, 189), (43, 154), (44, 482), (45, 176), (46, 493), (60, 294), (61, 359), (62, 294), (63, 371), (64, 533), (94, 294), (95, 522), (124, 230), (126, 176)]) (len := 154) dm_X12_monad_30 rfl rfl rfl (by omega) (by decide) (fun hb2 => ?_) (fun hb2 => ?_)
    · exfalso; omega
    refine y_sw (a := verb) (37) (t := 206) (i := .lookupswitch 547 #[(33, 383), (35, 505), (37, 176), (38, 218), (42, 189), (43, 154), (44, 482), (45, 176), (46, 493), (60, 294), (61, 359), (62, 294), (63, 371), (64, 533), (94, 294), (95, 522), (124, 230), (126, 176)]) (len := 154) dm_X12_monad_30 rfl rfl rfl (by omega) (by decide) (fun hb3 => ?_) (fun hb3 => ?_)
    · exfalso; omega
    refine y_sw (a := verb) (38) (t := 248) (i := .lookupswitch 547 #[(33, 383), (35, 505), (37, 176), (38, 218), (42, 189), (43, 154), (44, 482), (45, 176), (46, 493), (60, 294), (61, 359), (62, 294), (63, 371), (64, 533), (94, 294), (95, 522), (124, 230), (126, 176)]) (len := 154) dm_X12_monad_30 rfl rfl rfl (by omega) (by decide) (fun hb4 => ?_) (fun hb4 => ?_)
    · exfalso; omega
    refine y_sw (a := verb) (42) (t := 219) (i := .lookupswitch 547 #[(33, 383), (35, 505), (37, 176), (38, 218), (42, 189), (43, 154), (44, 482), (45, 176), (46, 493), (60, 294), (61, 359), (62, 294), (63, 371), (64, 533), (94, 294), (95, 522), (124, 230), (126, 176)]) (len := 154) dm_X12_monad_30 rfl rfl rfl (by omega) (by decide) (fun hb5 => ?_) (fun hb5 => ?_)
    · exfalso; omega
    refine y_sw (a := verb) (43) (t := 184) (i := .lookupswitch 547 #[(33, 383), (35, 505), (37, 176), (38, 218), (42, 189), (43, 154), (44, 482), (45, 176), (46, 493), (60, 294), (61, 359), (62, 294), (63, 371), (64, 533), (94, 294), (95, 522), (124, 230), (126, 176)]) (len := 154) dm_X12_monad_30 rfl rfl rfl (by omega) (by decide) (fun hb6 => ?_) (fun hb6 => ?_)
    · refine me1 (pc' := 185) (L' := [(4, ii (vk v : Int)), (0, .ref 102), (1, ii verb), (2, ii (hd : Int)), (3, ii place)]) (S' := [.ref 102]) dm_X12_monad_184 rfl rfl rfl rfl ?_
      refine me1 (pc' := 187) (L' := [(4, ii (vk v : Int)), (0, .ref 102), (1, ii verb), (2, ii (hd : Int)), (3, ii place)]) (S' := [ii (vk v : Int), .ref 102]) dm_X12_monad_185 rfl rfl rfl rfl ?_
      refine me0 (pc' := 189) (S' := [ii 6, ii (vk v : Int), .ref 102]) dm_X12_monad_187 rfl rfl rfl rfl ?_
      refine y_2ne (a := (vk v : Int)) (b := 6) (t := 200) (pc' := 192) dm_X12_monad_189 rfl rfl (by omega) (fun hb7 => ?_) (fun hb7 => ?_)
      · have hsp2 : s_one verb 6 v = .inr v := by rw [hsp]; unfold m_flip; rw [if_neg (by omega)]
        clear hsp
        have hsp := hsp2
        have hG : rG pre post s2 8 (.inr v) place (rcb (.inr v) 0) (rvb (.inr v) 1) (ii (hd : Int)) (rS pre post s2) := rG_up2 (rG_up (rG_0 heS hh3 hvs)) (Nat.zero_le _) (Nat.zero_le _)
        refine me1 (pc' := 201) (L' := [(4, ii (vk v : Int)), (0, .ref 102), (1, ii verb), (2, ii (hd : Int)), (3, ii place)]) (S' := [ii (hd : Int), .ref 102]) dm_X12_monad_200 rfl rfl rfl rfl ?_
        refine me1 (pc' := 202) (L' := [(4, ii (vk v : Int)), (0, .ref 102), (1, ii verb), (2, ii (hd : Int)), (3, ii place)]) (S' := [ii place, ii (hd : Int), .ref 102]) dm_X12_monad_201 rfl rfl rfl rfl ?_
        refine x_cv (pc' := 205) (rest := []) dm_X12_monad_202 rfl (q_inv (As := [ii (hd : Int), ii place]) (S := []) hm rfl rfl rfl) rfl rfl rfl (r_mdo1 (s := s) (s2 := s2) (W2 := W - (3 + vS v)) (cost := 3 + vS v) (cb := 0) (o := .inr v) (c := 4) (nd := nd) hm (by omega) hT hB0 hG hca (by omega) hnd (fun n hn => hrs.1 n (hsp.trans hn)) (fun r hr => hrs.2 r (hsp.trans hr)) (by omega) (by omega) (by omega)) ?_
        rintro x9 g9 hfin
        obtain ⟨z9, rfl⟩ := dres_ii hfin
        obtain ⟨t9, rfl⟩ := dres_st hfin
        refine y_ret (r := some (ii z9)) dm_X12_monad_205 rfl rfl rfl ?_
        have e9 : dOne (cpS s) W verb v place = dMo (cpS s) (W - (3 + vS v)) 0 (.inr v) place := by unfold dOne; rw [dAc_mo (by omega), hsp]
        rw [hww] at hfin
        rw [e9]
        exact ⟨_, rfl, hfin⟩
      · refine me1 (pc' := 193) (L' := [(4, ii (vk v : Int)), (0, .ref 102), (1, ii verb), (2, ii (hd : Int)), (3, ii place)]) (S' := [.ref 102, .ref 102]) dm_X12_monad_192 rfl rfl rfl rfl ?_
        refine me1 (pc' := 194) (L' := [(4, ii (vk v : Int)), (0, .ref 102), (1, ii verb), (2, ii (hd : Int)), (3, ii place)]) (S' := [ii (hd : Int), .ref 102, .ref 102]) dm_X12_monad_193 rfl rfl rfl rfl ?_
        refine x_cv (pc' := 197) (rest := [.ref 102]) dm_X12_monad_194 rfl (q_inv (As := [ii (hd : Int)]) (S := [.ref 102]) hm rfl rfl rfl) rfl rfl rfl (r_flipped_ (e := 6) (q := q) (b := b) (s := s2) (place := place) hm (by omega) hBs hvs hh3 hqS hbS hq3 (by omega) heS hcaS (by omega) (by omega)) ?_
        rintro x1 g1 hres
        have hG : rG pre post s2 8 (m_flip v) place (rcb (m_flip v) 144) (rvb (m_flip v) 1) x1 g1 := rG_up (rG_r hres)
        obtain ⟨z1, rfl⟩ := rG_ii hG
        obtain ⟨t1, rfl⟩ := rG_st hG
        refine me2 (pc' := 201) (S' := [ii z1, .ref 102]) dm_X12_monad_197 rfl rfl rfl ?_
        refine me1 (pc' := 202) (L' := [(4, ii (vk v : Int)), (0, .ref 102), (1, ii verb), (2, ii (hd : Int)), (3, ii place)]) (S' := [ii place, ii z1, .ref 102]) dm_X12_monad_201 rfl rfl rfl rfl ?_
        refine x_cv (pc' := 205) (rest := []) dm_X12_monad_202 rfl (q_inv (As := [ii z1, ii place]) (S := []) hm rfl rfl rfl) rfl rfl rfl (r_mdo1 (s := s) (s2 := s2) (W2 := W - (3 + vS v)) (cost := 3 + vS v) (cb := 144) (o := m_flip v) (c := 4) (nd := nd) hm (by omega) hT hB0 hG hca (by omega) hnd (fun n hn => hrs.1 n (hsp.trans hn)) (fun r hr => hrs.2 r (hsp.trans hr)) (by omega) (by omega) (by omega)) ?_
        rintro x9 g9 hfin
        obtain ⟨z9, rfl⟩ := dres_ii hfin
        obtain ⟨t9, rfl⟩ := dres_st hfin
        refine y_ret (r := some (ii z9)) dm_X12_monad_205 rfl rfl rfl ?_
        have e9 : dOne (cpS s) W verb v place = dMo (cpS s) (W - (3 + vS v)) 0 (m_flip v) place := by unfold dOne; rw [dAc_mo (by omega), hsp]
        rw [hww] at hfin
        rw [e9]
        exact ⟨_, rfl, hfin⟩
    refine y_sw (a := verb) (44) (t := 512) (i := .lookupswitch 547 #[(33, 383), (35, 505), (37, 176), (38, 218), (42, 189), (43, 154), (44, 482), (45, 176), (46, 493), (60, 294), (61, 359), (62, 294), (63, 371), (64, 533), (94, 294), (95, 522), (124, 230), (126, 176)]) (len := 154) dm_X12_monad_30 rfl rfl rfl (by omega) (by decide) (fun hb8 => ?_) (fun hb8 => ?_)
    · exfalso; omega
    refine y_sw (a := verb) (45) (t := 206) (i := .lookupswitch 547 #[(33, 383), (35, 505), (37, 176), (38, 218), (42, 189), (43, 154), (44, 482), (45, 176), (46, 493), (60, 294), (61, 359), (62, 294), (63, 371), (64, 533), (94, 294), (95, 522), (124, 230), (126, 176)]) (len := 154) dm_X12_monad_30 rfl rfl rfl (by omega) (by decide) (fun hb9 => ?_) (fun hb9 => ?_)
    · exfalso; omega
    refine y_sw (a := verb) (46) (t := 523) (i := .lookupswitch 547 #[(33, 383), (35, 505), (37, 176), (38, 218), (42, 189), (43, 154), (44, 482), (45, 176), (46, 493), (60, 294), (61, 359), (62, 294), (63, 371), (64, 533), (94, 294), (95, 522), (124, 230), (126, 176)]) (len := 154) dm_X12_monad_30 rfl rfl rfl (by omega) (by decide) (fun hb10 => ?_) (fun hb10 => ?_)
    · exfalso; omega
    refine y_sw (a := verb) (60) (t := 324) (i := .lookupswitch 547 #[(33, 383), (35, 505), (37, 176), (38, 218), (42, 189), (43, 154), (44, 482), (45, 176), (46, 493), (60, 294), (61, 359), (62, 294), (63, 371), (64, 533), (94, 294), (95, 522), (124, 230), (126, 176)]) (len := 154) dm_X12_monad_30 rfl rfl rfl (by omega) (by decide) (fun hb11 => ?_) (fun hb11 => ?_)
    · exfalso; omega
    refine y_sw (a := verb) (61) (t := 389) (i := .lookupswitch 547 #[(33, 383), (35, 505), (37, 176), (38, 218), (42, 189), (43, 154), (44, 482), (45, 176), (46, 493), (60, 294), (61, 359), (62, 294), (63, 371), (64, 533), (94, 294), (95, 522), (124, 230), (126, 176)]) (len := 154) dm_X12_monad_30 rfl rfl rfl (by omega) (by decide) (fun hb12 => ?_) (fun hb12 => ?_)
    · exfalso; omega
    refine y_sw (a := verb) (62) (t := 324) (i := .lookupswitch 547 #[(33, 383), (35, 505), (37, 176), (38, 218), (42, 189), (43, 154), (44, 482), (45, 176), (46, 493), (60, 294), (61, 359), (62, 294), (63, 371), (64, 533), (94, 294), (95, 522), (124, 230), (126, 176)]) (len := 154) dm_X12_monad_30 rfl rfl rfl (by omega) (by decide) (fun hb13 => ?_) (fun hb13 => ?_)
    · exfalso; omega
    refine y_sw (a := verb) (63) (t := 401) (i := .lookupswitch 547 #[(33, 383), (35, 505), (37, 176), (38, 218), (42, 189), (43, 154), (44, 482), (45, 176), (46, 493), (60, 294), (61, 359), (62, 294), (63, 371), (64, 533), (94, 294), (95, 522), (124, 230), (126, 176)]) (len := 154) dm_X12_monad_30 rfl rfl rfl (by omega) (by decide) (fun hb14 => ?_) (fun hb14 => ?_)
    · exfalso; omega
    refine y_sw (a := verb) (64) (t := 563) (i := .lookupswitch 547 #[(33, 383), (35, 505), (37, 176), (38, 218), (42, 189), (43, 154), (44, 482), (45, 176), (46, 493), (60, 294), (61, 359), (62, 294), (63, 371), (64, 533), (94, 294), (95, 522), (124, 230), (126, 176)]) (len := 154) dm_X12_monad_30 rfl rfl rfl (by omega) (by decide) (fun hb15 => ?_) (fun hb15 => ?_)
    · exfalso; omega
    refine y_sw (a := verb) (94) (t := 324) (i := .lookupswitch 547 #[(33, 383), (35, 505), (37, 176), (38, 218), (42, 189), (43, 154), (44, 482), (45, 176), (46, 493), (60, 294), (61, 359), (62, 294), (63, 371), (64, 533), (94, 294), (95, 522), (124, 230), (126, 176)]) (len := 154) dm_X12_monad_30 rfl rfl rfl (by omega) (by decide) (fun hb16 => ?_) (fun hb16 => ?_)
    · exfalso; omega
    refine y_sw (a := verb) (95) (t := 552) (i := .lookupswitch 547 #[(33, 383), (35, 505), (37, 176), (38, 218), (42, 189), (43, 154), (44, 482), (45, 176), (46, 493), (60, 294), (61, 359), (62, 294), (63, 371), (64, 533), (94, 294), (95, 522), (124, 230), (126, 176)]) (len := 154) dm_X12_monad_30 rfl rfl rfl (by omega) (by decide) (fun hb17 => ?_) (fun hb17 => ?_)
    · exfalso; omega
    refine y_sw (a := verb) (124) (t := 260) (i := .lookupswitch 547 #[(33, 383), (35, 505), (37, 176), (38, 218), (42, 189), (43, 154), (44, 482), (45, 176), (46, 493), (60, 294), (61, 359), (62, 294), (63, 371), (64, 533), (94, 294), (95, 522), (124, 230), (126, 176)]) (len := 154) dm_X12_monad_30 rfl rfl rfl (by omega) (by decide) (fun hb18 => ?_) (fun hb18 => ?_)
    · exfalso; omega
    refine y_sw (a := verb) (126) (t := 206) (i := .lookupswitch 547 #[(33, 383), (35, 505), (37, 176), (38, 218), (42, 189), (43, 154), (44, 482), (45, 176), (46, 493), (60, 294), (61, 359), (62, 294), (63, 371), (64, 533), (94, 294), (95, 522), (124, 230), (126, 176)]) (len := 154) dm_X12_monad_30 rfl rfl rfl (by omega) (by decide) (fun hb19 => ?_) (fun hb19 => ?_)
    · exfalso; omega
    exfalso; omega
