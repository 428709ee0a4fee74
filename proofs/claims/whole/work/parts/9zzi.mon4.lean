theorem dm_X12_monad_413 : mj_dec prog_14_method_29_code 413 = some (.aload_n 0, 1) := by decide +kernel
theorem dm_X12_monad_414 : mj_dec prog_14_method_29_code 414 = some (.iload_n 2, 1) := by decide +kernel
theorem dm_X12_monad_415 : mj_dec prog_14_method_29_code 415 = some (.invokevirtual 162, 3) := by decide +kernel
theorem dm_X12_monad_418 : mj_dec prog_14_method_29_code 418 = some (.ifCond .ne 10, 3) := by decide +kernel
theorem dm_X12_monad_421 : mj_dec prog_14_method_29_code 421 = some (.aload_n 0, 1) := by decide +kernel
theorem dm_X12_monad_422 : mj_dec prog_14_method_29_code 422 = some (.iconst 3, 1) := by decide +kernel
theorem dm_X12_monad_423 : mj_dec prog_14_method_29_code 423 = some (.iload_n 3, 1) := by decide +kernel
theorem dm_X12_monad_424 : mj_dec prog_14_method_29_code 424 = some (.invokevirtual 190, 3) := by decide +kernel
theorem dm_X12_monad_427 : mj_dec prog_14_method_29_code 427 = some (.ireturn, 1) := by decide +kernel
theorem dm_X12_monad_428 : mj_dec prog_14_method_29_code 428 = some (.iload 4, 2) := by decide +kernel
theorem dm_X12_monad_430 : mj_dec prog_14_method_29_code 430 = some (.iconst 1, 1) := by decide +kernel
theorem dm_X12_monad_431 : mj_dec prog_14_method_29_code 431 = some (.if_icmp .eq 27, 3) := by decide +kernel
theorem dm_X12_monad_434 : mj_dec prog_14_method_29_code 434 = some (.aload_n 0, 1) := by decide +kernel
theorem dm_X12_monad_435 : mj_dec prog_14_method_29_code 435 = some (.iload_n 2, 1) := by decide +kernel
theorem dm_X12_monad_436 : mj_dec prog_14_method_29_code 436 = some (.iconst 0, 1) := by decide +kernel
theorem dm_X12_monad_437 : mj_dec prog_14_method_29_code 437 = some (.invokevirtual 138, 3) := by decide +kernel
theorem dm_X12_monad_440 : mj_dec prog_14_method_29_code 440 = some (.lconst 0, 1) := by decide +kernel
theorem dm_X12_monad_441 : mj_dec prog_14_method_29_code 441 = some (.lcmp, 1) := by decide +kernel
theorem dm_X12_monad_442 : mj_dec prog_14_method_29_code 442 = some (.ifCond .lt 16, 3) := by decide +kernel
theorem dm_X12_monad_445 : mj_dec prog_14_method_29_code 445 = some (.aload_n 0, 1) := by decide +kernel
theorem dm_X12_monad_446 : mj_dec prog_14_method_29_code 446 = some (.iload_n 2, 1) := by decide +kernel
theorem dm_X12_monad_447 : mj_dec prog_14_method_29_code 447 = some (.iconst 0, 1) := by decide +kernel
theorem dm_X12_monad_448 : mj_dec prog_14_method_29_code 448 = some (.invokevirtual 138, 3) := by decide +kernel
theorem dm_X12_monad_451 : mj_dec prog_14_method_29_code 451 = some (.ldc2_w 239, 3) := by decide +kernel
theorem dm_X12_monad_454 : mj_dec prog_14_method_29_code 454 = some (.lcmp, 1) := by decide +kernel
theorem dm_X12_monad_455 : mj_dec prog_14_method_29_code 455 = some (.ifCond .le 10, 3) := by decide +kernel
theorem dm_X12_monad_458 : mj_dec prog_14_method_29_code 458 = some (.aload_n 0, 1) := by decide +kernel
theorem dm_X12_monad_459 : mj_dec prog_14_method_29_code 459 = some (.iconst 5, 1) := by decide +kernel
theorem dm_X12_monad_460 : mj_dec prog_14_method_29_code 460 = some (.iload_n 3, 1) := by decide +kernel
theorem dm_X12_monad_461 : mj_dec prog_14_method_29_code 461 = some (.invokevirtual 190, 3) := by decide +kernel
theorem dm_X12_monad_464 : mj_dec prog_14_method_29_code 464 = some (.ireturn, 1) := by decide +kernel
theorem dm_X12_monad_465 : mj_dec prog_14_method_29_code 465 = some (.iconst 0, 1) := by decide +kernel
theorem dm_X12_monad_466 : mj_dec prog_14_method_29_code 466 = some (.istore 5, 2) := by decide +kernel
theorem dm_X12_monad_468 : mj_dec prog_14_method_29_code 468 = some (.iload 5, 2) := by decide +kernel
theorem dm_X12_monad_470 : mj_dec prog_14_method_29_code 470 = some (.aload_n 0, 1) := by decide +kernel
theorem dm_X12_monad_471 : mj_dec prog_14_method_29_code 471 = some (.iload_n 2, 1) := by decide +kernel
theorem dm_X12_monad_472 : mj_dec prog_14_method_29_code 472 = some (.iconst 0, 1) := by decide +kernel
theorem dm_X12_monad_473 : mj_dec prog_14_method_29_code 473 = some (.invokevirtual 138, 3) := by decide +kernel
theorem dm_X12_monad_476 : mj_dec prog_14_method_29_code 476 = some (.l2i, 1) := by decide +kernel
theorem dm_X12_monad_477 : mj_dec prog_14_method_29_code 477 = some (.if_icmp .ge 18, 3) := by decide +kernel
theorem dm_X12_monad_480 : mj_dec prog_14_method_29_code 480 = some (.aload_n 0, 1) := by decide +kernel
theorem dm_X12_monad_481 : mj_dec prog_14_method_29_code 481 = some (.getfield 33, 3) := by decide +kernel
theorem dm_X12_monad_484 : mj_dec prog_14_method_29_code 484 = some (.iload 5, 2) := by decide +kernel
theorem dm_X12_monad_486 : mj_dec prog_14_method_29_code 486 = some (.iload 5, 2) := by decide +kernel
theorem dm_X12_monad_488 : mj_dec prog_14_method_29_code 488 = some (.iastore, 1) := by decide +kernel
theorem dm_X12_monad_489 : mj_dec prog_14_method_29_code 489 = some (.iinc 5 1, 3) := by decide +kernel
theorem dm_X12_monad_492 : mj_dec prog_14_method_29_code 492 = some (.goto (-24), 3) := by decide +kernel
theorem dm_X12_monad_495 : mj_dec prog_14_method_29_code 495 = some (.aload_n 0, 1) := by decide +kernel
theorem dm_X12_monad_496 : mj_dec prog_14_method_29_code 496 = some (.aload_n 0, 1) := by decide +kernel
theorem dm_X12_monad_497 : mj_dec prog_14_method_29_code 497 = some (.aload_n 0, 1) := by decide +kernel
theorem dm_X12_monad_498 : mj_dec prog_14_method_29_code 498 = some (.iload_n 2, 1) := by decide +kernel
theorem dm_X12_monad_499 : mj_dec prog_14_method_29_code 499 = some (.iconst 0, 1) := by decide +kernel
theorem dm_X12_monad_500 : mj_dec prog_14_method_29_code 500 = some (.invokevirtual 138, 3) := by decide +kernel
theorem dm_X12_monad_503 : mj_dec prog_14_method_29_code 503 = some (.l2i, 1) := by decide +kernel
theorem dm_X12_monad_504 : mj_dec prog_14_method_29_code 504 = some (.invokevirtual 230, 3) := by decide +kernel
theorem dm_X12_monad_507 : mj_dec prog_14_method_29_code 507 = some (.iload_n 3, 1) := by decide +kernel
theorem dm_X12_monad_508 : mj_dec prog_14_method_29_code 508 = some (.invokevirtual 208, 3) := by decide +kernel
theorem dm_X12_monad_511 : mj_dec prog_14_method_29_code 511 = some (.ireturn, 1) := by decide +kernel
theorem r_mon33 {xt : mj_X} {d hd q b base W : Nat} {pre post : mj_H} {s : RS} {v : VV} {place nd verb : Int} (hm : pre.length = 102) (hd1 : 60 ≤ d) (hRS : RSO) (hB : rB s) (hv : rv s 7 hd v) (hh3 : 3 ≤ hd) (hz1 : vsz 7 v ≤ 1000) (hz2 : vlv 7 v ≤ 5) (hq : s.1 4 = (q : Int)) (hb : s.1 3 = (b : Int)) (hq3 : 3 ≤ q) (hV2 : q + 2100 < 310000) (he0 : s.1 5 = 0) (hca : 0 ≤ s.1 10 ∧ s.1 10 ≤ 100) (hC : b + 291000 ≤ 820000) (hw13 : s.1 13 = (base : Int)) (hbs : base ≤ 7900) (h8 : s.1 8 = (W : Int)) (hW5 : W ≤ 500000) (hnd : 0 ≤ nd) (hvb : verb = 33) : pgV xt d 281 [.ref 102, ii verb, ii (hd : Int), ii place] (rS pre post s) (dres pre post s W 4 nd (dOne (cpS s) W verb v place)) := by
  have hB0 := hB
  obtain ⟨hB1, hB2, hB3, hB4⟩ := hB
  obtain ⟨fr, hfr, hsh, hlt, hcl, hvk, hvm, hvc, hvq, hvcl⟩ := rv_val hv
  have hvb2 : -2147483648 ≤ verb ∧ verb ≤ 2147483647 := by omega
  refine x_enter pm_X12_monad (L0 := [(0, .ref 102), (1, ii verb), (2, ii (hd : Int)), (3, ii place)]) rfl (Nat.le_of_ble_eq_true rfl) (by omega) ?_
  refine me1 (pc' := 1) (L' := [(0, .ref 102), (1, ii verb), (2, ii (hd : Int)), (3, ii place)]) (S' := [.ref 102]) dm_X12_monad_0 rfl rfl rfl rfl ?_
  refine me1 (pc' := 2) (L' := [(0, .ref 102), (1, ii verb), (2, ii (hd : Int)), (3, ii place)]) (S' := [ii (hd : Int), .ref 102]) dm_X12_monad_1 rfl rfl rfl rfl ?_
  refine x_cp (pc' := 5) (v := ii (vk v : Int)) (rest := []) dm_X12_monad_2 rfl (q_inv (As := [ii (hd : Int)]) (S := []) hm rfl rfl rfl) rfl rfl rfl (r_kindOf_ (e := 6) hm (by omega) hB0 hv) ?_
  refine me1 (pc' := 7) (L' := [(4, ii (vk v : Int)), (0, .ref 102), (1, ii verb), (2, ii (hd : Int)), (3, ii place)]) (S' := []) dm_X12_monad_5 rfl rfl rfl rfl ?_
  refine me1 (pc' := 8) (L' := [(4, ii (vk v : Int)), (0, .ref 102), (1, ii verb), (2, ii (hd : Int)), (3, ii place)]) (S' := [.ref 102]) dm_X12_monad_7 rfl rfl rfl rfl ?_
  refine me0 (pc' := 9) (S' := [ii 3, .ref 102]) dm_X12_monad_8 rfl rfl rfl rfl ?_
  refine me1 (pc' := 10) (L' := [(4, ii (vk v : Int)), (0, .ref 102), (1, ii verb), (2, ii (hd : Int)), (3, ii place)]) (S' := [.ref 102, ii 3, .ref 102]) dm_X12_monad_9 rfl rfl rfl rfl ?_
  refine me1 (pc' := 11) (L' := [(4, ii (vk v : Int)), (0, .ref 102), (1, ii verb), (2, ii (hd : Int)), (3, ii place)]) (S' := [ii (hd : Int), .ref 102, ii 3, .ref 102]) dm_X12_monad_10 rfl rfl rfl rfl ?_
  refine x_cp (pc' := 14) (v := ii (vsz 7 v : Int)) (rest := [ii 3, .ref 102]) dm_X12_monad_11 rfl (q_inv (As := [ii (hd : Int)]) (S := [ii 3, .ref 102]) hm rfl rfl rfl) rfl rfl rfl (r_sizeOf_ hm hB0 7 (by omega) hv) ?_
  refine y_iadd (a := 3) (b := (vsz 7 v : Int)) dm_X12_monad_14 (pc' := 15) rfl ?_
  refine pg_st (S' := [ii ((3 + vS v : Nat) : Int), .ref 102]) (congrArg (fun z => ii z :: [.ref 102]) (show 3 + (vsz 7 v : Int) = ((3 + vS v : Nat) : Int) by show _ = ((3 + vsz 7 v : Nat) : Int); omega)) ?_
  have hvS : vS v = vsz 7 v := rfl
  by_cases hW : W < 3 + vS v
  · refine me1 (pc' := 16) (L' := [(4, ii (vk v : Int)), (0, .ref 102), (1, ii verb), (2, ii (hd : Int)), (3, ii place)]) (S' := [ii place, ii ((3 + vS v : Nat) : Int), .ref 102]) dm_X12_monad_15 rfl rfl rfl rfl ?_
    refine x_cv (pc' := 19) (rest := []) dm_X12_monad_16 rfl (q_inv (As := [ii ((3 + vS v : Nat) : Int), ii place]) (S := []) hm rfl rfl rfl) rfl rfl rfl ((by have z := r_takes_ (xt := xt) (d := d - 1) (pre := pre) (post := post) (s := s) (n := ((3 + vS v : Nat) : Int)) (place := place) hm (by omega) he0 hca.1 hca.2 (by omega) (by omega) (by omega); rw [tkS_f (by omega), decide_eq_false (by omega)] at z; exact z)) ?_
    rintro _ _ ⟨rfl, rfl⟩
    refine me_1f (pc' := 22) dm_X12_monad_19 rfl (by decide) rfl ?_
    refine me0 (pc' := 23) (S' := [ii (-1)]) dm_X12_monad_22 rfl rfl rfl rfl ?_
    refine y_ret (r := some (ii (-1))) dm_X12_monad_23 rfl rfl rfl ?_
    refine ⟨_, rfl, ?_⟩
    rw [show dOne (cpS s) W verb v place = dEr (cpS s) W 10 place from dAc_no hW]
    exact tk_no (n := 0) he0 h8 hnd
  · refine me1 (pc' := 16) (L' := [(4, ii (vk v : Int)), (0, .ref 102), (1, ii verb), (2, ii (hd : Int)), (3, ii place)]) (S' := [ii place, ii ((3 + vS v : Nat) : Int), .ref 102]) dm_X12_monad_15 rfl rfl rfl rfl ?_
    refine x_cv (pc' := 19) (rest := []) dm_X12_monad_16 rfl (q_inv (As := [ii ((3 + vS v : Nat) : Int), ii place]) (S := []) hm rfl rfl rfl) rfl rfl rfl ((by have z := r_takes_ (xt := xt) (d := d - 1) (pre := pre) (post := post) (s := s) (n := ((3 + vS v : Nat) : Int)) (place := place) hm (by omega) he0 hca.1 hca.2 (by omega) (by omega) (by omega); rw [tkS_t (by omega), decide_eq_true (by omega)] at z; exact z)) ?_
    rintro _ _ ⟨rfl, rfl⟩
    refine me_1t (pc' := 24) dm_X12_monad_19 rfl (by decide) ?_
    refine me1 (pc' := 25) (L' := [(4, ii (vk v : Int)), (0, .ref 102), (1, ii verb), (2, ii (hd : Int)), (3, ii place)]) (S' := [.ref 102]) dm_X12_monad_24 rfl rfl rfl rfl ?_
    refine me0 (pc' := 26) (S' := [ii 0, .ref 102]) dm_X12_monad_25 rfl rfl rfl rfl ?_
    refine me3 (pc' := 29) (S' := []) (h1 := rI pre post (va_up ((takeS s ((3 + vS v : Nat) : Int)).1) 9 0) ((takeS s ((3 + vS v : Nat) : Int)).2.1) ((takeS s ((3 + vS v : Nat) : Int)).2.2.1) ((takeS s ((3 + vS v : Nat) : Int)).2.2.2)) dm_X12_monad_26 (q_puti hm rfl rfl (fun m i l v => rf_9 m i l v)) rfl rfl rfl ?_
    obtain ⟨s2, hs2⟩ : ∃ s2 : RS, s2 = (va_up (takeS s ((3 + vS v : Nat) : Int)).1 9 0, (takeS s ((3 + vS v : Nat) : Int)).2.1, (takeS s ((3 + vS v : Nat) : Int)).2.2.1, (takeS s ((3 + vS v : Nat) : Int)).2.2.2) := ⟨_, rfl⟩
    have hT := tk_tkd (W := W) hs2 he0 h8 (by omega)
    have hqS : s2.1 4 = (q : Int) := hT.2.2.2.1.trans hq
    have hbS : s2.1 3 = (b : Int) := hT.2.2.1.trans hb
    have heS : s2.1 5 = 0 := hT.2.2.2.2.1
    have hwS : s2.1 13 = (base : Int) := hT.2.2.2.2.2.2.1.trans hw13
    have hcaS : 0 ≤ s2.1 10 ∧ s2.1 10 ≤ 100 := by rw [hT.2.1.1 10 (by decide) (by decide) (by decide) (by decide) (by decide) (by decide) (by decide) (by decide) (by decide) (by decide)]; exact hca
    have hBs : rB s2 := ⟨by omega, by omega, by omega, by omega⟩
    have hvs := rv_ext hT.1 hh3 hv
    have hrs := hRS verb v (rv_wf hv) hz1 hz2
    have hww : W - (3 + vS v) + (3 + vS v) = W := by omega
    refine pg_cast (h2 := rI pre post s2.1 s2.2.1 s2.2.2.1 s2.2.2.2) (by rw [hs2]) ?_
    refine me1 (pc' := 30) (L' := [(4, ii (vk v : Int)), (0, .ref 102), (1, ii verb), (2, ii (hd : Int)), (3, ii place)]) (S' := [ii verb]) dm_X12_monad_29 rfl rfl rfl rfl ?_
    have hsp : s_one verb 6 v = m_upto v := by unfold s_one; rw [if_neg (by omega), if_neg (by omega), if_neg (by omega), if_neg (by omega), if_neg (by omega), if_neg (by omega), if_neg (by omega), if_neg (by omega), if_pos (by omega)]
    have hw9 := (rv_wf hv).1
    have h5m : vk v ≤ 5 → vm v ≤ 120 := fun z => by omega
    have h6m : vk v = 6 → 1 ≤ vm v ∧ vm v ≤ 12 := fun z => ⟨(hw9.2.2.2.1 z).1, (hw9.2.2.2.1 z).2.1⟩
    have h6c : vk v = 6 → 1 ≤ vc v := fun z => (hw9.2.2.2.1 z).2.2.1
    have h7m : vk v = 7 → vm v ≤ 24 := fun z => (hw9.2.2.2.2.1 z).1
    have h0 : (Int64.ofInt 0).toInt = 0 := by decide
    have h120 : (Int64.ofInt 120).toInt = 120 := by decide
    refine y_sw (a := verb) (33) (t := 413) (i := .lookupswitch 547 #[(33, 383), (35, 505), (37, 176), (38, 218), (42, 189), (43, 154), (44, 482), (45, 176), (46, 493), (60, 294), (61, 359), (62, 294), (63, 371), (64, 533), (94, 294), (95, 522), (124, 230), (126, 176)]) (len := 154) dm_X12_monad_30 rfl rfl rfl (by omega) (by decide) (fun hb1 => ?_) (fun hb1 => ?_)
    · refine me1 (pc' := 414) (L' := [(4, ii (vk v : Int)), (0, .ref 102), (1, ii verb), (2, ii (hd : Int)), (3, ii place)]) (S' := [.ref 102]) dm_X12_monad_413 rfl rfl rfl rfl ?_
      refine me1 (pc' := 415) (L' := [(4, ii (vk v : Int)), (0, .ref 102), (1, ii verb), (2, ii (hd : Int)), (3, ii place)]) (S' := [ii (hd : Int), .ref 102]) dm_X12_monad_414 rfl rfl rfl rfl ?_
      refine x_cp (pc' := 418) (v := zz (decide (vk v ≤ 1))) (rest := []) dm_X12_monad_415 rfl (q_inv (As := [ii (hd : Int)]) (S := []) hm rfl rfl rfl) rfl rfl rfl (r_isOne_ (e := 6) hm (by omega) hBs hvs) ?_
      refine y_zne (c := decide (vk v ≤ 1)) (t := 428) (pc' := 421) dm_X12_monad_418 rfl rfl (fun hb2 => ?_) (fun hb2 => ?_)
      · replace hb2 := dT hb2
        refine me1 (pc' := 430) (L' := [(4, ii (vk v : Int)), (0, .ref 102), (1, ii verb), (2, ii (hd : Int)), (3, ii place)]) (S' := [ii (vk v : Int)]) dm_X12_monad_428 rfl rfl rfl rfl ?_
        refine me0 (pc' := 431) (S' := [ii 1, ii (vk v : Int)]) dm_X12_monad_430 rfl rfl rfl rfl ?_
        refine y_2eq (a := (vk v : Int)) (b := 1) (t := 458) (pc' := 434) dm_X12_monad_431 rfl rfl (by omega) (fun hb3 => ?_) (fun hb3 => ?_)
        · have hsp2 : s_one verb 6 v = .inl 5 := by rw [hsp]; unfold m_upto; rw [if_neg (by omega), if_pos (by first | omega | (rw [h0] at *; omega) | (rw [h120] at *; omega) | (rw [h0, h120] at *; omega))]
          clear hsp
          have hsp := hsp2
          refine me1 (pc' := 459) (L' := [(4, ii (vk v : Int)), (0, .ref 102), (1, ii verb), (2, ii (hd : Int)), (3, ii place)]) (S' := [.ref 102]) dm_X12_monad_458 rfl rfl rfl rfl ?_
          refine me0 (pc' := 460) (S' := [ii 5, .ref 102]) dm_X12_monad_459 rfl rfl rfl rfl ?_
          refine me1 (pc' := 461) (L' := [(4, ii (vk v : Int)), (0, .ref 102), (1, ii verb), (2, ii (hd : Int)), (3, ii place)]) (S' := [ii place, ii 5, .ref 102]) dm_X12_monad_460 rfl rfl rfl rfl ?_
          refine x_cv (pc' := 464) (rest := []) dm_X12_monad_461 rfl (q_inv (As := [ii 5, ii place]) (S := []) hm rfl rfl rfl) rfl rfl rfl (r_fail_ (s := s2) hm (by omega) heS hcaS.1 hcaS.2) ?_
          rintro _ _ ⟨rfl, rfl⟩
          refine y_ret (r := some (ii (-1))) dm_X12_monad_464 rfl rfl rfl ?_
          have e9 : dOne (cpS s) W verb v place = dEr (cpS s) (W - (3 + vS v)) 5 place := by unfold dOne; rw [dAc_mo (by omega), hsp]; rfl
          have hfin := dres_fl (pre := pre) (post := post) (c := 4) (nd := nd) (e := 5) (pl := place) hT (by omega) hnd
          rw [hww] at hfin
          rw [e9]
          exact ⟨_, rfl, hfin⟩
        · refine me1 (pc' := 435) (L' := [(4, ii (vk v : Int)), (0, .ref 102), (1, ii verb), (2, ii (hd : Int)), (3, ii place)]) (S' := [.ref 102]) dm_X12_monad_434 rfl rfl rfl rfl ?_
          refine me1 (pc' := 436) (L' := [(4, ii (vk v : Int)), (0, .ref 102), (1, ii verb), (2, ii (hd : Int)), (3, ii place)]) (S' := [ii (hd : Int), .ref 102]) dm_X12_monad_435 rfl rfl rfl rfl ?_
          refine me0 (pc' := 437) (S' := [ii 0, ii (hd : Int), .ref 102]) dm_X12_monad_436 rfl rfl rfl rfl ?_
          refine x_cp (pc' := 440) (v := .long (vn v 0)) (rest := []) dm_X12_monad_437 rfl (q_inv (As := [ii (hd : Int), ii 0]) (S := []) hm rfl rfl rfl) rfl rfl rfl (r_number_ (e := 6) (k := 0) hm (by omega) hBs hvs (by omega) (by have z1 := vq_1 hw9 (by omega); omega)) ?_
          refine me0 (pc' := 441) (S' := [.long (Int64.ofInt 0), .long (vn v 0)]) dm_X12_monad_440 rfl rfl rfl rfl ?_
          refine y_llt (x := vn v 0) (y := Int64.ofInt 0) (t := 458) (pc1 := 442) (pc' := 445) dm_X12_monad_441 rfl dm_X12_monad_442 rfl rfl (fun hb4 => ?_) (fun hb4 => ?_)
          · have hsp2 : s_one verb 6 v = .inl 5 := by rw [hsp]; unfold m_upto; rw [if_neg (by omega), if_pos (by first | omega | (rw [h0] at *; omega) | (rw [h120] at *; omega) | (rw [h0, h120] at *; omega))]
            clear hsp
            have hsp := hsp2
            refine me1 (pc' := 459) (L' := [(4, ii (vk v : Int)), (0, .ref 102), (1, ii verb), (2, ii (hd : Int)), (3, ii place)]) (S' := [.ref 102]) dm_X12_monad_458 rfl rfl rfl rfl ?_
            refine me0 (pc' := 460) (S' := [ii 5, .ref 102]) dm_X12_monad_459 rfl rfl rfl rfl ?_
            refine me1 (pc' := 461) (L' := [(4, ii (vk v : Int)), (0, .ref 102), (1, ii verb), (2, ii (hd : Int)), (3, ii place)]) (S' := [ii place, ii 5, .ref 102]) dm_X12_monad_460 rfl rfl rfl rfl ?_
            refine x_cv (pc' := 464) (rest := []) dm_X12_monad_461 rfl (q_inv (As := [ii 5, ii place]) (S := []) hm rfl rfl rfl) rfl rfl rfl (r_fail_ (s := s2) hm (by omega) heS hcaS.1 hcaS.2) ?_
            rintro _ _ ⟨rfl, rfl⟩
            refine y_ret (r := some (ii (-1))) dm_X12_monad_464 rfl rfl rfl ?_
            have e9 : dOne (cpS s) W verb v place = dEr (cpS s) (W - (3 + vS v)) 5 place := by unfold dOne; rw [dAc_mo (by omega), hsp]; rfl
            have hfin := dres_fl (pre := pre) (post := post) (c := 4) (nd := nd) (e := 5) (pl := place) hT (by omega) hnd
            rw [hww] at hfin
            rw [e9]
            exact ⟨_, rfl, hfin⟩
          · refine me1 (pc' := 446) (L' := [(4, ii (vk v : Int)), (0, .ref 102), (1, ii verb), (2, ii (hd : Int)), (3, ii place)]) (S' := [.ref 102]) dm_X12_monad_445 rfl rfl rfl rfl ?_
            refine me1 (pc' := 447) (L' := [(4, ii (vk v : Int)), (0, .ref 102), (1, ii verb), (2, ii (hd : Int)), (3, ii place)]) (S' := [ii (hd : Int), .ref 102]) dm_X12_monad_446 rfl rfl rfl rfl ?_
            refine me0 (pc' := 448) (S' := [ii 0, ii (hd : Int), .ref 102]) dm_X12_monad_447 rfl rfl rfl rfl ?_
            refine x_cp (pc' := 451) (v := .long (vn v 0)) (rest := []) dm_X12_monad_448 rfl (q_inv (As := [ii (hd : Int), ii 0]) (S := []) hm rfl rfl rfl) rfl rfl rfl (r_number_ (e := 6) (k := 0) hm (by omega) hBs hvs (by omega) (by have z1 := vq_1 hw9 (by omega); omega)) ?_
            refine me3 (pc' := 454) (S' := [.long (Int64.ofInt 120), .long (vn v 0)]) dm_X12_monad_451 rfl rfl rfl rfl ?_
            refine y_lle (x := vn v 0) (y := Int64.ofInt 120) (t := 465) (pc1 := 455) (pc' := 458) dm_X12_monad_454 rfl dm_X12_monad_455 rfl rfl (fun hb5 => ?_) (fun hb5 => ?_)
            · obtain ⟨n, hn⟩ : ∃ n : Nat, (vn v 0).toInt = (n : Int) := ⟨_, (Int.toNat_of_nonneg (by first | omega | (rw [h0] at *; omega) | (rw [h120] at *; omega) | (rw [h0, h120] at *; omega))).symm⟩
              have hn120 : n ≤ 120 := by have hn9 := hn; first | omega | (rw [h0] at *; omega) | (rw [h120] at *; omega) | (rw [h0, h120] at *; omega)
              have hsp2 : s_one verb 6 v = .inr (vrow 4 n (fun k => Int64.ofInt (k : Int))) := by rw [hsp]; unfold m_upto; rw [if_neg (by omega), if_neg (by rw [hn]; omega), hn]; rfl
              clear hsp
              have hsp := hsp2
              refine me0 (pc' := 466) (S' := [ii 0]) dm_X12_monad_465 rfl rfl rfl rfl ?_
              refine me1 (pc' := 468) (L' := [(5, ii 0), (4, ii (vk v : Int)), (0, .ref 102), (1, ii verb), (2, ii (hd : Int)), (3, ii place)]) (S' := []) dm_X12_monad_466 rfl rfl rfl rfl ?_
              have lp468 : ∀ (n468 : Nat) (k : Nat) (P : Nat → Int), n - k = n468 → (k ≤ n) → (∀ j, j < k → P j = (j : Int)) → pgE xt (d - 1) 12 6 false (Option.some Jvm.ClassFile.FieldType.int) (mj_dec prog_14_method_29_code) 468 [(0, .ref 102), (1, ii verb), (2, ii (hd : Int)), (3, ii place), (4, ii (vk v : Int)), (5, ii (k : Int))] [] (rI pre post ((ordS s2 P).1) ((ordS s2 P).2.1) ((ordS s2 P).2.2.1) ((ordS s2 P).2.2.2)) (fun r h' => ∃ x, r = some x ∧ dres pre post s W 4 nd (dOne (cpS s) W verb v place) x h') := by
                intro n468
                induction n468 using Nat.strongRecOn with
                | ind n468 ih468 =>
                  intro k P hm468 hk hP
                  refine me1 (pc' := 470) (L' := [(0, .ref 102), (1, ii verb), (2, ii (hd : Int)), (3, ii place), (4, ii (vk v : Int)), (5, ii (k : Int))]) (S' := [ii (k : Int)]) dm_X12_monad_468 rfl rfl rfl rfl ?_
                  refine me1 (pc' := 471) (L' := [(0, .ref 102), (1, ii verb), (2, ii (hd : Int)), (3, ii place), (4, ii (vk v : Int)), (5, ii (k : Int))]) (S' := [.ref 102, ii (k : Int)]) dm_X12_monad_470 rfl rfl rfl rfl ?_
                  refine me1 (pc' := 472) (L' := [(0, .ref 102), (1, ii verb), (2, ii (hd : Int)), (3, ii place), (4, ii (vk v : Int)), (5, ii (k : Int))]) (S' := [ii (hd : Int), .ref 102, ii (k : Int)]) dm_X12_monad_471 rfl rfl rfl rfl ?_
                  refine me0 (pc' := 473) (S' := [ii 0, ii (hd : Int), .ref 102, ii (k : Int)]) dm_X12_monad_472 rfl rfl rfl rfl ?_
                  refine x_cp (pc' := 476) (v := .long (vn v 0)) (rest := [ii (k : Int)]) dm_X12_monad_473 rfl (q_inv (As := [ii (hd : Int), ii 0]) (S := [ii (k : Int)]) hm rfl rfl rfl) rfl rfl rfl (r_number_ (e := 6) (k := 0) hm (by omega) (rB_ord hBs) (rv_ord hh3 hvs) (by omega) (by have z1 := vq_1 hw9 (by omega); omega)) ?_
                  refine y_l2i (a := (n : Int)) dm_X12_monad_476 (pc' := 477) rfl (n_l2i _ hn) ?_
                  refine y_2ge (a := (k : Int)) (b := (n : Int)) (t := 495) (pc' := 480) dm_X12_monad_477 rfl rfl (by omega) (fun hb6 => ?_) (fun hb6 => ?_)
                  · refine me1 (pc' := 496) (L' := [(0, .ref 102), (1, ii verb), (2, ii (hd : Int)), (3, ii place), (4, ii (vk v : Int)), (5, ii (k : Int))]) (S' := [.ref 102]) dm_X12_monad_495 rfl rfl rfl rfl ?_
                    refine me1 (pc' := 497) (L' := [(0, .ref 102), (1, ii verb), (2, ii (hd : Int)), (3, ii place), (4, ii (vk v : Int)), (5, ii (k : Int))]) (S' := [.ref 102, .ref 102]) dm_X12_monad_496 rfl rfl rfl rfl ?_
                    refine me1 (pc' := 498) (L' := [(0, .ref 102), (1, ii verb), (2, ii (hd : Int)), (3, ii place), (4, ii (vk v : Int)), (5, ii (k : Int))]) (S' := [.ref 102, .ref 102, .ref 102]) dm_X12_monad_497 rfl rfl rfl rfl ?_
                    refine me1 (pc' := 499) (L' := [(0, .ref 102), (1, ii verb), (2, ii (hd : Int)), (3, ii place), (4, ii (vk v : Int)), (5, ii (k : Int))]) (S' := [ii (hd : Int), .ref 102, .ref 102, .ref 102]) dm_X12_monad_498 rfl rfl rfl rfl ?_
                    refine me0 (pc' := 500) (S' := [ii 0, ii (hd : Int), .ref 102, .ref 102, .ref 102]) dm_X12_monad_499 rfl rfl rfl rfl ?_
                    refine x_cp (pc' := 503) (v := .long (vn v 0)) (rest := [.ref 102, .ref 102]) dm_X12_monad_500 rfl (q_inv (As := [ii (hd : Int), ii 0]) (S := [.ref 102, .ref 102]) hm rfl rfl rfl) rfl rfl rfl (r_number_ (e := 6) (k := 0) hm (by omega) (rB_ord hBs) (rv_ord hh3 hvs) (by omega) (by have z1 := vq_1 hw9 (by omega); omega)) ?_
                    refine y_l2i (a := (n : Int)) dm_X12_monad_503 (pc' := 504) rfl (n_l2i _ hn) ?_
                    have hOO : ∀ j, j < n → 0 ≤ (ordS s2 P).2.2.1 14 j ∧ (ordS s2 P).2.2.1 14 j ≤ 1000 := fun j hj => by rw [ordS_14, hP j (by omega)]; omega
                    refine x_cv (pc' := 507) (rest := [.ref 102]) dm_X12_monad_504 rfl (q_inv (As := [ii (n : Int)]) (S := [.ref 102]) hm rfl rfl rfl) rfl rfl rfl (r_places_ (e := 6) (q := q) (b := b) (n := n) (s := (ordS s2 P)) (place := place) hm (by omega) hqS hbS hq3 (by omega) heS (by omega) (by omega) hOO) ?_
                    rintro x1 g1 hres
                    have hr2 := rres_up (rres_bk (rpre_ord s2 P) (rres_cg (g := (fun k => Int64.ofInt (k : Int))) (by omega) (fun j hj => by rw [ordS_14, hP j (by omega)]) hres)) (show n ≤ 120 by omega) (Nat.le_refl 1)
                    have hG : rG pre post s2 8 (.inr (vrow 4 n (fun k => Int64.ofInt (k : Int)))) place (rcb (.inr (vrow 4 n (fun k => Int64.ofInt (k : Int)))) 120) (rvb (.inr (vrow 4 n (fun k => Int64.ofInt (k : Int)))) 1) x1 g1 := rG_up (rG_r hr2)
                    obtain ⟨z1, rfl⟩ := rG_ii hG
                    obtain ⟨t1, rfl⟩ := rG_st hG
                    refine me1 (pc' := 508) (L' := [(0, .ref 102), (1, ii verb), (2, ii (hd : Int)), (3, ii place), (4, ii (vk v : Int)), (5, ii (k : Int))]) (S' := [ii place, ii z1, .ref 102]) dm_X12_monad_507 rfl rfl rfl rfl ?_
                    refine x_cv (pc' := 511) (rest := []) dm_X12_monad_508 rfl (q_inv (As := [ii z1, ii place]) (S := []) hm rfl rfl rfl) rfl rfl rfl (r_mdo1 (s := s) (s2 := s2) (W2 := W - (3 + vS v)) (cost := 3 + vS v) (cb := 120) (o := .inr (vrow 4 n (fun k => Int64.ofInt (k : Int)))) (c := 4) (nd := nd) hm (by omega) hT hB0 hG hca (by omega) hnd (fun n hn => hrs.1 n (hsp.trans hn)) (fun r hr => hrs.2 r (hsp.trans hr)) (by omega) (by omega) (by omega)) ?_
                    rintro x9 g9 hfin
                    obtain ⟨z9, rfl⟩ := dres_ii hfin
                    obtain ⟨t9, rfl⟩ := dres_st hfin
                    refine y_ret (r := some (ii z9)) dm_X12_monad_511 rfl rfl rfl ?_
                    have e9 : dOne (cpS s) W verb v place = dMo (cpS s) (W - (3 + vS v)) 0 (.inr (vrow 4 n (fun k => Int64.ofInt (k : Int)))) place := by unfold dOne; rw [dAc_mo (by omega), hsp]
                    rw [hww] at hfin
                    rw [e9]
                    exact ⟨_, rfl, hfin⟩
                  · refine me1 (pc' := 481) (L' := [(0, .ref 102), (1, ii verb), (2, ii (hd : Int)), (3, ii place), (4, ii (vk v : Int)), (5, ii (k : Int))]) (S' := [.ref 102]) dm_X12_monad_480 rfl rfl rfl rfl ?_
                    refine me3 (pc' := 484) (S' := [.ref (102 + 5)]) dm_X12_monad_481 (q_getr hm rfl (fun m i l => rg_14 m i l)) rfl rfl rfl ?_
                    refine me1 (pc' := 486) (L' := [(0, .ref 102), (1, ii verb), (2, ii (hd : Int)), (3, ii place), (4, ii (vk v : Int)), (5, ii (k : Int))]) (S' := [ii (k : Int), .ref (102 + 5)]) dm_X12_monad_484 rfl rfl rfl rfl ?_
                    refine me1 (pc' := 488) (L' := [(0, .ref 102), (1, ii verb), (2, ii (hd : Int)), (3, ii place), (4, ii (vk v : Int)), (5, ii (k : Int))]) (S' := [ii (k : Int), ii (k : Int), .ref (102 + 5)]) dm_X12_monad_486 rfl rfl rfl rfl ?_
                    refine me3 (pc' := 489) (S' := []) (h1 := rI pre post ((ordS s2 P).1) ((ordS s2 P).2.1) (va_up ((ordS s2 P).2.2.1) 14 (va_up (((ordS s2 P).2.2.1) 14) k (k : Int))) ((ordS s2 P).2.2.2)) dm_X12_monad_488 (q_iast (j := (k : Int)) (k := 14) (n := 260) hm (fun m i l I J => rc_14 m i l I J) (fun m i l I J f => rs_14 m i l I J f) (by omega) (by omega) (by decide)) rfl rfl rfl ?_
                    refine pg_cast (h2 := rI pre post ((ordS s2 (va_up P k (k : Int))).1) ((ordS s2 (va_up P k (k : Int))).2.1) ((ordS s2 (va_up P k (k : Int))).2.2.1) ((ordS s2 (va_up P k (k : Int))).2.2.2)) (ord_up s2 P k _) ?_
                    refine y_iinc (pc' := 492) (L' := [(5, ii ((k : Int) + 1)), (0, .ref 102), (1, ii verb), (2, ii (hd : Int)), (3, ii place), (4, ii (vk v : Int))]) dm_X12_monad_489 (y_incp (a := (k : Int)) (c := 1) rfl rfl (by decide)) rfl ?_
                    refine me2 (pc' := 468) (S' := []) dm_X12_monad_492 rfl rfl rfl ?_
                    exact pg_sub (L := [(0, .ref 102), (1, ii verb), (2, ii (hd : Int)), (3, ii place), (4, ii (vk v : Int)), (5, ii ((k + 1) : Int))]) rfl rfl rfl (ih468 (n - (k + 1)) (by omega) (k + 1) (va_up P k (k : Int)) rfl (by omega) (fun j hj => by rw [up_at]; by_cases z : j = k; (rw [if_pos z, z]); (rw [if_neg z]; exact hP j (by omega))))
              refine pg_cast (h2 := rI pre post ((ordS s2 (s2.2.2.1 14)).1) ((ordS s2 (s2.2.2.1 14)).2.1) ((ordS s2 (s2.2.2.1 14)).2.2.1) ((ordS s2 (s2.2.2.1 14)).2.2.2)) (ord_0 s2) ?_
              exact pg_sub (L := [(0, .ref 102), (1, ii verb), (2, ii (hd : Int)), (3, ii place), (4, ii (vk v : Int)), (5, ii (0 : Int))]) rfl rfl rfl (lp468 _ 0 (s2.2.2.1 14) rfl (Nat.zero_le _) (fun j hj => absurd hj (Nat.not_lt_zero j)))
            · have hsp2 : s_one verb 6 v = .inl 5 := by rw [hsp]; unfold m_upto; rw [if_neg (by omega), if_pos (by first | omega | (rw [h0] at *; omega) | (rw [h120] at *; omega) | (rw [h0, h120] at *; omega))]
              clear hsp
              have hsp := hsp2
              refine me1 (pc' := 459) (L' := [(4, ii (vk v : Int)), (0, .ref 102), (1, ii verb), (2, ii (hd : Int)), (3, ii place)]) (S' := [.ref 102]) dm_X12_monad_458 rfl rfl rfl rfl ?_
              refine me0 (pc' := 460) (S' := [ii 5, .ref 102]) dm_X12_monad_459 rfl rfl rfl rfl ?_
              refine me1 (pc' := 461) (L' := [(4, ii (vk v : Int)), (0, .ref 102), (1, ii verb), (2, ii (hd : Int)), (3, ii place)]) (S' := [ii place, ii 5, .ref 102]) dm_X12_monad_460 rfl rfl rfl rfl ?_
              refine x_cv (pc' := 464) (rest := []) dm_X12_monad_461 rfl (q_inv (As := [ii 5, ii place]) (S := []) hm rfl rfl rfl) rfl rfl rfl (r_fail_ (s := s2) hm (by omega) heS hcaS.1 hcaS.2) ?_
              rintro _ _ ⟨rfl, rfl⟩
              refine y_ret (r := some (ii (-1))) dm_X12_monad_464 rfl rfl rfl ?_
              have e9 : dOne (cpS s) W verb v place = dEr (cpS s) (W - (3 + vS v)) 5 place := by unfold dOne; rw [dAc_mo (by omega), hsp]; rfl
              have hfin := dres_fl (pre := pre) (post := post) (c := 4) (nd := nd) (e := 5) (pl := place) hT (by omega) hnd
              rw [hww] at hfin
              rw [e9]
              exact ⟨_, rfl, hfin⟩
      · replace hb2 := dF hb2
        have hsp2 : s_one verb 6 v = .inl 3 := by rw [hsp]; unfold m_upto; rw [if_pos (by omega)]
        clear hsp
        have hsp := hsp2
        refine me1 (pc' := 422) (L' := [(4, ii (vk v : Int)), (0, .ref 102), (1, ii verb), (2, ii (hd : Int)), (3, ii place)]) (S' := [.ref 102]) dm_X12_monad_421 rfl rfl rfl rfl ?_
        refine me0 (pc' := 423) (S' := [ii 3, .ref 102]) dm_X12_monad_422 rfl rfl rfl rfl ?_
        refine me1 (pc' := 424) (L' := [(4, ii (vk v : Int)), (0, .ref 102), (1, ii verb), (2, ii (hd : Int)), (3, ii place)]) (S' := [ii place, ii 3, .ref 102]) dm_X12_monad_423 rfl rfl rfl rfl ?_
        refine x_cv (pc' := 427) (rest := []) dm_X12_monad_424 rfl (q_inv (As := [ii 3, ii place]) (S := []) hm rfl rfl rfl) rfl rfl rfl (r_fail_ (s := s2) hm (by omega) heS hcaS.1 hcaS.2) ?_
        rintro _ _ ⟨rfl, rfl⟩
        refine y_ret (r := some (ii (-1))) dm_X12_monad_427 rfl rfl rfl ?_
        have e9 : dOne (cpS s) W verb v place = dEr (cpS s) (W - (3 + vS v)) 3 place := by unfold dOne; rw [dAc_mo (by omega), hsp]; rfl
        have hfin := dres_fl (pre := pre) (post := post) (c := 4) (nd := nd) (e := 3) (pl := place) hT (by omega) hnd
        rw [hww] at hfin
        rw [e9]
        exact ⟨_, rfl, hfin⟩
    refine y_sw (a := verb) (35) (t := 535) (i := .lookupswitch 547 #[(33, 383), (35, 505), (37, 176), (38, 218), (42, 189), (43, 154), (44, 482), (45, 176), (46, 493), (60, 294), (61, 359), (62, 294), (63, 371), (64, 533), (94, 294), (95, 522), (124, 230), (126, 176)]) (len := 154) dm_X12_monad_30 rfl rfl rfl (by omega) (by decide) (fun hb7 => ?_) (fun hb7 => ?_)
    · exfalso; omega
    refine y_sw (a := verb) (37) (t := 206) (i := .lookupswitch 547 #[(33, 383), (35, 505), (37, 176), (38, 218), (42, 189), (43, 154), (44, 482), (45, 176), (46, 493), (60, 294), (61, 359), (62, 294), (63, 371), (64, 533), (94, 294), (95, 522), (124, 230), (126, 176)]) (len := 154) dm_X12_monad_30 rfl rfl rfl (by omega) (by decide) (fun hb8 => ?_) (fun hb8 => ?_)
    · exfalso; omega
    refine y_sw (a := verb) (38) (t := 248) (i := .lookupswitch 547 #[(33, 383), (35, 505), (37, 176), (38, 218), (42, 189), (43, 154), (44, 482), (45, 176), (46, 493), (60, 294), (61, 359), (62, 294), (63, 371), (64, 533), (94, 294), (95, 522), (124, 230), (126, 176)]) (len := 154) dm_X12_monad_30 rfl rfl rfl (by omega) (by decide) (fun hb9 => ?_) (fun hb9 => ?_)
    · exfalso; omega
    refine y_sw (a := verb) (42) (t := 219) (i := .lookupswitch 547 #[(33, 383), (35, 505), (37, 176), (38, 218), (42, 189), (43, 154), (44, 482), (45, 176), (46, 493), (60, 294), (61, 359), (62, 294), (63, 371), (64, 533), (94, 294), (95, 522), (124, 230), (126, 176)]) (len := 154) dm_X12_monad_30 rfl rfl rfl (by omega) (by decide) (fun hb10 => ?_) (fun hb10 => ?_)
    · exfalso; omega
    refine y_sw (a := verb) (43) (t := 184) (i := .lookupswitch 547 #[(33, 383), (35, 505), (37, 176), (38, 218), (42, 189), (43, 154), (44, 482), (45, 176), (46, 493), (60, 294), (61, 359), (62, 294), (63, 371), (64, 533), (94, 294), (95, 522), (124, 230), (126, 176)]) (len := 154) dm_X12_monad_30 rfl rfl rfl (by omega) (by decide) (fun hb11 => ?_) (fun hb11 => ?_)
    · exfalso; omega
    refine y_sw (a := verb) (44) (t := 512) (i := .lookupswitch 547 #[(33, 383), (35, 505), (37, 176), (38, 218), (42, 189), (43, 154), (44, 482), (45, 176), (46, 493), (60, 294), (61, 359), (62, 294), (63, 371), (64, 533), (94, 294), (95, 522), (124, 230), (126, 176)]) (len := 154) dm_X12_monad_30 rfl rfl rfl (by omega) (by decide) (fun hb12 => ?_) (fun hb12 => ?_)
    · exfalso; omega
    refine y_sw (a := verb) (45) (t := 206) (i := .lookupswitch 547 #[(33, 383), (35, 505), (37, 176), (38, 218), (42, 189), (43, 154), (44, 482), (45, 176), (46, 493), (60, 294), (61, 359), (62, 294), (63, 371), (64, 533), (94, 294), (95, 522), (124, 230), (126, 176)]) (len := 154) dm_X12_monad_30 rfl rfl rfl (by omega) (by decide) (fun hb13 => ?_) (fun hb13 => ?_)
    · exfalso; omega
    refine y_sw (a := verb) (46) (t := 523) (i := .lookupswitch 547 #[(33, 383), (35, 505), (37, 176), (38, 218), (42, 189), (43, 154), (44, 482), (45, 176), (46, 493), (60, 294), (61, 359), (62, 294), (63, 371), (64, 533), (94, 294), (95, 522), (124, 230), (126, 176)]) (len := 154) dm_X12_monad_30 rfl rfl rfl (by omega) (by decide) (fun hb14 => ?_) (fun hb14 => ?_)
    · exfalso; omega
    refine y_sw (a := verb) (60) (t := 324) (i := .lookupswitch 547 #[(33, 383), (35, 505), (37, 176), (38, 218), (42, 189), (43, 154), (44, 482), (45, 176), (46, 493), (60, 294), (61, 359), (62, 294), (63, 371), (64, 533), (94, 294), (95, 522), (124, 230), (126, 176)]) (len := 154) dm_X12_monad_30 rfl rfl rfl (by omega) (by decide) (fun hb15 => ?_) (fun hb15 => ?_)
    · exfalso; omega
    refine y_sw (a := verb) (61) (t := 389) (i := .lookupswitch 547 #[(33, 383), (35, 505), (37, 176), (38, 218), (42, 189), (43, 154), (44, 482), (45, 176), (46, 493), (60, 294), (61, 359), (62, 294), (63, 371), (64, 533), (94, 294), (95, 522), (124, 230), (126, 176)]) (len := 154) dm_X12_monad_30 rfl rfl rfl (by omega) (by decide) (fun hb16 => ?_) (fun hb16 => ?_)
    · exfalso; omega
    refine y_sw (a := verb) (62) (t := 324) (i := .lookupswitch 547 #[(33, 383), (35, 505), (37, 176), (38, 218), (42, 189), (43, 154), (44, 482), (45, 176), (46, 493), (60, 294), (61, 359), (62, 294), (63, 371), (64, 533), (94, 294), (95, 522), (124, 230), (126, 176)]) (len := 154) dm_X12_monad_30 rfl rfl rfl (by omega) (by decide) (fun hb17 => ?_) (fun hb17 => ?_)
    · exfalso; omega
    refine y_sw (a := verb) (63) (t := 401) (i := .lookupswitch 547 #[(33, 383), (35, 505), (37, 176), (38, 218), (42, 189), (43, 154), (44, 482), (45, 176), (46, 493), (60, 294), (61, 359), (62, 294), (63, 371), (64, 533), (94, 294), (95, 522), (124, 230), (126, 176)]) (len := 154) dm_X12_monad_30 rfl rfl rfl (by omega) (by decide) (fun hb18 => ?_) (fun hb18 => ?_)
    · exfalso; omega
    refine y_sw (a := verb) (64) (t := 563) (i := .lookupswitch 547 #[(33, 383), (35, 505), (37, 176), (38, 218), (42, 189), (43, 154), (44, 482), (45, 176), (46, 493), (60, 294), (61, 359), (62, 294), (63, 371), (64, 533), (94, 294), (95, 522), (124, 230), (126, 176)]) (len := 154) dm_X12_monad_30 rfl rfl rfl (by omega) (by decide) (fun hb19 => ?_) (fun hb19 => ?_)
    · exfalso; omega
    refine y_sw (a := verb) (94) (t := 324) (i := .lookupswitch 547 #[(33, 383), (35, 505), (37, 176), (38, 218), (42, 189), (43, 154), (44, 482), (45, 176), (46, 493), (60, 294), (61, 359), (62, 294), (63, 371), (64, 533), (94, 294), (95, 522), (124, 230), (126, 176)]) (len := 154) dm_X12_monad_30 rfl rfl rfl (by omega) (by decide) (fun hb20 => ?_) (fun hb20 => ?_)
    · exfalso; omega
    refine y_sw (a := verb) (95) (t := 552) (i := .lookupswitch 547 #[(33, 383), (35, 505), (37, 176), (38, 218), (42, 189), (43, 154), (44, 482), (45, 176), (46, 493), (60, 294), (61, 359), (62, 294), (63, 371), (64, 533), (94, 294), (95, 522), (124, 230), (126, 176)]) (len := 154) dm_X12_monad_30 rfl rfl rfl (by omega) (by decide) (fun hb21 => ?_) (fun hb21 => ?_)
    · exfalso; omega
    refine y_sw (a := verb) (124) (t := 260) (i := .lookupswitch 547 #[(33, 383), (35, 505), (37, 176), (38, 218), (42, 189), (43, 154), (44, 482), (45, 176), (46, 493), (60, 294), (61, 359), (62, 294), (63, 371), (64, 533), (94, 294), (95, 522), (124, 230), (126, 176)]) (len := 154) dm_X12_monad_30 rfl rfl rfl (by omega) (by decide) (fun hb22 => ?_) (fun hb22 => ?_)
    · exfalso; omega
    refine y_sw (a := verb) (126) (t := 206) (i := .lookupswitch 547 #[(33, 383), (35, 505), (37, 176), (38, 218), (42, 189), (43, 154), (44, 482), (45, 176), (46, 493), (60, 294), (61, 359), (62, 294), (63, 371), (64, 533), (94, 294), (95, 522), (124, 230), (126, 176)]) (len := 154) dm_X12_monad_30 rfl rfl rfl (by omega) (by decide) (fun hb23 => ?_) (fun hb23 => ?_)
    · exfalso; omega
    exfalso; omega
/-- monad -/
theorem r_monad_ {xt : mj_X} {d hd q b base W : Nat} {pre post : mj_H} {s : RS} {v : VV} {place nd verb : Int} (hm : pre.length = 102) (hd1 : 60 ≤ d) (hRS : RSO) (hB : rB s) (hv : rv s 7 hd v) (hh3 : 3 ≤ hd) (hz1 : vsz 7 v ≤ 1000) (hz2 : vlv 7 v ≤ 5) (hq : s.1 4 = (q : Int)) (hb : s.1 3 = (b : Int)) (hq3 : 3 ≤ q) (hV2 : q + 2100 < 310000) (he0 : s.1 5 = 0) (hca : 0 ≤ s.1 10 ∧ s.1 10 ≤ 100) (hC : b + 291000 ≤ 820000) (hw13 : s.1 13 = (base : Int)) (hbs : base ≤ 7900) (h8 : s.1 8 = (W : Int)) (hW5 : W ≤ 500000) (hnd : 0 ≤ nd) (hRP : RPA) (hvb : verb = 33 ∨ verb = 35 ∨ verb = 36 ∨ verb = 37 ∨ verb = 38 ∨ verb = 42 ∨ verb = 43 ∨ verb = 44 ∨ verb = 45 ∨ verb = 46 ∨ verb = 60 ∨ verb = 61 ∨ verb = 62 ∨ verb = 63 ∨ verb = 64 ∨ verb = 94 ∨ verb = 95 ∨ verb = 124 ∨ verb = 126) : pgV xt d 281 [.ref 102, ii verb, ii (hd : Int), ii place] (rS pre post s) (dres pre post s W 4 nd (dOne (cpS s) W verb v place)) := by
  by_cases hp : verb = 45 ∨ verb = 37 ∨ verb = 126
  · exact r_monP hm hd1 hRS hB hv hh3 hz1 hz2 hq hb hq3 hV2 he0 hca hC hw13 hbs h8 hW5 hnd hp hRP
  by_cases h33 : verb = 33
  · exact r_mon33 hm hd1 hRS hB hv hh3 hz1 hz2 hq hb hq3 hV2 he0 hca hC hw13 hbs h8 hW5 hnd h33
  by_cases h35 : verb = 35
  · exact r_mon35 hm hd1 hRS hB hv hh3 hz1 hz2 hq hb hq3 hV2 he0 hca hC hw13 hbs h8 hW5 hnd h35
  by_cases h36 : verb = 36
  · exact r_mon36 hm hd1 hRS hB hv hh3 hz1 hz2 hq hb hq3 hV2 he0 hca hC hw13 hbs h8 hW5 hnd h36
  by_cases h38 : verb = 38
  · exact r_mon38 hm hd1 hRS hB hv hh3 hz1 hz2 hq hb hq3 hV2 he0 hca hC hw13 hbs h8 hW5 hnd h38
  by_cases h42 : verb = 42
  · exact r_mon42 hm hd1 hRS hB hv hh3 hz1 hz2 hq hb hq3 hV2 he0 hca hC hw13 hbs h8 hW5 hnd h42
  by_cases h43 : verb = 43
  · exact r_mon43 hm hd1 hRS hB hv hh3 hz1 hz2 hq hb hq3 hV2 he0 hca hC hw13 hbs h8 hW5 hnd h43
  by_cases h44 : verb = 44
  · exact r_mon44 hm hd1 hRS hB hv hh3 hz1 hz2 hq hb hq3 hV2 he0 hca hC hw13 hbs h8 hW5 hnd h44
  by_cases h46 : verb = 46
  · exact r_mon46 hm hd1 hRS hB hv hh3 hz1 hz2 hq hb hq3 hV2 he0 hca hC hw13 hbs h8 hW5 hnd h46
  by_cases h60 : verb = 60
  · exact r_mon60 hm hd1 hRS hB hv hh3 hz1 hz2 hq hb hq3 hV2 he0 hca hC hw13 hbs h8 hW5 hnd h60
  by_cases h61 : verb = 61
  · exact r_mon61 hm hd1 hRS hB hv hh3 hz1 hz2 hq hb hq3 hV2 he0 hca hC hw13 hbs h8 hW5 hnd h61
  by_cases h62 : verb = 62
  · exact r_mon62 hm hd1 hRS hB hv hh3 hz1 hz2 hq hb hq3 hV2 he0 hca hC hw13 hbs h8 hW5 hnd h62
  by_cases h63 : verb = 63
  · exact r_mon63 hm hd1 hRS hB hv hh3 hz1 hz2 hq hb hq3 hV2 he0 hca hC hw13 hbs h8 hW5 hnd h63
  by_cases h64 : verb = 64
  · exact r_mon64 hm hd1 hRS hB hv hh3 hz1 hz2 hq hb hq3 hV2 he0 hca hC hw13 hbs h8 hW5 hnd h64
  by_cases h94 : verb = 94
  · exact r_mon94 hm hd1 hRS hB hv hh3 hz1 hz2 hq hb hq3 hV2 he0 hca hC hw13 hbs h8 hW5 hnd h94
  by_cases h95 : verb = 95
  · exact r_mon95 hm hd1 hRS hB hv hh3 hz1 hz2 hq hb hq3 hV2 he0 hca hC hw13 hbs h8 hW5 hnd h95
  by_cases h124 : verb = 124
  · exact r_mon124 hm hd1 hRS hB hv hh3 hz1 hz2 hq hb hq3 hV2 he0 hca hC hw13 hbs h8 hW5 hnd h124
  exfalso; omega
