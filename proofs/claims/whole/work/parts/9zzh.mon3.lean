/-! the reference: monad, with places found first -/
theorem rG_ord {pre post : mj_H} {s : RS} {e q : Nat} {w : VV} {place : Int} {P : Nat → Int} (he : s.1 5 = 0) (hq : 3 ≤ q) (hv : rv s e q w) : rG pre post s e (.inr w) place 0 0 (ii (q : Int)) (rS pre post (ordS s P)) := ⟨ordS s P, rfl, (rpre_ord s P).1, (rpre_ord s P).2.1, by show s.1 3 ≤ _; omega, by show s.1 4 ≤ _; omega, he, rfl, q, hq, rfl, rv_ord hq hv⟩
theorem vlt_94 (v : VV) : vlt 94 v = vlt 60 v := by
  funext i j
  show ahd 94 _ _ = ahd 60 _ _
  unfold ahd
  rw [if_neg (by decide), if_neg (by decide)]
theorem pcl_144 {v : VV} (hw : vw1 v) : pcl v (vm v) ≤ 144 := by
  unfold pcl
  split
  · rename_i h6
    have z := hw.2.2.2.1 h6
    have := Nat.mul_le_mul z.2.1 z.2.2.2.1
    omega
  · have := vw1_m hw
    omega
theorem dm_X12_monad_260 : mj_dec prog_14_method_29_code 260 = some (.iconst 0, 1) := by decide +kernel
theorem dm_X12_monad_261 : mj_dec prog_14_method_29_code 261 = some (.istore 5, 2) := by decide +kernel
theorem dm_X12_monad_263 : mj_dec prog_14_method_29_code 263 = some (.iload 5, 2) := by decide +kernel
theorem dm_X12_monad_265 : mj_dec prog_14_method_29_code 265 = some (.aload_n 0, 1) := by decide +kernel
theorem dm_X12_monad_266 : mj_dec prog_14_method_29_code 266 = some (.iload_n 2, 1) := by decide +kernel
theorem dm_X12_monad_267 : mj_dec prog_14_method_29_code 267 = some (.invokevirtual 134, 3) := by decide +kernel
theorem dm_X12_monad_270 : mj_dec prog_14_method_29_code 270 = some (.if_icmp .ge 26, 3) := by decide +kernel
theorem dm_X12_monad_273 : mj_dec prog_14_method_29_code 273 = some (.aload_n 0, 1) := by decide +kernel
theorem dm_X12_monad_274 : mj_dec prog_14_method_29_code 274 = some (.getfield 33, 3) := by decide +kernel
theorem dm_X12_monad_277 : mj_dec prog_14_method_29_code 277 = some (.iload 5, 2) := by decide +kernel
theorem dm_X12_monad_279 : mj_dec prog_14_method_29_code 279 = some (.aload_n 0, 1) := by decide +kernel
theorem dm_X12_monad_280 : mj_dec prog_14_method_29_code 280 = some (.iload_n 2, 1) := by decide +kernel
theorem dm_X12_monad_281 : mj_dec prog_14_method_29_code 281 = some (.invokevirtual 134, 3) := by decide +kernel
theorem dm_X12_monad_284 : mj_dec prog_14_method_29_code 284 = some (.iconst 1, 1) := by decide +kernel
theorem dm_X12_monad_285 : mj_dec prog_14_method_29_code 285 = some (.isub, 1) := by decide +kernel
theorem dm_X12_monad_286 : mj_dec prog_14_method_29_code 286 = some (.iload 5, 2) := by decide +kernel
theorem dm_X12_monad_288 : mj_dec prog_14_method_29_code 288 = some (.isub, 1) := by decide +kernel
theorem dm_X12_monad_289 : mj_dec prog_14_method_29_code 289 = some (.iastore, 1) := by decide +kernel
theorem dm_X12_monad_290 : mj_dec prog_14_method_29_code 290 = some (.iinc 5 1, 3) := by decide +kernel
theorem dm_X12_monad_293 : mj_dec prog_14_method_29_code 293 = some (.goto (-30), 3) := by decide +kernel
theorem dm_X12_monad_296 : mj_dec prog_14_method_29_code 296 = some (.aload_n 0, 1) := by decide +kernel
theorem dm_X12_monad_297 : mj_dec prog_14_method_29_code 297 = some (.aload_n 0, 1) := by decide +kernel
theorem dm_X12_monad_298 : mj_dec prog_14_method_29_code 298 = some (.iload_n 2, 1) := by decide +kernel
theorem dm_X12_monad_299 : mj_dec prog_14_method_29_code 299 = some (.invokevirtual 162, 3) := by decide +kernel
theorem dm_X12_monad_302 : mj_dec prog_14_method_29_code 302 = some (.ifCond .eq 7, 3) := by decide +kernel
theorem dm_X12_monad_305 : mj_dec prog_14_method_29_code 305 = some (.iload_n 2, 1) := by decide +kernel
theorem dm_X12_monad_306 : mj_dec prog_14_method_29_code 306 = some (.goto 13, 3) := by decide +kernel
theorem dm_X12_monad_309 : mj_dec prog_14_method_29_code 309 = some (.aload_n 0, 1) := by decide +kernel
theorem dm_X12_monad_310 : mj_dec prog_14_method_29_code 310 = some (.iload_n 2, 1) := by decide +kernel
theorem dm_X12_monad_311 : mj_dec prog_14_method_29_code 311 = some (.aload_n 0, 1) := by decide +kernel
theorem dm_X12_monad_312 : mj_dec prog_14_method_29_code 312 = some (.iload_n 2, 1) := by decide +kernel
theorem dm_X12_monad_313 : mj_dec prog_14_method_29_code 313 = some (.invokevirtual 134, 3) := by decide +kernel
theorem dm_X12_monad_316 : mj_dec prog_14_method_29_code 316 = some (.invokevirtual 223, 3) := by decide +kernel
theorem dm_X12_monad_319 : mj_dec prog_14_method_29_code 319 = some (.iload_n 3, 1) := by decide +kernel
theorem dm_X12_monad_320 : mj_dec prog_14_method_29_code 320 = some (.invokevirtual 208, 3) := by decide +kernel
theorem dm_X12_monad_323 : mj_dec prog_14_method_29_code 323 = some (.ireturn, 1) := by decide +kernel
theorem r_mon124 {xt : mj_X} {d hd q b base W : Nat} {pre post : mj_H} {s : RS} {v : VV} {place nd verb : Int} (hm : pre.length = 102) (hd1 : 60 ≤ d) (hRS : RSO) (hB : rB s) (hv : rv s 7 hd v) (hh3 : 3 ≤ hd) (hz1 : vsz 7 v ≤ 1000) (hz2 : vlv 7 v ≤ 5) (hq : s.1 4 = (q : Int)) (hb : s.1 3 = (b : Int)) (hq3 : 3 ≤ q) (hV2 : q + 2100 < 310000) (he0 : s.1 5 = 0) (hca : 0 ≤ s.1 10 ∧ s.1 10 ≤ 100) (hC : b + 291000 ≤ 820000) (hw13 : s.1 13 = (base : Int)) (hbs : base ≤ 7900) (h8 : s.1 8 = (W : Int)) (hW5 : W ≤ 500000) (hnd : 0 ≤ nd) (hvb : verb = 124) : pgV xt d 281 [.ref 102, ii verb, ii (hd : Int), ii place] (rS pre post s) (dres pre post s W 4 nd (dOne (cpS s) W verb v place)) := by
  have hB0 := hB
  obtain ⟨hB1, hB2, hB3, hB4⟩ := hB
  obtain ⟨fr, hfr, hsh, hlt, hcl, hvk, hvm, hvc, hvq, hvcl⟩ := rv_val hv
  have hvb2 : -2147483648 ≤ verb ∧ verb ≤ 2147483647 := by omega
  refine x_enter pm_X12_monad (L0 := [(0, .ref 102), (1, ii verb), (2, ii (hd : Int)), (3, ii place)]) rfl (Nat.le_of_ble_eq_true rfl) (by omega) ?_
  refine me1 (pc' := 1) (L' := [(0, .ref 102), (1, ii verb), (2, ii (hd : Int)), (3, ii place)]) (S' := [.ref 102]) dm_X12_monad_0 rfl rfl rfl rfl ?_
  refine me1 (pc' := 2) (L' := [(0, .ref 102), (1, ii verb), (2, ii (hd : Int)), (3, ii place)]) (S' := [ii (hd : Int), .ref 102]) dm_X12_monad_1 rfl rfl rfl rfl ?_
  refine x_cp (pc' := 5) (v := ii (vk v : Int)) (rest := []) dm_X12_monad_2 rfl (q_inv (As := [ii (hd : Int)]) (S := []) hm rfl rfl rfl) rfl rfl rfl (r_kindOf_ (e := 6) hm (by omega) hB0 hv) ?_
  refine me1 (pc' := 7) (L' := [(4, ii (vk v : Int)), (0, .ref 102), (1, ii verb), (2, ii (hd : Int)), (3, ii place)]) (S' := []) dm_X12_monad_5 rfl rfl rfl rfl ?_
  refine me1 (pc' := 8) (L' := [(4, ii (vk v : Int)), (0, .ref 102), (1, ii verb), (2, ii (hd : Int)), (3, ii place)]) (S' := [.ref 102]) dm_X12_monad_7 rfl rfl rfl rfl ?_
  refine me0 (pc' := 9) (S' := [ii 3, .ref 102]) dm_X12_monad_8 rfl rfl rfl rfl ?_
  refine me1 (pc' := 10) (L' := [(4, ii (vk v : Int)), (0, .ref 102), (1, ii verb), (2, ii (hd : Int)), (3, ii place)]) (S' := [.ref 102, ii 3, .ref 102]) dm_X12_monad_9 rfl rfl rfl rfl ?_
  refine me1 (pc' := 11) (L' := [(4, ii (vk v : Int)), (0, .ref 102), (1, ii verb), (2, ii (hd : Int)), (3, ii place)]) (S' := [ii (hd : Int), .ref 102, ii 3, .ref 102]) dm_X12_monad_10 rfl rfl rfl rfl ?_
  refine x_cp (pc' := 14) (v := ii (vsz 7 v : Int)) (rest := [ii 3, .ref 102]) dm_X12_monad_11 rfl (q_inv (As := [ii (hd : Int)]) (S := [ii 3, .ref 102]) hm rfl rfl rfl) rfl rfl rfl (r_sizeOf_ hm hB0 7 (by omega) hv) ?_
  refine y_iadd (a := 3) (b := (vsz 7 v : Int)) dm_X12_monad_14 (pc' := 15) rfl ?_
  refine pg_st (S' := [ii ((3 + vS v : Nat) : Int), .ref 102]) (congrArg (fun z => ii z :: [.ref 102]) (show 3 + (vsz 7 v : Int) = ((3 + vS v : Nat) : Int) by show _ = ((3 + vsz 7 v : Nat) : Int); omega)) ?_
  have hvS : vS v = vsz 7 v := rfl
  by_cases hW : W < 3 + vS v
  · refine me1 (pc' := 16) (L' := [(4, ii (vk v : Int)), (0, .ref 102), (1, ii verb), (2, ii (hd : Int)), (3, ii place)]) (S' := [ii place, ii ((3 + vS v : Nat) : Int), .ref 102]) dm_X12_monad_15 rfl rfl rfl rfl ?_
    refine x_cv (pc' := 19) (rest := []) dm_X12_monad_16 rfl (q_inv (As := [ii ((3 + vS v : Nat) : Int), ii place]) (S := []) hm rfl rfl rfl) rfl rfl rfl ((by have z := r_takes_ (xt := xt) (d := d - 1) (pre := pre) (post := post) (s := s) (n := ((3 + vS v : Nat) : Int)) (place := place) hm (by omega) he0 hca.1 hca.2 (by omega) (by omega) (by omega); rw [tkS_f (by omega), decide_eq_false (by omega)] at z; exact z)) ?_
    rintro _ _ ⟨rfl, rfl⟩
    refine me_1f (pc' := 22) dm_X12_monad_19 rfl (by decide) rfl ?_
    refine me0 (pc' := 23) (S' := [ii (-1)]) dm_X12_monad_22 rfl rfl rfl rfl ?_
    refine y_ret (r := some (ii (-1))) dm_X12_monad_23 rfl rfl rfl ?_
    refine ⟨_, rfl, ?_⟩
    rw [show dOne (cpS s) W verb v place = dEr (cpS s) W 10 place from dAc_no hW]
    exact tk_no (n := 0) he0 h8 hnd
  · refine me1 (pc' := 16) (L' := [(4, ii (vk v : Int)), (0, .ref 102), (1, ii verb), (2, ii (hd : Int)), (3, ii place)]) (S' := [ii place, ii ((3 + vS v : Nat) : Int), .ref 102]) dm_X12_monad_15 rfl rfl rfl rfl ?_
    refine x_cv (pc' := 19) (rest := []) dm_X12_monad_16 rfl (q_inv (As := [ii ((3 + vS v : Nat) : Int), ii place]) (S := []) hm rfl rfl rfl) rfl rfl rfl ((by have z := r_takes_ (xt := xt) (d := d - 1) (pre := pre) (post := post) (s := s) (n := ((3 + vS v : Nat) : Int)) (place := place) hm (by omega) he0 hca.1 hca.2 (by omega) (by omega) (by omega); rw [tkS_t (by omega), decide_eq_true (by omega)] at z; exact z)) ?_
    rintro _ _ ⟨rfl, rfl⟩
    refine me_1t (pc' := 24) dm_X12_monad_19 rfl (by decide) ?_
    refine me1 (pc' := 25) (L' := [(4, ii (vk v : Int)), (0, .ref 102), (1, ii verb), (2, ii (hd : Int)), (3, ii place)]) (S' := [.ref 102]) dm_X12_monad_24 rfl rfl rfl rfl ?_
    refine me0 (pc' := 26) (S' := [ii 0, .ref 102]) dm_X12_monad_25 rfl rfl rfl rfl ?_
    refine me3 (pc' := 29) (S' := []) (h1 := rI pre post (va_up ((takeS s ((3 + vS v : Nat) : Int)).1) 9 0) ((takeS s ((3 + vS v : Nat) : Int)).2.1) ((takeS s ((3 + vS v : Nat) : Int)).2.2.1) ((takeS s ((3 + vS v : Nat) : Int)).2.2.2)) dm_X12_monad_26 (q_puti hm rfl rfl (fun m i l v => rf_9 m i l v)) rfl rfl rfl ?_
    obtain ⟨s2, hs2⟩ : ∃ s2 : RS, s2 = (va_up (takeS s ((3 + vS v : Nat) : Int)).1 9 0, (takeS s ((3 + vS v : Nat) : Int)).2.1, (takeS s ((3 + vS v : Nat) : Int)).2.2.1, (takeS s ((3 + vS v : Nat) : Int)).2.2.2) := ⟨_, rfl⟩
    have hT := tk_tkd (W := W) hs2 he0 h8 (by omega)
    have hqS : s2.1 4 = (q : Int) := hT.2.2.2.1.trans hq
    have hbS : s2.1 3 = (b : Int) := hT.2.2.1.trans hb
    have heS : s2.1 5 = 0 := hT.2.2.2.2.1
    have hwS : s2.1 13 = (base : Int) := hT.2.2.2.2.2.2.1.trans hw13
    have hcaS : 0 ≤ s2.1 10 ∧ s2.1 10 ≤ 100 := by rw [hT.2.1.1 10 (by decide) (by decide) (by decide) (by decide) (by decide) (by decide) (by decide) (by decide) (by decide) (by decide)]; exact hca
    have hBs : rB s2 := ⟨by omega, by omega, by omega, by omega⟩
    have hvs := rv_ext hT.1 hh3 hv
    have hrs := hRS verb v (rv_wf hv) hz1 hz2
    have hww : W - (3 + vS v) + (3 + vS v) = W := by omega
    refine pg_cast (h2 := rI pre post s2.1 s2.2.1 s2.2.2.1 s2.2.2.2) (by rw [hs2]) ?_
    refine me1 (pc' := 30) (L' := [(4, ii (vk v : Int)), (0, .ref 102), (1, ii verb), (2, ii (hd : Int)), (3, ii place)]) (S' := [ii verb]) dm_X12_monad_29 rfl rfl rfl rfl ?_
    have hsp : s_one verb 6 v = m_turn v := by unfold s_one; rw [if_neg (by omega), if_neg (by omega), if_neg (by omega), if_neg (by omega), if_pos (by omega)]
    have hw9 := (rv_wf hv).1
    have h5m : vk v ≤ 5 → vm v ≤ 120 := fun z => by omega
    have h6m : vk v = 6 → 1 ≤ vm v ∧ vm v ≤ 12 := fun z => ⟨(hw9.2.2.2.1 z).1, (hw9.2.2.2.1 z).2.1⟩
    have h6c : vk v = 6 → 1 ≤ vc v := fun z => (hw9.2.2.2.1 z).2.2.1
    have h7m : vk v = 7 → vm v ≤ 24 := fun z => (hw9.2.2.2.2.1 z).1
    refine y_sw (a := verb) (33) (t := 413) (i := .lookupswitch 547 #[(33, 383), (35, 505), (37, 176), (38, 218), (42, 189), (43, 154), (44, 482), (45, 176), (46, 493), (60, 294), (61, 359), (62, 294), (63, 371), (64, 533), (94, 294), (95, 522), (124, 230), (126, 176)]) (len := 154) dm_X12_monad_30 rfl rfl rfl (by omega) (by decide) (fun hb1 => ?_) (fun hb1 => ?_)
    · exfalso; omega
    refine y_sw (a := verb) (35) (t := 535) (i := .lookupswitch 547 #[(33, 383), (35, 505), (37, 176), (38, 218), (42, 189), (43, 154), (44, 482), (45, 176), (46, 493), (60, 294), (61, 359), (62, 294), (63, 371), (64, 533), (94, 294), (95, 522), (124, 230), (126, 176)]) (len := 154) dm_X12_monad_30 rfl rfl rfl (by omega) (by decide) (fun hb2 => ?_) (fun hb2 => ?_)
    · exfalso; omega
    refine y_sw (a := verb) (37) (t := 206) (i := .lookupswitch 547 #[(33, 383), (35, 505), (37, 176), (38, 218), (42, 189), (43, 154), (44, 482), (45, 176), (46, 493), (60, 294), (61, 359), (62, 294), (63, 371), (64, 533), (94, 294), (95, 522), (124, 230), (126, 176)]) (len := 154) dm_X12_monad_30 rfl rfl rfl (by omega) (by decide) (fun hb3 => ?_) (fun hb3 => ?_)
    · exfalso; omega
    refine y_sw (a := verb) (38) (t := 248) (i := .lookupswitch 547 #[(33, 383), (35, 505), (37, 176), (38, 218), (42, 189), (43, 154), (44, 482), (45, 176), (46, 493), (60, 294), (61, 359), (62, 294), (63, 371), (64, 533), (94, 294), (95, 522), (124, 230), (126, 176)]) (len := 154) dm_X12_monad_30 rfl rfl rfl (by omega) (by decide) (fun hb4 => ?_) (fun hb4 => ?_)
    · exfalso; omega
    refine y_sw (a := verb) (42) (t := 219) (i := .lookupswitch 547 #[(33, 383), (35, 505), (37, 176), (38, 218), (42, 189), (43, 154), (44, 482), (45, 176), (46, 493), (60, 294), (61, 359), (62, 294), (63, 371), (64, 533), (94, 294), (95, 522), (124, 230), (126, 176)]) (len := 154) dm_X12_monad_30 rfl rfl rfl (by omega) (by decide) (fun hb5 => ?_) (fun hb5 => ?_)
    · exfalso; omega
    refine y_sw (a := verb) (43) (t := 184) (i := .lookupswitch 547 #[(33, 383), (35, 505), (37, 176), (38, 218), (42, 189), (43, 154), (44, 482), (45, 176), (46, 493), (60, 294), (61, 359), (62, 294), (63, 371), (64, 533), (94, 294), (95, 522), (124, 230), (126, 176)]) (len := 154) dm_X12_monad_30 rfl rfl rfl (by omega) (by decide) (fun hb6 => ?_) (fun hb6 => ?_)
    · exfalso; omega
    refine y_sw (a := verb) (44) (t := 512) (i := .lookupswitch 547 #[(33, 383), (35, 505), (37, 176), (38, 218), (42, 189), (43, 154), (44, 482), (45, 176), (46, 493), (60, 294), (61, 359), (62, 294), (63, 371), (64, 533), (94, 294), (95, 522), (124, 230), (126, 176)]) (len := 154) dm_X12_monad_30 rfl rfl rfl (by omega) (by decide) (fun hb7 => ?_) (fun hb7 => ?_)
    · exfalso; omega
    refine y_sw (a := verb) (45) (t := 206) (i := .lookupswitch 547 #[(33, 383), (35, 505), (37, 176), (38, 218), (42, 189), (43, 154), (44, 482), (45, 176), (46, 493), (60, 294), (61, 359), (62, 294), (63, 371), (64, 533), (94, 294), (95, 522), (124, 230), (126, 176)]) (len := 154) dm_X12_monad_30 rfl rfl rfl (by omega) (by decide) (fun hb8 => ?_) (fun hb8 => ?_)
    · exfalso; omega
    refine y_sw (a := verb) (46) (t := 523) (i := .lookupswitch 547 #[(33, 383), (35, 505), (37, 176), (38, 218), (42, 189), (43, 154), (44, 482), (45, 176), (46, 493), (60, 294), (61, 359), (62, 294), (63, 371), (64, 533), (94, 294), (95, 522), (124, 230), (126, 176)]) (len := 154) dm_X12_monad_30 rfl rfl rfl (by omega) (by decide) (fun hb9 => ?_) (fun hb9 => ?_)
    · exfalso; omega
    refine y_sw (a := verb) (60) (t := 324) (i := .lookupswitch 547 #[(33, 383), (35, 505), (37, 176), (38, 218), (42, 189), (43, 154), (44, 482), (45, 176), (46, 493), (60, 294), (61, 359), (62, 294), (63, 371), (64, 533), (94, 294), (95, 522), (124, 230), (126, 176)]) (len := 154) dm_X12_monad_30 rfl rfl rfl (by omega) (by decide) (fun hb10 => ?_) (fun hb10 => ?_)
    · exfalso; omega
    refine y_sw (a := verb) (61) (t := 389) (i := .lookupswitch 547 #[(33, 383), (35, 505), (37, 176), (38, 218), (42, 189), (43, 154), (44, 482), (45, 176), (46, 493), (60, 294), (61, 359), (62, 294), (63, 371), (64, 533), (94, 294), (95, 522), (124, 230), (126, 176)]) (len := 154) dm_X12_monad_30 rfl rfl rfl (by omega) (by decide) (fun hb11 => ?_) (fun hb11 => ?_)
    · exfalso; omega
    refine y_sw (a := verb) (62) (t := 324) (i := .lookupswitch 547 #[(33, 383), (35, 505), (37, 176), (38, 218), (42, 189), (43, 154), (44, 482), (45, 176), (46, 493), (60, 294), (61, 359), (62, 294), (63, 371), (64, 533), (94, 294), (95, 522), (124, 230), (126, 176)]) (len := 154) dm_X12_monad_30 rfl rfl rfl (by omega) (by decide) (fun hb12 => ?_) (fun hb12 => ?_)
    · exfalso; omega
    refine y_sw (a := verb) (63) (t := 401) (i := .lookupswitch 547 #[(33, 383), (35, 505), (37, 176), (38, 218), (42, 189), (43, 154), (44, 482), (45, 176), (46, 493), (60, 294), (61, 359), (62, 294), (63, 371), (64, 533), (94, 294), (95, 522), (124, 230), (126, 176)]) (len := 154) dm_X12_monad_30 rfl rfl rfl (by omega) (by decide) (fun hb13 => ?_) (fun hb13 => ?_)
    · exfalso; omega
    refine y_sw (a := verb) (64) (t := 563) (i := .lookupswitch 547 #[(33, 383), (35, 505), (37, 176), (38, 218), (42, 189), (43, 154), (44, 482), (45, 176), (46, 493), (60, 294), (61, 359), (62, 294), (63, 371), (64, 533), (94, 294), (95, 522), (124, 230), (126, 176)]) (len := 154) dm_X12_monad_30 rfl rfl rfl (by omega) (by decide) (fun hb14 => ?_) (fun hb14 => ?_)
    · exfalso; omega
    refine y_sw (a := verb) (94) (t := 324) (i := .lookupswitch 547 #[(33, 383), (35, 505), (37, 176), (38, 218), (42, 189), (43, 154), (44, 482), (45, 176), (46, 493), (60, 294), (61, 359), (62, 294), (63, 371), (64, 533), (94, 294), (95, 522), (124, 230), (126, 176)]) (len := 154) dm_X12_monad_30 rfl rfl rfl (by omega) (by decide) (fun hb15 => ?_) (fun hb15 => ?_)
    · exfalso; omega
    refine y_sw (a := verb) (95) (t := 552) (i := .lookupswitch 547 #[(33, 383), (35, 505), (37, 176), (38, 218), (42, 189), (43, 154), (44, 482), (45, 176), (46, 493), (60, 294), (61, 359), (62, 294), (63, 371), (64, 533), (94, 294), (95, 522), (124, 230), (126, 176)]) (len := 154) dm_X12_monad_30 rfl rfl rfl (by omega) (by decide) (fun hb16 => ?_) (fun hb16 => ?_)
    · exfalso; omega
    refine y_sw (a := verb) (124) (t := 260) (i := .lookupswitch 547 #[(33, 383), (35, 505), (37, 176), (38, 218), (42, 189), (43, 154), (44, 482), (45, 176), (46, 493), (60, 294), (61, 359), (62, 294), (63, 371), (64, 533), (94, 294), (95, 522), (124, 230), (126, 176)]) (len := 154) dm_X12_monad_30 rfl rfl rfl (by omega) (by decide) (fun hb17 => ?_) (fun hb17 => ?_)
    · refine me0 (pc' := 261) (S' := [ii 0]) dm_X12_monad_260 rfl rfl rfl rfl ?_
      refine me1 (pc' := 263) (L' := [(5, ii 0), (4, ii (vk v : Int)), (0, .ref 102), (1, ii verb), (2, ii (hd : Int)), (3, ii place)]) (S' := []) dm_X12_monad_261 rfl rfl rfl rfl ?_
      have lp263 : ∀ (n263 : Nat) (k : Nat) (P : Nat → Int), vm v - k = n263 → (k ≤ vm v) → (∀ j, j < k → P j = ((vm v - 1 - j : Nat) : Int)) → pgE xt (d - 1) 12 6 false (Option.some Jvm.ClassFile.FieldType.int) (mj_dec prog_14_method_29_code) 263 [(0, .ref 102), (1, ii verb), (2, ii (hd : Int)), (3, ii place), (4, ii (vk v : Int)), (5, ii (k : Int))] [] (rI pre post ((ordS s2 P).1) ((ordS s2 P).2.1) ((ordS s2 P).2.2.1) ((ordS s2 P).2.2.2)) (fun r h' => ∃ x, r = some x ∧ dres pre post s W 4 nd (dOne (cpS s) W verb v place) x h') := by
        intro n263
        induction n263 using Nat.strongRecOn with
        | ind n263 ih263 =>
          intro k P hm263 hk hP
          refine me1 (pc' := 265) (L' := [(0, .ref 102), (1, ii verb), (2, ii (hd : Int)), (3, ii place), (4, ii (vk v : Int)), (5, ii (k : Int))]) (S' := [ii (k : Int)]) dm_X12_monad_263 rfl rfl rfl rfl ?_
          refine me1 (pc' := 266) (L' := [(0, .ref 102), (1, ii verb), (2, ii (hd : Int)), (3, ii place), (4, ii (vk v : Int)), (5, ii (k : Int))]) (S' := [.ref 102, ii (k : Int)]) dm_X12_monad_265 rfl rfl rfl rfl ?_
          refine me1 (pc' := 267) (L' := [(0, .ref 102), (1, ii verb), (2, ii (hd : Int)), (3, ii place), (4, ii (vk v : Int)), (5, ii (k : Int))]) (S' := [ii (hd : Int), .ref 102, ii (k : Int)]) dm_X12_monad_266 rfl rfl rfl rfl ?_
          refine x_cp (pc' := 270) (v := ii (vm v : Int)) (rest := [ii (k : Int)]) dm_X12_monad_267 rfl (q_inv (As := [ii (hd : Int)]) (S := [ii (k : Int)]) hm rfl rfl rfl) rfl rfl rfl (r_many_ (e := 6) hm (by omega) (rB_ord hBs) (rv_ord hh3 hvs)) ?_
          refine y_2ge (a := (k : Int)) (b := (vm v : Int)) (t := 296) (pc' := 273) dm_X12_monad_270 rfl rfl (by omega) (fun hb18 => ?_) (fun hb18 => ?_)
          · have hkn : k = vm v := by omega
            refine me1 (pc' := 297) (L' := [(0, .ref 102), (1, ii verb), (2, ii (hd : Int)), (3, ii place), (4, ii (vk v : Int)), (5, ii (k : Int))]) (S' := [.ref 102]) dm_X12_monad_296 rfl rfl rfl rfl ?_
            refine me1 (pc' := 298) (L' := [(0, .ref 102), (1, ii verb), (2, ii (hd : Int)), (3, ii place), (4, ii (vk v : Int)), (5, ii (k : Int))]) (S' := [.ref 102, .ref 102]) dm_X12_monad_297 rfl rfl rfl rfl ?_
            refine me1 (pc' := 299) (L' := [(0, .ref 102), (1, ii verb), (2, ii (hd : Int)), (3, ii place), (4, ii (vk v : Int)), (5, ii (k : Int))]) (S' := [ii (hd : Int), .ref 102, .ref 102]) dm_X12_monad_298 rfl rfl rfl rfl ?_
            refine x_cp (pc' := 302) (v := zz (decide (vk v ≤ 1))) (rest := [.ref 102]) dm_X12_monad_299 rfl (q_inv (As := [ii (hd : Int)]) (S := [.ref 102]) hm rfl rfl rfl) rfl rfl rfl (r_isOne_ (e := 6) hm (by omega) (rB_ord hBs) (rv_ord hh3 hvs)) ?_
            refine y_zeq (c := decide (vk v ≤ 1)) (t := 309) (pc' := 305) dm_X12_monad_302 rfl rfl (fun hb19 => ?_) (fun hb19 => ?_)
            · replace hb19 := dF hb19
              have hsp2 : s_one verb 6 v = .inr (vpick v (fun k => vm v - 1 - k) (vm v)) := by rw [hsp]; unfold m_turn; rw [if_neg (by omega)]
              clear hsp
              have hsp := hsp2
              refine me1 (pc' := 310) (L' := [(0, .ref 102), (1, ii verb), (2, ii (hd : Int)), (3, ii place), (4, ii (vk v : Int)), (5, ii (k : Int))]) (S' := [.ref 102, .ref 102]) dm_X12_monad_309 rfl rfl rfl rfl ?_
              refine me1 (pc' := 311) (L' := [(0, .ref 102), (1, ii verb), (2, ii (hd : Int)), (3, ii place), (4, ii (vk v : Int)), (5, ii (k : Int))]) (S' := [ii (hd : Int), .ref 102, .ref 102]) dm_X12_monad_310 rfl rfl rfl rfl ?_
              refine me1 (pc' := 312) (L' := [(0, .ref 102), (1, ii verb), (2, ii (hd : Int)), (3, ii place), (4, ii (vk v : Int)), (5, ii (k : Int))]) (S' := [.ref 102, ii (hd : Int), .ref 102, .ref 102]) dm_X12_monad_311 rfl rfl rfl rfl ?_
              refine me1 (pc' := 313) (L' := [(0, .ref 102), (1, ii verb), (2, ii (hd : Int)), (3, ii place), (4, ii (vk v : Int)), (5, ii (k : Int))]) (S' := [ii (hd : Int), .ref 102, ii (hd : Int), .ref 102, .ref 102]) dm_X12_monad_312 rfl rfl rfl rfl ?_
              refine x_cp (pc' := 316) (v := ii (vm v : Int)) (rest := [ii (hd : Int), .ref 102, .ref 102]) dm_X12_monad_313 rfl (q_inv (As := [ii (hd : Int)]) (S := [ii (hd : Int), .ref 102, .ref 102]) hm rfl rfl rfl) rfl rfl rfl (r_many_ (e := 6) hm (by omega) (rB_ord hBs) (rv_ord hh3 hvs)) ?_
              have hOO : ∀ j, j < vm v → 0 ≤ (ordS s2 P).2.2.1 14 j ∧ (ordS s2 P).2.2.1 14 j < (vm v : Int) := fun j hj => by rw [ordS_14, hP j (by omega)]; omega
              refine x_cv (pc' := 319) (rest := [.ref 102]) dm_X12_monad_316 rfl (q_inv (As := [ii (hd : Int), ii (vm v : Int)]) (S := [.ref 102]) hm rfl rfl rfl) rfl rfl rfl (r_picked_ (e := 6) (q := q) (b := b) (n := vm v) (s := (ordS s2 P)) (place := place) hm (by omega) (rB_ord hBs) (rv_ord hh3 hvs) hh3 hqS hbS hq3 (by omega) heS h5m h6m h7m (by omega) hOO) ?_
              rintro x1 g1 hres
              have hr2 := rres_up (rres_bk (rpre_ord s2 P) (rres_ve (vpick_congr (o' := (fun k => vm v - 1 - k)) h6c (fun j hj => by rw [ordS_14, hP j (by omega)]; rfl)) hres)) (pcl_144 hw9) (Nat.le_refl 1)
              have hG : rG pre post s2 8 (.inr (vpick v (fun k => vm v - 1 - k) (vm v))) place (rcb (.inr (vpick v (fun k => vm v - 1 - k) (vm v))) 144) (rvb (.inr (vpick v (fun k => vm v - 1 - k) (vm v))) 1) x1 g1 := rG_up (rG_r hr2)
              obtain ⟨z1, rfl⟩ := rG_ii hG
              obtain ⟨t1, rfl⟩ := rG_st hG
              refine me1 (pc' := 320) (L' := [(0, .ref 102), (1, ii verb), (2, ii (hd : Int)), (3, ii place), (4, ii (vk v : Int)), (5, ii (k : Int))]) (S' := [ii place, ii z1, .ref 102]) dm_X12_monad_319 rfl rfl rfl rfl ?_
              refine x_cv (pc' := 323) (rest := []) dm_X12_monad_320 rfl (q_inv (As := [ii z1, ii place]) (S := []) hm rfl rfl rfl) rfl rfl rfl (r_mdo1 (s := s) (s2 := s2) (W2 := W - (3 + vS v)) (cost := 3 + vS v) (cb := 144) (o := .inr (vpick v (fun k => vm v - 1 - k) (vm v))) (c := 4) (nd := nd) hm (by omega) hT hB0 hG hca (by omega) hnd (fun n hn => hrs.1 n (hsp.trans hn)) (fun r hr => hrs.2 r (hsp.trans hr)) (by omega) (by omega) (by omega)) ?_
              rintro x9 g9 hfin
              obtain ⟨z9, rfl⟩ := dres_ii hfin
              obtain ⟨t9, rfl⟩ := dres_st hfin
              refine y_ret (r := some (ii z9)) dm_X12_monad_323 rfl rfl rfl ?_
              have e9 : dOne (cpS s) W verb v place = dMo (cpS s) (W - (3 + vS v)) 0 (.inr (vpick v (fun k => vm v - 1 - k) (vm v))) place := by unfold dOne; rw [dAc_mo (by omega), hsp]
              rw [hww] at hfin
              rw [e9]
              exact ⟨_, rfl, hfin⟩
            · replace hb19 := dT hb19
              have hsp2 : s_one verb 6 v = .inr v := by rw [hsp]; unfold m_turn; rw [if_pos (by omega)]
              clear hsp
              have hsp := hsp2
              have hG : rG pre post s2 8 (.inr v) place (rcb (.inr v) 0) (rvb (.inr v) 1) (ii (hd : Int)) (rS pre post (ordS s2 P)) := rG_up2 (rG_up (rG_ord heS hh3 hvs)) (Nat.zero_le _) (Nat.zero_le _)
              refine me1 (pc' := 306) (L' := [(0, .ref 102), (1, ii verb), (2, ii (hd : Int)), (3, ii place), (4, ii (vk v : Int)), (5, ii (k : Int))]) (S' := [ii (hd : Int), .ref 102]) dm_X12_monad_305 rfl rfl rfl rfl ?_
              refine me2 (pc' := 319) (S' := [ii (hd : Int), .ref 102]) dm_X12_monad_306 rfl rfl rfl ?_
              refine me1 (pc' := 320) (L' := [(0, .ref 102), (1, ii verb), (2, ii (hd : Int)), (3, ii place), (4, ii (vk v : Int)), (5, ii (k : Int))]) (S' := [ii place, ii (hd : Int), .ref 102]) dm_X12_monad_319 rfl rfl rfl rfl ?_
              refine x_cv (pc' := 323) (rest := []) dm_X12_monad_320 rfl (q_inv (As := [ii (hd : Int), ii place]) (S := []) hm rfl rfl rfl) rfl rfl rfl (r_mdo1 (s := s) (s2 := s2) (W2 := W - (3 + vS v)) (cost := 3 + vS v) (cb := 0) (o := .inr v) (c := 4) (nd := nd) hm (by omega) hT hB0 hG hca (by omega) hnd (fun n hn => hrs.1 n (hsp.trans hn)) (fun r hr => hrs.2 r (hsp.trans hr)) (by omega) (by omega) (by omega)) ?_
              rintro x9 g9 hfin
              obtain ⟨z9, rfl⟩ := dres_ii hfin
              obtain ⟨t9, rfl⟩ := dres_st hfin
              refine y_ret (r := some (ii z9)) dm_X12_monad_323 rfl rfl rfl ?_
              have e9 : dOne (cpS s) W verb v place = dMo (cpS s) (W - (3 + vS v)) 0 (.inr v) place := by unfold dOne; rw [dAc_mo (by omega), hsp]
              rw [hww] at hfin
              rw [e9]
              exact ⟨_, rfl, hfin⟩
          · refine me1 (pc' := 274) (L' := [(0, .ref 102), (1, ii verb), (2, ii (hd : Int)), (3, ii place), (4, ii (vk v : Int)), (5, ii (k : Int))]) (S' := [.ref 102]) dm_X12_monad_273 rfl rfl rfl rfl ?_
            refine me3 (pc' := 277) (S' := [.ref (102 + 5)]) dm_X12_monad_274 (q_getr hm rfl (fun m i l => rg_14 m i l)) rfl rfl rfl ?_
            refine me1 (pc' := 279) (L' := [(0, .ref 102), (1, ii verb), (2, ii (hd : Int)), (3, ii place), (4, ii (vk v : Int)), (5, ii (k : Int))]) (S' := [ii (k : Int), .ref (102 + 5)]) dm_X12_monad_277 rfl rfl rfl rfl ?_
            refine me1 (pc' := 280) (L' := [(0, .ref 102), (1, ii verb), (2, ii (hd : Int)), (3, ii place), (4, ii (vk v : Int)), (5, ii (k : Int))]) (S' := [.ref 102, ii (k : Int), .ref (102 + 5)]) dm_X12_monad_279 rfl rfl rfl rfl ?_
            refine me1 (pc' := 281) (L' := [(0, .ref 102), (1, ii verb), (2, ii (hd : Int)), (3, ii place), (4, ii (vk v : Int)), (5, ii (k : Int))]) (S' := [ii (hd : Int), .ref 102, ii (k : Int), .ref (102 + 5)]) dm_X12_monad_280 rfl rfl rfl rfl ?_
            refine x_cp (pc' := 284) (v := ii (vm v : Int)) (rest := [ii (k : Int), .ref (102 + 5)]) dm_X12_monad_281 rfl (q_inv (As := [ii (hd : Int)]) (S := [ii (k : Int), .ref (102 + 5)]) hm rfl rfl rfl) rfl rfl rfl (r_many_ (e := 6) hm (by omega) (rB_ord hBs) (rv_ord hh3 hvs)) ?_
            refine me0 (pc' := 285) (S' := [ii 1, ii (vm v : Int), ii (k : Int), .ref (102 + 5)]) dm_X12_monad_284 rfl rfl rfl rfl ?_
            refine y_isub (a := (vm v : Int)) (b := 1) dm_X12_monad_285 (pc' := 286) rfl ?_
            refine me1 (pc' := 288) (L' := [(0, .ref 102), (1, ii verb), (2, ii (hd : Int)), (3, ii place), (4, ii (vk v : Int)), (5, ii (k : Int))]) (S' := [ii (k : Int), ii ((vm v : Int) - 1), ii (k : Int), .ref (102 + 5)]) dm_X12_monad_286 rfl rfl rfl rfl ?_
            refine y_isub (a := (vm v : Int) - 1) (b := (k : Int)) dm_X12_monad_288 (pc' := 289) rfl ?_
            refine me3 (pc' := 290) (S' := []) (h1 := rI pre post ((ordS s2 P).1) ((ordS s2 P).2.1) (va_up ((ordS s2 P).2.2.1) 14 (va_up (((ordS s2 P).2.2.1) 14) k (((vm v : Int) - 1) - (k : Int)))) ((ordS s2 P).2.2.2)) dm_X12_monad_289 (q_iast (j := (k : Int)) (k := 14) (n := 260) hm (fun m i l I J => rc_14 m i l I J) (fun m i l I J f => rs_14 m i l I J f) (by omega) (by omega) (by decide)) rfl rfl rfl ?_
            refine pg_cast (h2 := rI pre post ((ordS s2 (va_up P k ((vm v : Int) - 1 - (k : Int)))).1) ((ordS s2 (va_up P k ((vm v : Int) - 1 - (k : Int)))).2.1) ((ordS s2 (va_up P k ((vm v : Int) - 1 - (k : Int)))).2.2.1) ((ordS s2 (va_up P k ((vm v : Int) - 1 - (k : Int)))).2.2.2)) (ord_up s2 P k _) ?_
            refine y_iinc (pc' := 293) (L' := [(5, ii ((k : Int) + 1)), (0, .ref 102), (1, ii verb), (2, ii (hd : Int)), (3, ii place), (4, ii (vk v : Int))]) dm_X12_monad_290 (y_incp (a := (k : Int)) (c := 1) rfl rfl (by decide)) rfl ?_
            refine me2 (pc' := 263) (S' := []) dm_X12_monad_293 rfl rfl rfl ?_
            exact pg_sub (L := [(0, .ref 102), (1, ii verb), (2, ii (hd : Int)), (3, ii place), (4, ii (vk v : Int)), (5, ii ((k + 1) : Int))]) rfl rfl rfl (ih263 (vm v - (k + 1)) (by omega) (k + 1) (va_up P k ((vm v : Int) - 1 - (k : Int))) rfl (by omega) (fun j hj => by rw [up_at]; by_cases z : j = k; (rw [if_pos z, z]; omega); (rw [if_neg z]; exact hP j (by omega))))
      refine pg_cast (h2 := rI pre post ((ordS s2 (s2.2.2.1 14)).1) ((ordS s2 (s2.2.2.1 14)).2.1) ((ordS s2 (s2.2.2.1 14)).2.2.1) ((ordS s2 (s2.2.2.1 14)).2.2.2)) (ord_0 s2) ?_
      exact pg_sub (L := [(0, .ref 102), (1, ii verb), (2, ii (hd : Int)), (3, ii place), (4, ii (vk v : Int)), (5, ii (0 : Int))]) rfl rfl rfl (lp263 _ 0 (s2.2.2.1 14) rfl (Nat.zero_le _) (fun j hj => absurd hj (Nat.not_lt_zero j)))
    refine y_sw (a := verb) (126) (t := 206) (i := .lookupswitch 547 #[(33, 383), (35, 505), (37, 176), (38, 218), (42, 189), (43, 154), (44, 482), (45, 176), (46, 493), (60, 294), (61, 359), (62, 294), (63, 371), (64, 533), (94, 294), (95, 522), (124, 230), (126, 176)]) (len := 154) dm_X12_monad_30 rfl rfl rfl (by omega) (by decide) (fun hb20 => ?_) (fun hb20 => ?_)
    · exfalso; omega
    exfalso; omega
theorem dm_X12_monad_324 : mj_dec prog_14_method_29_code 324 = some (.aload_n 0, 1) := by decide +kernel
theorem dm_X12_monad_325 : mj_dec prog_14_method_29_code 325 = some (.iload_n 2, 1) := by decide +kernel
theorem dm_X12_monad_326 : mj_dec prog_14_method_29_code 326 = some (.invokevirtual 149, 3) := by decide +kernel
theorem dm_X12_monad_329 : mj_dec prog_14_method_29_code 329 = some (.ifCond .ne 10, 3) := by decide +kernel
theorem dm_X12_monad_332 : mj_dec prog_14_method_29_code 332 = some (.aload_n 0, 1) := by decide +kernel
theorem dm_X12_monad_333 : mj_dec prog_14_method_29_code 333 = some (.iconst 3, 1) := by decide +kernel
theorem dm_X12_monad_334 : mj_dec prog_14_method_29_code 334 = some (.iload_n 3, 1) := by decide +kernel
theorem dm_X12_monad_335 : mj_dec prog_14_method_29_code 335 = some (.invokevirtual 190, 3) := by decide +kernel
theorem dm_X12_monad_338 : mj_dec prog_14_method_29_code 338 = some (.ireturn, 1) := by decide +kernel
theorem dm_X12_monad_339 : mj_dec prog_14_method_29_code 339 = some (.aload_n 0, 1) := by decide +kernel
theorem dm_X12_monad_340 : mj_dec prog_14_method_29_code 340 = some (.iload_n 2, 1) := by decide +kernel
theorem dm_X12_monad_341 : mj_dec prog_14_method_29_code 341 = some (.iload_n 1, 1) := by decide +kernel
theorem dm_X12_monad_342 : mj_dec prog_14_method_29_code 342 = some (.bipush 62, 2) := by decide +kernel
theorem dm_X12_monad_344 : mj_dec prog_14_method_29_code 344 = some (.if_icmp .ne 7, 3) := by decide +kernel
theorem dm_X12_monad_351 : mj_dec prog_14_method_29_code 351 = some (.iconst 0, 1) := by decide +kernel
theorem dm_X12_monad_352 : mj_dec prog_14_method_29_code 352 = some (.invokevirtual 226, 3) := by decide +kernel
theorem dm_X12_monad_355 : mj_dec prog_14_method_29_code 355 = some (.aload_n 0, 1) := by decide +kernel
theorem dm_X12_monad_356 : mj_dec prog_14_method_29_code 356 = some (.iload_n 1, 1) := by decide +kernel
theorem dm_X12_monad_357 : mj_dec prog_14_method_29_code 357 = some (.bipush 94, 2) := by decide +kernel
theorem dm_X12_monad_359 : mj_dec prog_14_method_29_code 359 = some (.if_icmp .ne 16, 3) := by decide +kernel
theorem dm_X12_monad_375 : mj_dec prog_14_method_29_code 375 = some (.aload_n 0, 1) := by decide +kernel
theorem dm_X12_monad_376 : mj_dec prog_14_method_29_code 376 = some (.aload_n 0, 1) := by decide +kernel
theorem dm_X12_monad_377 : mj_dec prog_14_method_29_code 377 = some (.iload_n 2, 1) := by decide +kernel
theorem dm_X12_monad_378 : mj_dec prog_14_method_29_code 378 = some (.invokevirtual 134, 3) := by decide +kernel
theorem dm_X12_monad_381 : mj_dec prog_14_method_29_code 381 = some (.invokevirtual 230, 3) := by decide +kernel
theorem dm_X12_monad_384 : mj_dec prog_14_method_29_code 384 = some (.iload_n 3, 1) := by decide +kernel
theorem dm_X12_monad_385 : mj_dec prog_14_method_29_code 385 = some (.invokevirtual 208, 3) := by decide +kernel
theorem dm_X12_monad_388 : mj_dec prog_14_method_29_code 388 = some (.ireturn, 1) := by decide +kernel
theorem r_mon60 {xt : mj_X} {d hd q b base W : Nat} {pre post : mj_H} {s : RS} {v : VV} {place nd verb : Int} (hm : pre.length = 102) (hd1 : 60 ≤ d) (hRS : RSO) (hB : rB s) (hv : rv s 7 hd v) (hh3 : 3 ≤ hd) (hz1 : vsz 7 v ≤ 1000) (hz2 : vlv 7 v ≤ 5) (hq : s.1 4 = (q : Int)) (hb : s.1 3 = (b : Int)) (hq3 : 3 ≤ q) (hV2 : q + 2100 < 310000) (he0 : s.1 5 = 0) (hca : 0 ≤ s.1 10 ∧ s.1 10 ≤ 100) (hC : b + 291000 ≤ 820000) (hw13 : s.1 13 = (base : Int)) (hbs : base ≤ 7900) (h8 : s.1 8 = (W : Int)) (hW5 : W ≤ 500000) (hnd : 0 ≤ nd) (hvb : verb = 60) : pgV xt d 281 [.ref 102, ii verb, ii (hd : Int), ii place] (rS pre post s) (dres pre post s W 4 nd (dOne (cpS s) W verb v place)) := by
  have hB0 := hB
  obtain ⟨hB1, hB2, hB3, hB4⟩ := hB
  obtain ⟨fr, hfr, hsh, hlt, hcl, hvk, hvm, hvc, hvq, hvcl⟩ := rv_val hv
  have hvb2 : -2147483648 ≤ verb ∧ verb ≤ 2147483647 := by omega
  refine x_enter pm_X12_monad (L0 := [(0, .ref 102), (1, ii verb), (2, ii (hd : Int)), (3, ii place)]) rfl (Nat.le_of_ble_eq_true rfl) (by omega) ?_
  refine me1 (pc' := 1) (L' := [(0, .ref 102), (1, ii verb), (2, ii (hd : Int)), (3, ii place)]) (S' := [.ref 102]) dm_X12_monad_0 rfl rfl rfl rfl ?_
  refine me1 (pc' := 2) (L' := [(0, .ref 102), (1, ii verb), (2, ii (hd : Int)), (3, ii place)]) (S' := [ii (hd : Int), .ref 102]) dm_X12_monad_1 rfl rfl rfl rfl ?_
  refine x_cp (pc' := 5) (v := ii (vk v : Int)) (rest := []) dm_X12_monad_2 rfl (q_inv (As := [ii (hd : Int)]) (S := []) hm rfl rfl rfl) rfl rfl rfl (r_kindOf_ (e := 6) hm (by omega) hB0 hv) ?_
  refine me1 (pc' := 7) (L' := [(4, ii (vk v : Int)), (0, .ref 102), (1, ii verb), (2, ii (hd : Int)), (3, ii place)]) (S' := []) dm_X12_monad_5 rfl rfl rfl rfl ?_
  refine me1 (pc' := 8) (L' := [(4, ii (vk v : Int)), (0, .ref 102), (1, ii verb), (2, ii (hd : Int)), (3, ii place)]) (S' := [.ref 102]) dm_X12_monad_7 rfl rfl rfl rfl ?_
  refine me0 (pc' := 9) (S' := [ii 3, .ref 102]) dm_X12_monad_8 rfl rfl rfl rfl ?_
  refine me1 (pc' := 10) (L' := [(4, ii (vk v : Int)), (0, .ref 102), (1, ii verb), (2, ii (hd : Int)), (3, ii place)]) (S' := [.ref 102, ii 3, .ref 102]) dm_X12_monad_9 rfl rfl rfl rfl ?_
  refine me1 (pc' := 11) (L' := [(4, ii (vk v : Int)), (0, .ref 102), (1, ii verb), (2, ii (hd : Int)), (3, ii place)]) (S' := [ii (hd : Int), .ref 102, ii 3, .ref 102]) dm_X12_monad_10 rfl rfl rfl rfl ?_
  refine x_cp (pc' := 14) (v := ii (vsz 7 v : Int)) (rest := [ii 3, .ref 102]) dm_X12_monad_11 rfl (q_inv (As := [ii (hd : Int)]) (S := [ii 3, .ref 102]) hm rfl rfl rfl) rfl rfl rfl (r_sizeOf_ hm hB0 7 (by omega) hv) ?_
  refine y_iadd (a := 3) (b := (vsz 7 v : Int)) dm_X12_monad_14 (pc' := 15) rfl ?_
  refine pg_st (S' := [ii ((3 + vS v : Nat) : Int), .ref 102]) (congrArg (fun z => ii z :: [.ref 102]) (show 3 + (vsz 7 v : Int) = ((3 + vS v : Nat) : Int) by show _ = ((3 + vsz 7 v : Nat) : Int); omega)) ?_
  have hvS : vS v = vsz 7 v := rfl
  by_cases hW : W < 3 + vS v
  · refine me1 (pc' := 16) (L' := [(4, ii (vk v : Int)), (0, .ref 102), (1, ii verb), (2, ii (hd : Int)), (3, ii place)]) (S' := [ii place, ii ((3 + vS v : Nat) : Int), .ref 102]) dm_X12_monad_15 rfl rfl rfl rfl ?_
    refine x_cv (pc' := 19) (rest := []) dm_X12_monad_16 rfl (q_inv (As := [ii ((3 + vS v : Nat) : Int), ii place]) (S := []) hm rfl rfl rfl) rfl rfl rfl ((by have z := r_takes_ (xt := xt) (d := d - 1) (pre := pre) (post := post) (s := s) (n := ((3 + vS v : Nat) : Int)) (place := place) hm (by omega) he0 hca.1 hca.2 (by omega) (by omega) (by omega); rw [tkS_f (by omega), decide_eq_false (by omega)] at z; exact z)) ?_
    rintro _ _ ⟨rfl, rfl⟩
    refine me_1f (pc' := 22) dm_X12_monad_19 rfl (by decide) rfl ?_
    refine me0 (pc' := 23) (S' := [ii (-1)]) dm_X12_monad_22 rfl rfl rfl rfl ?_
    refine y_ret (r := some (ii (-1))) dm_X12_monad_23 rfl rfl rfl ?_
    refine ⟨_, rfl, ?_⟩
    rw [show dOne (cpS s) W verb v place = dEr (cpS s) W 10 place from dAc_no hW]
    exact tk_no (n := 0) he0 h8 hnd
  · refine me1 (pc' := 16) (L' := [(4, ii (vk v : Int)), (0, .ref 102), (1, ii verb), (2, ii (hd : Int)), (3, ii place)]) (S' := [ii place, ii ((3 + vS v : Nat) : Int), .ref 102]) dm_X12_monad_15 rfl rfl rfl rfl ?_
    refine x_cv (pc' := 19) (rest := []) dm_X12_monad_16 rfl (q_inv (As := [ii ((3 + vS v : Nat) : Int), ii place]) (S := []) hm rfl rfl rfl) rfl rfl rfl ((by have z := r_takes_ (xt := xt) (d := d - 1) (pre := pre) (post := post) (s := s) (n := ((3 + vS v : Nat) : Int)) (place := place) hm (by omega) he0 hca.1 hca.2 (by omega) (by omega) (by omega); rw [tkS_t (by omega), decide_eq_true (by omega)] at z; exact z)) ?_
    rintro _ _ ⟨rfl, rfl⟩
    refine me_1t (pc' := 24) dm_X12_monad_19 rfl (by decide) ?_
    refine me1 (pc' := 25) (L' := [(4, ii (vk v : Int)), (0, .ref 102), (1, ii verb), (2, ii (hd : Int)), (3, ii place)]) (S' := [.ref 102]) dm_X12_monad_24 rfl rfl rfl rfl ?_
    refine me0 (pc' := 26) (S' := [ii 0, .ref 102]) dm_X12_monad_25 rfl rfl rfl rfl ?_
    refine me3 (pc' := 29) (S' := []) (h1 := rI pre post (va_up ((takeS s ((3 + vS v : Nat) : Int)).1) 9 0) ((takeS s ((3 + vS v : Nat) : Int)).2.1) ((takeS s ((3 + vS v : Nat) : Int)).2.2.1) ((takeS s ((3 + vS v : Nat) : Int)).2.2.2)) dm_X12_monad_26 (q_puti hm rfl rfl (fun m i l v => rf_9 m i l v)) rfl rfl rfl ?_
    obtain ⟨s2, hs2⟩ : ∃ s2 : RS, s2 = (va_up (takeS s ((3 + vS v : Nat) : Int)).1 9 0, (takeS s ((3 + vS v : Nat) : Int)).2.1, (takeS s ((3 + vS v : Nat) : Int)).2.2.1, (takeS s ((3 + vS v : Nat) : Int)).2.2.2) := ⟨_, rfl⟩
    have hT := tk_tkd (W := W) hs2 he0 h8 (by omega)
    have hqS : s2.1 4 = (q : Int) := hT.2.2.2.1.trans hq
    have hbS : s2.1 3 = (b : Int) := hT.2.2.1.trans hb
    have heS : s2.1 5 = 0 := hT.2.2.2.2.1
    have hwS : s2.1 13 = (base : Int) := hT.2.2.2.2.2.2.1.trans hw13
    have hcaS : 0 ≤ s2.1 10 ∧ s2.1 10 ≤ 100 := by rw [hT.2.1.1 10 (by decide) (by decide) (by decide) (by decide) (by decide) (by decide) (by decide) (by decide) (by decide) (by decide)]; exact hca
    have hBs : rB s2 := ⟨by omega, by omega, by omega, by omega⟩
    have hvs := rv_ext hT.1 hh3 hv
    have hrs := hRS verb v (rv_wf hv) hz1 hz2
    have hww : W - (3 + vS v) + (3 + vS v) = W := by omega
    refine pg_cast (h2 := rI pre post s2.1 s2.2.1 s2.2.2.1 s2.2.2.2) (by rw [hs2]) ?_
    refine me1 (pc' := 30) (L' := [(4, ii (vk v : Int)), (0, .ref 102), (1, ii verb), (2, ii (hd : Int)), (3, ii place)]) (S' := [ii verb]) dm_X12_monad_29 rfl rfl rfl rfl ?_
    have hsp : s_one verb 6 v = m_sort verb v := by unfold s_one; rw [if_neg (by omega), if_neg (by omega), if_neg (by omega), if_neg (by omega), if_neg (by omega), if_pos (by omega)]
    have hw9 := (rv_wf hv).1
    have h5m : vk v ≤ 5 → vm v ≤ 120 := fun z => by omega
    have h6m : vk v = 6 → 1 ≤ vm v ∧ vm v ≤ 12 := fun z => ⟨(hw9.2.2.2.1 z).1, (hw9.2.2.2.1 z).2.1⟩
    have h6c : vk v = 6 → 1 ≤ vc v := fun z => (hw9.2.2.2.1 z).2.2.1
    have h7m : vk v = 7 → vm v ≤ 24 := fun z => (hw9.2.2.2.2.1 z).1
    refine y_sw (a := verb) (33) (t := 413) (i := .lookupswitch 547 #[(33, 383), (35, 505), (37, 176), (38, 218), (42, 189), (43, 154), (44, 482), (45, 176), (46, 493), (60, 294), (61, 359), (62, 294), (63, 371), (64, 533), (94, 294), (95, 522), (124, 230), (126, 176)]) (len := 154) dm_X12_monad_30 rfl rfl rfl (by omega) (by decide) (fun hb1 => ?_) (fun hb1 => ?_)
    · exfalso; omega
    refine y_sw (a := verb) (35) (t := 535) (i := .lookupswitch 547 #[(33, 383), (35, 505), (37, 176), (38, 218), (42, 189), (43, 154), (44, 482), (45, 176), (46, 493), (60, 294), (61, 359), (62, 294), (63, 371), (64, 533), (94, 294), (95, 522), (124, 230), (126, 176)]) (len := 154) dm_X12_monad_30 rfl rfl rfl (by omega) (by decide) (fun hb2 => ?_) (fun hb2 => ?_)
    · exfalso; omega
    refine y_sw (a := verb) (37) (t := 206) (i := .lookupswitch 547 #[(33, 383), (35, 505), (37, 176), (38, 218), (42, 189), (43, 154), (44, 482), (45, 176), (46, 493), (60, 294), (61, 359), (62, 294), (63, 371), (64, 533), (94, 294), (95, 522), (124, 230), (126, 176)]) (len := 154) dm_X12_monad_30 rfl rfl rfl (by omega) (by decide) (fun hb3 => ?_) (fun hb3 => ?_)
    · exfalso; omega
    refine y_sw (a := verb) (38) (t := 248) (i := .lookupswitch 547 #[(33, 383), (35, 505), (37, 176), (38, 218), (42, 189), (43, 154), (44, 482), (45, 176), (46, 493), (60, 294), (61, 359), (62, 294), (63, 371), (64, 533), (94, 294), (95, 522), (124, 230), (126, 176)]) (len := 154) dm_X12_monad_30 rfl rfl rfl (by omega) (by decide) (fun hb4 => ?_) (fun hb4 => ?_)
    · exfalso; omega
    refine y_sw (a := verb) (42) (t := 219) (i := .lookupswitch 547 #[(33, 383), (35, 505), (37, 176), (38, 218), (42, 189), (43, 154), (44, 482), (45, 176), (46, 493), (60, 294), (61, 359), (62, 294), (63, 371), (64, 533), (94, 294), (95, 522), (124, 230), (126, 176)]) (len := 154) dm_X12_monad_30 rfl rfl rfl (by omega) (by decide) (fun hb5 => ?_) (fun hb5 => ?_)
    · exfalso; omega
    refine y_sw (a := verb) (43) (t := 184) (i := .lookupswitch 547 #[(33, 383), (35, 505), (37, 176), (38, 218), (42, 189), (43, 154), (44, 482), (45, 176), (46, 493), (60, 294), (61, 359), (62, 294), (63, 371), (64, 533), (94, 294), (95, 522), (124, 230), (126, 176)]) (len := 154) dm_X12_monad_30 rfl rfl rfl (by omega) (by decide) (fun hb6 => ?_) (fun hb6 => ?_)
    · exfalso; omega
    refine y_sw (a := verb) (44) (t := 512) (i := .lookupswitch 547 #[(33, 383), (35, 505), (37, 176), (38, 218), (42, 189), (43, 154), (44, 482), (45, 176), (46, 493), (60, 294), (61, 359), (62, 294), (63, 371), (64, 533), (94, 294), (95, 522), (124, 230), (126, 176)]) (len := 154) dm_X12_monad_30 rfl rfl rfl (by omega) (by decide) (fun hb7 => ?_) (fun hb7 => ?_)
    · exfalso; omega
    refine y_sw (a := verb) (45) (t := 206) (i := .lookupswitch 547 #[(33, 383), (35, 505), (37, 176), (38, 218), (42, 189), (43, 154), (44, 482), (45, 176), (46, 493), (60, 294), (61, 359), (62, 294), (63, 371), (64, 533), (94, 294), (95, 522), (124, 230), (126, 176)]) (len := 154) dm_X12_monad_30 rfl rfl rfl (by omega) (by decide) (fun hb8 => ?_) (fun hb8 => ?_)
    · exfalso; omega
    refine y_sw (a := verb) (46) (t := 523) (i := .lookupswitch 547 #[(33, 383), (35, 505), (37, 176), (38, 218), (42, 189), (43, 154), (44, 482), (45, 176), (46, 493), (60, 294), (61, 359), (62, 294), (63, 371), (64, 533), (94, 294), (95, 522), (124, 230), (126, 176)]) (len := 154) dm_X12_monad_30 rfl rfl rfl (by omega) (by decide) (fun hb9 => ?_) (fun hb9 => ?_)
    · exfalso; omega
    refine y_sw (a := verb) (60) (t := 324) (i := .lookupswitch 547 #[(33, 383), (35, 505), (37, 176), (38, 218), (42, 189), (43, 154), (44, 482), (45, 176), (46, 493), (60, 294), (61, 359), (62, 294), (63, 371), (64, 533), (94, 294), (95, 522), (124, 230), (126, 176)]) (len := 154) dm_X12_monad_30 rfl rfl rfl (by omega) (by decide) (fun hb10 => ?_) (fun hb10 => ?_)
    · refine me1 (pc' := 325) (L' := [(4, ii (vk v : Int)), (0, .ref 102), (1, ii verb), (2, ii (hd : Int)), (3, ii place)]) (S' := [.ref 102]) dm_X12_monad_324 rfl rfl rfl rfl ?_
      refine me1 (pc' := 326) (L' := [(4, ii (vk v : Int)), (0, .ref 102), (1, ii verb), (2, ii (hd : Int)), (3, ii place)]) (S' := [ii (hd : Int), .ref 102]) dm_X12_monad_325 rfl rfl rfl rfl ?_
      refine x_cp (pc' := 329) (v := zz (decide (2 ≤ vk v ∧ vk v ≤ 5))) (rest := []) dm_X12_monad_326 rfl (q_inv (As := [ii (hd : Int)]) (S := []) hm rfl rfl rfl) rfl rfl rfl (r_isRow_ (e := 6) hm (by omega) hBs hvs) ?_
      refine y_zne (c := decide (2 ≤ vk v ∧ vk v ≤ 5)) (t := 339) (pc' := 332) dm_X12_monad_329 rfl rfl (fun hb11 => ?_) (fun hb11 => ?_)
      · replace hb11 := dT hb11
        have hsp2 : s_one verb 6 v = .inr (vrow 4 (vm v) (fun k => Int64.ofInt ((srt (vlt 60 v) (vm v) k : Nat) : Int))) := by rw [hsp]; have hv9 : verb = 60 := (by omega); rw [hv9]; unfold m_sort; rw [if_pos (by omega), if_neg (by decide)]
        clear hsp
        have hsp := hsp2
        refine me1 (pc' := 340) (L' := [(4, ii (vk v : Int)), (0, .ref 102), (1, ii verb), (2, ii (hd : Int)), (3, ii place)]) (S' := [.ref 102]) dm_X12_monad_339 rfl rfl rfl rfl ?_
        refine me1 (pc' := 341) (L' := [(4, ii (vk v : Int)), (0, .ref 102), (1, ii verb), (2, ii (hd : Int)), (3, ii place)]) (S' := [ii (hd : Int), .ref 102]) dm_X12_monad_340 rfl rfl rfl rfl ?_
        refine me1 (pc' := 342) (L' := [(4, ii (vk v : Int)), (0, .ref 102), (1, ii verb), (2, ii (hd : Int)), (3, ii place)]) (S' := [ii verb, ii (hd : Int), .ref 102]) dm_X12_monad_341 rfl rfl rfl rfl ?_
        refine me0 (pc' := 344) (S' := [ii 62, ii verb, ii (hd : Int), .ref 102]) dm_X12_monad_342 rfl rfl rfl rfl ?_
        refine y_2ne (a := verb) (b := 62) (t := 351) (pc' := 347) dm_X12_monad_344 rfl rfl (by omega) (fun hb12 => ?_) (fun hb12 => ?_)
        · refine me0 (pc' := 352) (S' := [ii 0, ii (hd : Int), .ref 102]) dm_X12_monad_351 rfl rfl rfl rfl ?_
          refine x_cn (pc' := 355) (rest := []) dm_X12_monad_352 rfl (q_inv (As := [ii (hd : Int), ii 0]) (S := []) hm rfl rfl rfl) rfl rfl rfl (r_sort_ (e := 6) (q := q) (b := b) (s := s2) (place := place) (c := false) hm (by omega) hBs hvs hh3 hqS hbS hq3 (by omega) heS hcaS (by omega) (by omega) (by omega) (vq_m (by omega))) ?_
          rintro _ ⟨P, rfl, hP⟩
          have hP : ∀ j, j < vm v → P j = ((srt (vlt 60 v) (vm v) j : Nat) : Int) := hP
          have hsl := srt_lt (vlt 60 v) (vm v)
          refine me1 (pc' := 356) (L' := [(4, ii (vk v : Int)), (0, .ref 102), (1, ii verb), (2, ii (hd : Int)), (3, ii place)]) (S' := [.ref 102]) dm_X12_monad_355 rfl rfl rfl rfl ?_
          refine me1 (pc' := 357) (L' := [(4, ii (vk v : Int)), (0, .ref 102), (1, ii verb), (2, ii (hd : Int)), (3, ii place)]) (S' := [ii verb, .ref 102]) dm_X12_monad_356 rfl rfl rfl rfl ?_
          refine me0 (pc' := 359) (S' := [ii 94, ii verb, .ref 102]) dm_X12_monad_357 rfl rfl rfl rfl ?_
          refine y_2ne (a := verb) (b := 94) (t := 375) (pc' := 362) dm_X12_monad_359 rfl rfl (by omega) (fun hb13 => ?_) (fun hb13 => ?_)
          · refine me1 (pc' := 376) (L' := [(4, ii (vk v : Int)), (0, .ref 102), (1, ii verb), (2, ii (hd : Int)), (3, ii place)]) (S' := [.ref 102, .ref 102]) dm_X12_monad_375 rfl rfl rfl rfl ?_
            refine me1 (pc' := 377) (L' := [(4, ii (vk v : Int)), (0, .ref 102), (1, ii verb), (2, ii (hd : Int)), (3, ii place)]) (S' := [.ref 102, .ref 102, .ref 102]) dm_X12_monad_376 rfl rfl rfl rfl ?_
            refine me1 (pc' := 378) (L' := [(4, ii (vk v : Int)), (0, .ref 102), (1, ii verb), (2, ii (hd : Int)), (3, ii place)]) (S' := [ii (hd : Int), .ref 102, .ref 102, .ref 102]) dm_X12_monad_377 rfl rfl rfl rfl ?_
            refine x_cp (pc' := 381) (v := ii (vm v : Int)) (rest := [.ref 102, .ref 102]) dm_X12_monad_378 rfl (q_inv (As := [ii (hd : Int)]) (S := [.ref 102, .ref 102]) hm rfl rfl rfl) rfl rfl rfl (r_many_ (e := 6) hm (by omega) (rB_ord hBs) (rv_ord hh3 hvs)) ?_
            have hOO : ∀ j, j < vm v → 0 ≤ (ordS s2 P).2.2.1 14 j ∧ (ordS s2 P).2.2.1 14 j ≤ 1000 := fun j hj => by rw [ordS_14, hP j (by omega)]; have := hsl j hj; omega
            refine x_cv (pc' := 384) (rest := [.ref 102]) dm_X12_monad_381 rfl (q_inv (As := [ii (vm v : Int)]) (S := [.ref 102]) hm rfl rfl rfl) rfl rfl rfl (r_places_ (e := 6) (q := q) (b := b) (n := vm v) (s := (ordS s2 P)) (place := place) hm (by omega) hqS hbS hq3 (by omega) heS (by omega) (by omega) hOO) ?_
            rintro x1 g1 hres
            have hr2 := rres_up (rres_bk (rpre_ord s2 P) (rres_cg (g := (fun k => Int64.ofInt ((srt (vlt 60 v) (vm v) k : Nat) : Int))) (by omega) (fun j hj => by rw [ordS_14, hP j (by omega)]) hres)) (show vm v ≤ 120 by omega) (Nat.le_refl 1)
            have hG : rG pre post s2 8 (.inr (vrow 4 (vm v) (fun k => Int64.ofInt ((srt (vlt 60 v) (vm v) k : Nat) : Int)))) place (rcb (.inr (vrow 4 (vm v) (fun k => Int64.ofInt ((srt (vlt 60 v) (vm v) k : Nat) : Int)))) 120) (rvb (.inr (vrow 4 (vm v) (fun k => Int64.ofInt ((srt (vlt 60 v) (vm v) k : Nat) : Int)))) 1) x1 g1 := rG_up (rG_r hr2)
            obtain ⟨z1, rfl⟩ := rG_ii hG
            obtain ⟨t1, rfl⟩ := rG_st hG
            refine me1 (pc' := 385) (L' := [(4, ii (vk v : Int)), (0, .ref 102), (1, ii verb), (2, ii (hd : Int)), (3, ii place)]) (S' := [ii place, ii z1, .ref 102]) dm_X12_monad_384 rfl rfl rfl rfl ?_
            refine x_cv (pc' := 388) (rest := []) dm_X12_monad_385 rfl (q_inv (As := [ii z1, ii place]) (S := []) hm rfl rfl rfl) rfl rfl rfl (r_mdo1 (s := s) (s2 := s2) (W2 := W - (3 + vS v)) (cost := 3 + vS v) (cb := 120) (o := .inr (vrow 4 (vm v) (fun k => Int64.ofInt ((srt (vlt 60 v) (vm v) k : Nat) : Int)))) (c := 4) (nd := nd) hm (by omega) hT hB0 hG hca (by omega) hnd (fun n hn => hrs.1 n (hsp.trans hn)) (fun r hr => hrs.2 r (hsp.trans hr)) (by omega) (by omega) (by omega)) ?_
            rintro x9 g9 hfin
            obtain ⟨z9, rfl⟩ := dres_ii hfin
            obtain ⟨t9, rfl⟩ := dres_st hfin
            refine y_ret (r := some (ii z9)) dm_X12_monad_388 rfl rfl rfl ?_
            have e9 : dOne (cpS s) W verb v place = dMo (cpS s) (W - (3 + vS v)) 0 (.inr (vrow 4 (vm v) (fun k => Int64.ofInt ((srt (vlt 60 v) (vm v) k : Nat) : Int)))) place := by unfold dOne; rw [dAc_mo (by omega), hsp]
            rw [hww] at hfin
            rw [e9]
            exact ⟨_, rfl, hfin⟩
          · exfalso; omega
        · exfalso; omega
      · replace hb11 := dF hb11
        have hsp2 : s_one verb 6 v = .inl 3 := by rw [hsp]; unfold m_sort; rw [if_neg (by omega)]
        clear hsp
        have hsp := hsp2
        refine me1 (pc' := 333) (L' := [(4, ii (vk v : Int)), (0, .ref 102), (1, ii verb), (2, ii (hd : Int)), (3, ii place)]) (S' := [.ref 102]) dm_X12_monad_332 rfl rfl rfl rfl ?_
        refine me0 (pc' := 334) (S' := [ii 3, .ref 102]) dm_X12_monad_333 rfl rfl rfl rfl ?_
        refine me1 (pc' := 335) (L' := [(4, ii (vk v : Int)), (0, .ref 102), (1, ii verb), (2, ii (hd : Int)), (3, ii place)]) (S' := [ii place, ii 3, .ref 102]) dm_X12_monad_334 rfl rfl rfl rfl ?_
        refine x_cv (pc' := 338) (rest := []) dm_X12_monad_335 rfl (q_inv (As := [ii 3, ii place]) (S := []) hm rfl rfl rfl) rfl rfl rfl (r_fail_ (s := s2) hm (by omega) heS hcaS.1 hcaS.2) ?_
        rintro _ _ ⟨rfl, rfl⟩
        refine y_ret (r := some (ii (-1))) dm_X12_monad_338 rfl rfl rfl ?_
        have e9 : dOne (cpS s) W verb v place = dEr (cpS s) (W - (3 + vS v)) 3 place := by unfold dOne; rw [dAc_mo (by omega), hsp]; rfl
        have hfin := dres_fl (pre := pre) (post := post) (c := 4) (nd := nd) (e := 3) (pl := place) hT (by omega) hnd
        rw [hww] at hfin
        rw [e9]
        exact ⟨_, rfl, hfin⟩
    refine y_sw (a := verb) (61) (t := 389) (i := .lookupswitch 547 #[(33, 383), (35, 505), (37, 176), (38, 218), (42, 189), (43, 154), (44, 482), (45, 176), (46, 493), (60, 294), (61, 359), (62, 294), (63, 371), (64, 533), (94, 294), (95, 522), (124, 230), (126, 176)]) (len := 154) dm_X12_monad_30 rfl rfl rfl (by omega) (by decide) (fun hb14 => ?_) (fun hb14 => ?_)
    · exfalso; omega
    refine y_sw (a := verb) (62) (t := 324) (i := .lookupswitch 547 #[(33, 383), (35, 505), (37, 176), (38, 218), (42, 189), (43, 154), (44, 482), (45, 176), (46, 493), (60, 294), (61, 359), (62, 294), (63, 371), (64, 533), (94, 294), (95, 522), (124, 230), (126, 176)]) (len := 154) dm_X12_monad_30 rfl rfl rfl (by omega) (by decide) (fun hb15 => ?_) (fun hb15 => ?_)
    · exfalso; omega
    refine y_sw (a := verb) (63) (t := 401) (i := .lookupswitch 547 #[(33, 383), (35, 505), (37, 176), (38, 218), (42, 189), (43, 154), (44, 482), (45, 176), (46, 493), (60, 294), (61, 359), (62, 294), (63, 371), (64, 533), (94, 294), (95, 522), (124, 230), (126, 176)]) (len := 154) dm_X12_monad_30 rfl rfl rfl (by omega) (by decide) (fun hb16 => ?_) (fun hb16 => ?_)
    · exfalso; omega
    refine y_sw (a := verb) (64) (t := 563) (i := .lookupswitch 547 #[(33, 383), (35, 505), (37, 176), (38, 218), (42, 189), (43, 154), (44, 482), (45, 176), (46, 493), (60, 294), (61, 359), (62, 294), (63, 371), (64, 533), (94, 294), (95, 522), (124, 230), (126, 176)]) (len := 154) dm_X12_monad_30 rfl rfl rfl (by omega) (by decide) (fun hb17 => ?_) (fun hb17 => ?_)
    · exfalso; omega
    refine y_sw (a := verb) (94) (t := 324) (i := .lookupswitch 547 #[(33, 383), (35, 505), (37, 176), (38, 218), (42, 189), (43, 154), (44, 482), (45, 176), (46, 493), (60, 294), (61, 359), (62, 294), (63, 371), (64, 533), (94, 294), (95, 522), (124, 230), (126, 176)]) (len := 154) dm_X12_monad_30 rfl rfl rfl (by omega) (by decide) (fun hb18 => ?_) (fun hb18 => ?_)
    · exfalso; omega
    refine y_sw (a := verb) (95) (t := 552) (i := .lookupswitch 547 #[(33, 383), (35, 505), (37, 176), (38, 218), (42, 189), (43, 154), (44, 482), (45, 176), (46, 493), (60, 294), (61, 359), (62, 294), (63, 371), (64, 533), (94, 294), (95, 522), (124, 230), (126, 176)]) (len := 154) dm_X12_monad_30 rfl rfl rfl (by omega) (by decide) (fun hb19 => ?_) (fun hb19 => ?_)
    · exfalso; omega
    refine y_sw (a := verb) (124) (t := 260) (i := .lookupswitch 547 #[(33, 383), (35, 505), (37, 176), (38, 218), (42, 189), (43, 154), (44, 482), (45, 176), (46, 493), (60, 294), (61, 359), (62, 294), (63, 371), (64, 533), (94, 294), (95, 522), (124, 230), (126, 176)]) (len := 154) dm_X12_monad_30 rfl rfl rfl (by omega) (by decide) (fun hb20 => ?_) (fun hb20 => ?_)
    · exfalso; omega
    refine y_sw (a := verb) (126) (t := 206) (i := .lookupswitch 547 #[(33, 383), (35, 505), (37, 176), (38, 218), (42, 189), (43, 154), (44, 482), (45, 176), (46, 493), (60, 294), (61, 359), (62, 294), (63, 371), (64, 533), (94, 294), (95, 522), (124, 230), (126, 176)]) (len := 154) dm_X12_monad_30 rfl rfl rfl (by omega) (by decide) (fun hb21 => ?_) (fun hb21 => ?_)
    · exfalso; omega
    exfalso; omega
theorem dm_X12_monad_347 : mj_dec prog_14_method_29_code 347 = some (.iconst 1, 1) := by decide +kernel
theorem dm_X12_monad_348 : mj_dec prog_14_method_29_code 348 = some (.goto 4, 3) := by decide +kernel
theorem r_mon62 {xt : mj_X} {d hd q b base W : Nat} {pre post : mj_H} {s : RS} {v : VV} {place nd verb : Int} (hm : pre.length = 102) (hd1 : 60 ≤ d) (hRS : RSO) (hB : rB s) (hv : rv s 7 hd v) (hh3 : 3 ≤ hd) (hz1 : vsz 7 v ≤ 1000) (hz2 : vlv 7 v ≤ 5) (hq : s.1 4 = (q : Int)) (hb : s.1 3 = (b : Int)) (hq3 : 3 ≤ q) (hV2 : q + 2100 < 310000) (he0 : s.1 5 = 0) (hca : 0 ≤ s.1 10 ∧ s.1 10 ≤ 100) (hC : b + 291000 ≤ 820000) (hw13 : s.1 13 = (base : Int)) (hbs : base ≤ 7900) (h8 : s.1 8 = (W : Int)) (hW5 : W ≤ 500000) (hnd : 0 ≤ nd) (hvb : verb = 62) : pgV xt d 281 [.ref 102, ii verb, ii (hd : Int), ii place] (rS pre post s) (dres pre post s W 4 nd (dOne (cpS s) W verb v place)) := by
  have hB0 := hB
  obtain ⟨hB1, hB2, hB3, hB4⟩ := hB
  obtain ⟨fr, hfr, hsh, hlt, hcl, hvk, hvm, hvc, hvq, hvcl⟩ := rv_val hv
  have hvb2 : -2147483648 ≤ verb ∧ verb ≤ 2147483647 := by omega
  refine x_enter pm_X12_monad (L0 := [(0, .ref 102), (1, ii verb), (2, ii (hd : Int)), (3, ii place)]) rfl (Nat.le_of_ble_eq_true rfl) (by omega) ?_
  refine me1 (pc' := 1) (L' := [(0, .ref 102), (1, ii verb), (2, ii (hd : Int)), (3, ii place)]) (S' := [.ref 102]) dm_X12_monad_0 rfl rfl rfl rfl ?_
  refine me1 (pc' := 2) (L' := [(0, .ref 102), (1, ii verb), (2, ii (hd : Int)), (3, ii place)]) (S' := [ii (hd : Int), .ref 102]) dm_X12_monad_1 rfl rfl rfl rfl ?_
  refine x_cp (pc' := 5) (v := ii (vk v : Int)) (rest := []) dm_X12_monad_2 rfl (q_inv (As := [ii (hd : Int)]) (S := []) hm rfl rfl rfl) rfl rfl rfl (r_kindOf_ (e := 6) hm (by omega) hB0 hv) ?_
  refine me1 (pc' := 7) (L' := [(4, ii (vk v : Int)), (0, .ref 102), (1, ii verb), (2, ii (hd : Int)), (3, ii place)]) (S' := []) dm_X12_monad_5 rfl rfl rfl rfl ?_
  refine me1 (pc' := 8) (L' := [(4, ii (vk v : Int)), (0, .ref 102), (1, ii verb), (2, ii (hd : Int)), (3, ii place)]) (S' := [.ref 102]) dm_X12_monad_7 rfl rfl rfl rfl ?_
  refine me0 (pc' := 9) (S' := [ii 3, .ref 102]) dm_X12_monad_8 rfl rfl rfl rfl ?_
  refine me1 (pc' := 10) (L' := [(4, ii (vk v : Int)), (0, .ref 102), (1, ii verb), (2, ii (hd : Int)), (3, ii place)]) (S' := [.ref 102, ii 3, .ref 102]) dm_X12_monad_9 rfl rfl rfl rfl ?_
  refine me1 (pc' := 11) (L' := [(4, ii (vk v : Int)), (0, .ref 102), (1, ii verb), (2, ii (hd : Int)), (3, ii place)]) (S' := [ii (hd : Int), .ref 102, ii 3, .ref 102]) dm_X12_monad_10 rfl rfl rfl rfl ?_
  refine x_cp (pc' := 14) (v := ii (vsz 7 v : Int)) (rest := [ii 3, .ref 102]) dm_X12_monad_11 rfl (q_inv (As := [ii (hd : Int)]) (S := [ii 3, .ref 102]) hm rfl rfl rfl) rfl rfl rfl (r_sizeOf_ hm hB0 7 (by omega) hv) ?_
  refine y_iadd (a := 3) (b := (vsz 7 v : Int)) dm_X12_monad_14 (pc' := 15) rfl ?_
  refine pg_st (S' := [ii ((3 + vS v : Nat) : Int), .ref 102]) (congrArg (fun z => ii z :: [.ref 102]) (show 3 + (vsz 7 v : Int) = ((3 + vS v : Nat) : Int) by show _ = ((3 + vsz 7 v : Nat) : Int); omega)) ?_
  have hvS : vS v = vsz 7 v := rfl
  by_cases hW : W < 3 + vS v
  · refine me1 (pc' := 16) (L' := [(4, ii (vk v : Int)), (0, .ref 102), (1, ii verb), (2, ii (hd : Int)), (3, ii place)]) (S' := [ii place, ii ((3 + vS v : Nat) : Int), .ref 102]) dm_X12_monad_15 rfl rfl rfl rfl ?_
    refine x_cv (pc' := 19) (rest := []) dm_X12_monad_16 rfl (q_inv (As := [ii ((3 + vS v : Nat) : Int), ii place]) (S := []) hm rfl rfl rfl) rfl rfl rfl ((by have z := r_takes_ (xt := xt) (d := d - 1) (pre := pre) (post := post) (s := s) (n := ((3 + vS v : Nat) : Int)) (place := place) hm (by omega) he0 hca.1 hca.2 (by omega) (by omega) (by omega); rw [tkS_f (by omega), decide_eq_false (by omega)] at z; exact z)) ?_
    rintro _ _ ⟨rfl, rfl⟩
    refine me_1f (pc' := 22) dm_X12_monad_19 rfl (by decide) rfl ?_
    refine me0 (pc' := 23) (S' := [ii (-1)]) dm_X12_monad_22 rfl rfl rfl rfl ?_
    refine y_ret (r := some (ii (-1))) dm_X12_monad_23 rfl rfl rfl ?_
    refine ⟨_, rfl, ?_⟩
    rw [show dOne (cpS s) W verb v place = dEr (cpS s) W 10 place from dAc_no hW]
    exact tk_no (n := 0) he0 h8 hnd
  · refine me1 (pc' := 16) (L' := [(4, ii (vk v : Int)), (0, .ref 102), (1, ii verb), (2, ii (hd : Int)), (3, ii place)]) (S' := [ii place, ii ((3 + vS v : Nat) : Int), .ref 102]) dm_X12_monad_15 rfl rfl rfl rfl ?_
    refine x_cv (pc' := 19) (rest := []) dm_X12_monad_16 rfl (q_inv (As := [ii ((3 + vS v : Nat) : Int), ii place]) (S := []) hm rfl rfl rfl) rfl rfl rfl ((by have z := r_takes_ (xt := xt) (d := d - 1) (pre := pre) (post := post) (s := s) (n := ((3 + vS v : Nat) : Int)) (place := place) hm (by omega) he0 hca.1 hca.2 (by omega) (by omega) (by omega); rw [tkS_t (by omega), decide_eq_true (by omega)] at z; exact z)) ?_
    rintro _ _ ⟨rfl, rfl⟩
    refine me_1t (pc' := 24) dm_X12_monad_19 rfl (by decide) ?_
    refine me1 (pc' := 25) (L' := [(4, ii (vk v : Int)), (0, .ref 102), (1, ii verb), (2, ii (hd : Int)), (3, ii place)]) (S' := [.ref 102]) dm_X12_monad_24 rfl rfl rfl rfl ?_
    refine me0 (pc' := 26) (S' := [ii 0, .ref 102]) dm_X12_monad_25 rfl rfl rfl rfl ?_
    refine me3 (pc' := 29) (S' := []) (h1 := rI pre post (va_up ((takeS s ((3 + vS v : Nat) : Int)).1) 9 0) ((takeS s ((3 + vS v : Nat) : Int)).2.1) ((takeS s ((3 + vS v : Nat) : Int)).2.2.1) ((takeS s ((3 + vS v : Nat) : Int)).2.2.2)) dm_X12_monad_26 (q_puti hm rfl rfl (fun m i l v => rf_9 m i l v)) rfl rfl rfl ?_
    obtain ⟨s2, hs2⟩ : ∃ s2 : RS, s2 = (va_up (takeS s ((3 + vS v : Nat) : Int)).1 9 0, (takeS s ((3 + vS v : Nat) : Int)).2.1, (takeS s ((3 + vS v : Nat) : Int)).2.2.1, (takeS s ((3 + vS v : Nat) : Int)).2.2.2) := ⟨_, rfl⟩
    have hT := tk_tkd (W := W) hs2 he0 h8 (by omega)
    have hqS : s2.1 4 = (q : Int) := hT.2.2.2.1.trans hq
    have hbS : s2.1 3 = (b : Int) := hT.2.2.1.trans hb
    have heS : s2.1 5 = 0 := hT.2.2.2.2.1
    have hwS : s2.1 13 = (base : Int) := hT.2.2.2.2.2.2.1.trans hw13
    have hcaS : 0 ≤ s2.1 10 ∧ s2.1 10 ≤ 100 := by rw [hT.2.1.1 10 (by decide) (by decide) (by decide) (by decide) (by decide) (by decide) (by decide) (by decide) (by decide) (by decide)]; exact hca
    have hBs : rB s2 := ⟨by omega, by omega, by omega, by omega⟩
    have hvs := rv_ext hT.1 hh3 hv
    have hrs := hRS verb v (rv_wf hv) hz1 hz2
    have hww : W - (3 + vS v) + (3 + vS v) = W := by omega
    refine pg_cast (h2 := rI pre post s2.1 s2.2.1 s2.2.2.1 s2.2.2.2) (by rw [hs2]) ?_
    refine me1 (pc' := 30) (L' := [(4, ii (vk v : Int)), (0, .ref 102), (1, ii verb), (2, ii (hd : Int)), (3, ii place)]) (S' := [ii verb]) dm_X12_monad_29 rfl rfl rfl rfl ?_
    have hsp : s_one verb 6 v = m_sort verb v := by unfold s_one; rw [if_neg (by omega), if_neg (by omega), if_neg (by omega), if_neg (by omega), if_neg (by omega), if_pos (by omega)]
    have hw9 := (rv_wf hv).1
    have h5m : vk v ≤ 5 → vm v ≤ 120 := fun z => by omega
    have h6m : vk v = 6 → 1 ≤ vm v ∧ vm v ≤ 12 := fun z => ⟨(hw9.2.2.2.1 z).1, (hw9.2.2.2.1 z).2.1⟩
    have h6c : vk v = 6 → 1 ≤ vc v := fun z => (hw9.2.2.2.1 z).2.2.1
    have h7m : vk v = 7 → vm v ≤ 24 := fun z => (hw9.2.2.2.2.1 z).1
    refine y_sw (a := verb) (33) (t := 413) (i := .lookupswitch 547 #[(33, 383), (35, 505), (37, 176), (38, 218), (42, 189), (43, 154), (44, 482), (45, 176), (46, 493), (60, 294), (61, 359), (62, 294), (63, 371), (64, 533), (94, 294), (95, 522), (124, 230), (126, 176)]) (len := 154) dm_X12_monad_30 rfl rfl rfl (by omega) (by decide) (fun hb1 => ?_) (fun hb1 => ?_)
    · exfalso; omega
    refine y_sw (a := verb) (35) (t := 535) (i := .lookupswitch 547 #[(33, 383), (35, 505), (37, 176), (38, 218), (42, 189), (43, 154), (44, 482), (45, 176), (46, 493), (60, 294), (61, 359), (62, 294), (63, 371), (64, 533), (94, 294), (95, 522), (124, 230), (126, 176)]) (len := 154) dm_X12_monad_30 rfl rfl rfl (by omega) (by decide) (fun hb2 => ?_) (fun hb2 => ?_)
    · exfalso; omega
    refine y_sw (a := verb) (37) (t := 206) (i := .lookupswitch 547 #[(33, 383), (35, 505), (37, 176), (38, 218), (42, 189), (43, 154), (44, 482), (45, 176), (46, 493), (60, 294), (61, 359), (62, 294), (63, 371), (64, 533), (94, 294), (95, 522), (124, 230), (126, 176)]) (len := 154) dm_X12_monad_30 rfl rfl rfl (by omega) (by decide) (fun hb3 => ?_) (fun hb3 => ?_)
    · exfalso; omega
    refine y_sw (a := verb) (38) (t := 248) (i := .lookupswitch 547 #[(33, 383), (35, 505), (37, 176), (38, 218), (42, 189), (43, 154), (44, 482), (45, 176), (46, 493), (60, 294), (61, 359), (62, 294), (63, 371), (64, 533), (94, 294), (95, 522), (124, 230), (126, 176)]) (len := 154) dm_X12_monad_30 rfl rfl rfl (by omega) (by decide) (fun hb4 => ?_) (fun hb4 => ?_)
    · exfalso; omega
    refine y_sw (a := verb) (42) (t := 219) (i := .lookupswitch 547 #[(33, 383), (35, 505), (37, 176), (38, 218), (42, 189), (43, 154), (44, 482), (45, 176), (46, 493), (60, 294), (61, 359), (62, 294), (63, 371), (64, 533), (94, 294), (95, 522), (124, 230), (126, 176)]) (len := 154) dm_X12_monad_30 rfl rfl rfl (by omega) (by decide) (fun hb5 => ?_) (fun hb5 => ?_)
    · exfalso; omega
    refine y_sw (a := verb) (43) (t := 184) (i := .lookupswitch 547 #[(33, 383), (35, 505), (37, 176), (38, 218), (42, 189), (43, 154), (44, 482), (45, 176), (46, 493), (60, 294), (61, 359), (62, 294), (63, 371), (64, 533), (94, 294), (95, 522), (124, 230), (126, 176)]) (len := 154) dm_X12_monad_30 rfl rfl rfl (by omega) (by decide) (fun hb6 => ?_) (fun hb6 => ?_)
    · exfalso; omega
    refine y_sw (a := verb) (44) (t := 512) (i := .lookupswitch 547 #[(33, 383), (35, 505), (37, 176), (38, 218), (42, 189), (43, 154), (44, 482), (45, 176), (46, 493), (60, 294), (61, 359), (62, 294), (63, 371), (64, 533), (94, 294), (95, 522), (124, 230), (126, 176)]) (len := 154) dm_X12_monad_30 rfl rfl rfl (by omega) (by decide) (fun hb7 => ?_) (fun hb7 => ?_)
    · exfalso; omega
    refine y_sw (a := verb) (45) (t := 206) (i := .lookupswitch 547 #[(33, 383), (35, 505), (37, 176), (38, 218), (42, 189), (43, 154), (44, 482), (45, 176), (46, 493), (60, 294), (61, 359), (62, 294), (63, 371), (64, 533), (94, 294), (95, 522), (124, 230), (126, 176)]) (len := 154) dm_X12_monad_30 rfl rfl rfl (by omega) (by decide) (fun hb8 => ?_) (fun hb8 => ?_)
    · exfalso; omega
    refine y_sw (a := verb) (46) (t := 523) (i := .lookupswitch 547 #[(33, 383), (35, 505), (37, 176), (38, 218), (42, 189), (43, 154), (44, 482), (45, 176), (46, 493), (60, 294), (61, 359), (62, 294), (63, 371), (64, 533), (94, 294), (95, 522), (124, 230), (126, 176)]) (len := 154) dm_X12_monad_30 rfl rfl rfl (by omega) (by decide) (fun hb9 => ?_) (fun hb9 => ?_)
    · exfalso; omega
    refine y_sw (a := verb) (60) (t := 324) (i := .lookupswitch 547 #[(33, 383), (35, 505), (37, 176), (38, 218), (42, 189), (43, 154), (44, 482), (45, 176), (46, 493), (60, 294), (61, 359), (62, 294), (63, 371), (64, 533), (94, 294), (95, 522), (124, 230), (126, 176)]) (len := 154) dm_X12_monad_30 rfl rfl rfl (by omega) (by decide) (fun hb10 => ?_) (fun hb10 => ?_)
    · exfalso; omega
    refine y_sw (a := verb) (61) (t := 389) (i := .lookupswitch 547 #[(33, 383), (35, 505), (37, 176), (38, 218), (42, 189), (43, 154), (44, 482), (45, 176), (46, 493), (60, 294), (61, 359), (62, 294), (63, 371), (64, 533), (94, 294), (95, 522), (124, 230), (126, 176)]) (len := 154) dm_X12_monad_30 rfl rfl rfl (by omega) (by decide) (fun hb11 => ?_) (fun hb11 => ?_)
    · exfalso; omega
    refine y_sw (a := verb) (62) (t := 324) (i := .lookupswitch 547 #[(33, 383), (35, 505), (37, 176), (38, 218), (42, 189), (43, 154), (44, 482), (45, 176), (46, 493), (60, 294), (61, 359), (62, 294), (63, 371), (64, 533), (94, 294), (95, 522), (124, 230), (126, 176)]) (len := 154) dm_X12_monad_30 rfl rfl rfl (by omega) (by decide) (fun hb12 => ?_) (fun hb12 => ?_)
    · refine me1 (pc' := 325) (L' := [(4, ii (vk v : Int)), (0, .ref 102), (1, ii verb), (2, ii (hd : Int)), (3, ii place)]) (S' := [.ref 102]) dm_X12_monad_324 rfl rfl rfl rfl ?_
      refine me1 (pc' := 326) (L' := [(4, ii (vk v : Int)), (0, .ref 102), (1, ii verb), (2, ii (hd : Int)), (3, ii place)]) (S' := [ii (hd : Int), .ref 102]) dm_X12_monad_325 rfl rfl rfl rfl ?_
      refine x_cp (pc' := 329) (v := zz (decide (2 ≤ vk v ∧ vk v ≤ 5))) (rest := []) dm_X12_monad_326 rfl (q_inv (As := [ii (hd : Int)]) (S := []) hm rfl rfl rfl) rfl rfl rfl (r_isRow_ (e := 6) hm (by omega) hBs hvs) ?_
      refine y_zne (c := decide (2 ≤ vk v ∧ vk v ≤ 5)) (t := 339) (pc' := 332) dm_X12_monad_329 rfl rfl (fun hb13 => ?_) (fun hb13 => ?_)
      · replace hb13 := dT hb13
        have hsp2 : s_one verb 6 v = .inr (vrow 4 (vm v) (fun k => Int64.ofInt ((srt (vlt 62 v) (vm v) k : Nat) : Int))) := by rw [hsp]; have hv9 : verb = 62 := (by omega); rw [hv9]; unfold m_sort; rw [if_pos (by omega), if_neg (by decide)]
        clear hsp
        have hsp := hsp2
        refine me1 (pc' := 340) (L' := [(4, ii (vk v : Int)), (0, .ref 102), (1, ii verb), (2, ii (hd : Int)), (3, ii place)]) (S' := [.ref 102]) dm_X12_monad_339 rfl rfl rfl rfl ?_
        refine me1 (pc' := 341) (L' := [(4, ii (vk v : Int)), (0, .ref 102), (1, ii verb), (2, ii (hd : Int)), (3, ii place)]) (S' := [ii (hd : Int), .ref 102]) dm_X12_monad_340 rfl rfl rfl rfl ?_
        refine me1 (pc' := 342) (L' := [(4, ii (vk v : Int)), (0, .ref 102), (1, ii verb), (2, ii (hd : Int)), (3, ii place)]) (S' := [ii verb, ii (hd : Int), .ref 102]) dm_X12_monad_341 rfl rfl rfl rfl ?_
        refine me0 (pc' := 344) (S' := [ii 62, ii verb, ii (hd : Int), .ref 102]) dm_X12_monad_342 rfl rfl rfl rfl ?_
        refine y_2ne (a := verb) (b := 62) (t := 351) (pc' := 347) dm_X12_monad_344 rfl rfl (by omega) (fun hb14 => ?_) (fun hb14 => ?_)
        · exfalso; omega
        · refine me0 (pc' := 348) (S' := [ii 1, ii (hd : Int), .ref 102]) dm_X12_monad_347 rfl rfl rfl rfl ?_
          refine me2 (pc' := 352) (S' := [ii 1, ii (hd : Int), .ref 102]) dm_X12_monad_348 rfl rfl rfl ?_
          refine x_cn (pc' := 355) (rest := []) dm_X12_monad_352 rfl (q_inv (As := [ii (hd : Int), ii 1]) (S := []) hm rfl rfl rfl) rfl rfl rfl (r_sort_ (e := 6) (q := q) (b := b) (s := s2) (place := place) (c := true) hm (by omega) hBs hvs hh3 hqS hbS hq3 (by omega) heS hcaS (by omega) (by omega) (by omega) (vq_m (by omega))) ?_
          rintro _ ⟨P, rfl, hP⟩
          have hP : ∀ j, j < vm v → P j = ((srt (vlt 62 v) (vm v) j : Nat) : Int) := hP
          have hsl := srt_lt (vlt 62 v) (vm v)
          refine me1 (pc' := 356) (L' := [(4, ii (vk v : Int)), (0, .ref 102), (1, ii verb), (2, ii (hd : Int)), (3, ii place)]) (S' := [.ref 102]) dm_X12_monad_355 rfl rfl rfl rfl ?_
          refine me1 (pc' := 357) (L' := [(4, ii (vk v : Int)), (0, .ref 102), (1, ii verb), (2, ii (hd : Int)), (3, ii place)]) (S' := [ii verb, .ref 102]) dm_X12_monad_356 rfl rfl rfl rfl ?_
          refine me0 (pc' := 359) (S' := [ii 94, ii verb, .ref 102]) dm_X12_monad_357 rfl rfl rfl rfl ?_
          refine y_2ne (a := verb) (b := 94) (t := 375) (pc' := 362) dm_X12_monad_359 rfl rfl (by omega) (fun hb15 => ?_) (fun hb15 => ?_)
          · refine me1 (pc' := 376) (L' := [(4, ii (vk v : Int)), (0, .ref 102), (1, ii verb), (2, ii (hd : Int)), (3, ii place)]) (S' := [.ref 102, .ref 102]) dm_X12_monad_375 rfl rfl rfl rfl ?_
            refine me1 (pc' := 377) (L' := [(4, ii (vk v : Int)), (0, .ref 102), (1, ii verb), (2, ii (hd : Int)), (3, ii place)]) (S' := [.ref 102, .ref 102, .ref 102]) dm_X12_monad_376 rfl rfl rfl rfl ?_
            refine me1 (pc' := 378) (L' := [(4, ii (vk v : Int)), (0, .ref 102), (1, ii verb), (2, ii (hd : Int)), (3, ii place)]) (S' := [ii (hd : Int), .ref 102, .ref 102, .ref 102]) dm_X12_monad_377 rfl rfl rfl rfl ?_
            refine x_cp (pc' := 381) (v := ii (vm v : Int)) (rest := [.ref 102, .ref 102]) dm_X12_monad_378 rfl (q_inv (As := [ii (hd : Int)]) (S := [.ref 102, .ref 102]) hm rfl rfl rfl) rfl rfl rfl (r_many_ (e := 6) hm (by omega) (rB_ord hBs) (rv_ord hh3 hvs)) ?_
            have hOO : ∀ j, j < vm v → 0 ≤ (ordS s2 P).2.2.1 14 j ∧ (ordS s2 P).2.2.1 14 j ≤ 1000 := fun j hj => by rw [ordS_14, hP j (by omega)]; have := hsl j hj; omega
            refine x_cv (pc' := 384) (rest := [.ref 102]) dm_X12_monad_381 rfl (q_inv (As := [ii (vm v : Int)]) (S := [.ref 102]) hm rfl rfl rfl) rfl rfl rfl (r_places_ (e := 6) (q := q) (b := b) (n := vm v) (s := (ordS s2 P)) (place := place) hm (by omega) hqS hbS hq3 (by omega) heS (by omega) (by omega) hOO) ?_
            rintro x1 g1 hres
            have hr2 := rres_up (rres_bk (rpre_ord s2 P) (rres_cg (g := (fun k => Int64.ofInt ((srt (vlt 62 v) (vm v) k : Nat) : Int))) (by omega) (fun j hj => by rw [ordS_14, hP j (by omega)]) hres)) (show vm v ≤ 120 by omega) (Nat.le_refl 1)
            have hG : rG pre post s2 8 (.inr (vrow 4 (vm v) (fun k => Int64.ofInt ((srt (vlt 62 v) (vm v) k : Nat) : Int)))) place (rcb (.inr (vrow 4 (vm v) (fun k => Int64.ofInt ((srt (vlt 62 v) (vm v) k : Nat) : Int)))) 120) (rvb (.inr (vrow 4 (vm v) (fun k => Int64.ofInt ((srt (vlt 62 v) (vm v) k : Nat) : Int)))) 1) x1 g1 := rG_up (rG_r hr2)
            obtain ⟨z1, rfl⟩ := rG_ii hG
            obtain ⟨t1, rfl⟩ := rG_st hG
            refine me1 (pc' := 385) (L' := [(4, ii (vk v : Int)), (0, .ref 102), (1, ii verb), (2, ii (hd : Int)), (3, ii place)]) (S' := [ii place, ii z1, .ref 102]) dm_X12_monad_384 rfl rfl rfl rfl ?_
            refine x_cv (pc' := 388) (rest := []) dm_X12_monad_385 rfl (q_inv (As := [ii z1, ii place]) (S := []) hm rfl rfl rfl) rfl rfl rfl (r_mdo1 (s := s) (s2 := s2) (W2 := W - (3 + vS v)) (cost := 3 + vS v) (cb := 120) (o := .inr (vrow 4 (vm v) (fun k => Int64.ofInt ((srt (vlt 62 v) (vm v) k : Nat) : Int)))) (c := 4) (nd := nd) hm (by omega) hT hB0 hG hca (by omega) hnd (fun n hn => hrs.1 n (hsp.trans hn)) (fun r hr => hrs.2 r (hsp.trans hr)) (by omega) (by omega) (by omega)) ?_
            rintro x9 g9 hfin
            obtain ⟨z9, rfl⟩ := dres_ii hfin
            obtain ⟨t9, rfl⟩ := dres_st hfin
            refine y_ret (r := some (ii z9)) dm_X12_monad_388 rfl rfl rfl ?_
            have e9 : dOne (cpS s) W verb v place = dMo (cpS s) (W - (3 + vS v)) 0 (.inr (vrow 4 (vm v) (fun k => Int64.ofInt ((srt (vlt 62 v) (vm v) k : Nat) : Int)))) place := by unfold dOne; rw [dAc_mo (by omega), hsp]
            rw [hww] at hfin
            rw [e9]
            exact ⟨_, rfl, hfin⟩
          · exfalso; omega
      · replace hb13 := dF hb13
        have hsp2 : s_one verb 6 v = .inl 3 := by rw [hsp]; unfold m_sort; rw [if_neg (by omega)]
        clear hsp
        have hsp := hsp2
        refine me1 (pc' := 333) (L' := [(4, ii (vk v : Int)), (0, .ref 102), (1, ii verb), (2, ii (hd : Int)), (3, ii place)]) (S' := [.ref 102]) dm_X12_monad_332 rfl rfl rfl rfl ?_
        refine me0 (pc' := 334) (S' := [ii 3, .ref 102]) dm_X12_monad_333 rfl rfl rfl rfl ?_
        refine me1 (pc' := 335) (L' := [(4, ii (vk v : Int)), (0, .ref 102), (1, ii verb), (2, ii (hd : Int)), (3, ii place)]) (S' := [ii place, ii 3, .ref 102]) dm_X12_monad_334 rfl rfl rfl rfl ?_
        refine x_cv (pc' := 338) (rest := []) dm_X12_monad_335 rfl (q_inv (As := [ii 3, ii place]) (S := []) hm rfl rfl rfl) rfl rfl rfl (r_fail_ (s := s2) hm (by omega) heS hcaS.1 hcaS.2) ?_
        rintro _ _ ⟨rfl, rfl⟩
        refine y_ret (r := some (ii (-1))) dm_X12_monad_338 rfl rfl rfl ?_
        have e9 : dOne (cpS s) W verb v place = dEr (cpS s) (W - (3 + vS v)) 3 place := by unfold dOne; rw [dAc_mo (by omega), hsp]; rfl
        have hfin := dres_fl (pre := pre) (post := post) (c := 4) (nd := nd) (e := 3) (pl := place) hT (by omega) hnd
        rw [hww] at hfin
        rw [e9]
        exact ⟨_, rfl, hfin⟩
    refine y_sw (a := verb) (63) (t := 401) (i := .lookupswitch 547 #[(33, 383), (35, 505), (37, 176), (38, 218), (42, 189), (43, 154), (44, 482), (45, 176), (46, 493), (60, 294), (61, 359), (62, 294), (63, 371), (64, 533), (94, 294), (95, 522), (124, 230), (126, 176)]) (len := 154) dm_X12_monad_30 rfl rfl rfl (by omega) (by decide) (fun hb16 => ?_) (fun hb16 => ?_)
    · exfalso; omega
    refine y_sw (a := verb) (64) (t := 563) (i := .lookupswitch 547 #[(33, 383), (35, 505), (37, 176), (38, 218), (42, 189), (43, 154), (44, 482), (45, 176), (46, 493), (60, 294), (61, 359), (62, 294), (63, 371), (64, 533), (94, 294), (95, 522), (124, 230), (126, 176)]) (len := 154) dm_X12_monad_30 rfl rfl rfl (by omega) (by decide) (fun hb17 => ?_) (fun hb17 => ?_)
    · exfalso; omega
    refine y_sw (a := verb) (94) (t := 324) (i := .lookupswitch 547 #[(33, 383), (35, 505), (37, 176), (38, 218), (42, 189), (43, 154), (44, 482), (45, 176), (46, 493), (60, 294), (61, 359), (62, 294), (63, 371), (64, 533), (94, 294), (95, 522), (124, 230), (126, 176)]) (len := 154) dm_X12_monad_30 rfl rfl rfl (by omega) (by decide) (fun hb18 => ?_) (fun hb18 => ?_)
    · exfalso; omega
    refine y_sw (a := verb) (95) (t := 552) (i := .lookupswitch 547 #[(33, 383), (35, 505), (37, 176), (38, 218), (42, 189), (43, 154), (44, 482), (45, 176), (46, 493), (60, 294), (61, 359), (62, 294), (63, 371), (64, 533), (94, 294), (95, 522), (124, 230), (126, 176)]) (len := 154) dm_X12_monad_30 rfl rfl rfl (by omega) (by decide) (fun hb19 => ?_) (fun hb19 => ?_)
    · exfalso; omega
    refine y_sw (a := verb) (124) (t := 260) (i := .lookupswitch 547 #[(33, 383), (35, 505), (37, 176), (38, 218), (42, 189), (43, 154), (44, 482), (45, 176), (46, 493), (60, 294), (61, 359), (62, 294), (63, 371), (64, 533), (94, 294), (95, 522), (124, 230), (126, 176)]) (len := 154) dm_X12_monad_30 rfl rfl rfl (by omega) (by decide) (fun hb20 => ?_) (fun hb20 => ?_)
    · exfalso; omega
    refine y_sw (a := verb) (126) (t := 206) (i := .lookupswitch 547 #[(33, 383), (35, 505), (37, 176), (38, 218), (42, 189), (43, 154), (44, 482), (45, 176), (46, 493), (60, 294), (61, 359), (62, 294), (63, 371), (64, 533), (94, 294), (95, 522), (124, 230), (126, 176)]) (len := 154) dm_X12_monad_30 rfl rfl rfl (by omega) (by decide) (fun hb21 => ?_) (fun hb21 => ?_)
    · exfalso; omega
    exfalso; omega
theorem dm_X12_monad_362 : mj_dec prog_14_method_29_code 362 = some (.aload_n 0, 1) := by decide +kernel
theorem dm_X12_monad_363 : mj_dec prog_14_method_29_code 363 = some (.iload_n 2, 1) := by decide +kernel
theorem dm_X12_monad_364 : mj_dec prog_14_method_29_code 364 = some (.aload_n 0, 1) := by decide +kernel
theorem dm_X12_monad_365 : mj_dec prog_14_method_29_code 365 = some (.iload_n 2, 1) := by decide +kernel
theorem dm_X12_monad_366 : mj_dec prog_14_method_29_code 366 = some (.invokevirtual 134, 3) := by decide +kernel
theorem dm_X12_monad_369 : mj_dec prog_14_method_29_code 369 = some (.invokevirtual 223, 3) := by decide +kernel
theorem dm_X12_monad_372 : mj_dec prog_14_method_29_code 372 = some (.goto 12, 3) := by decide +kernel
theorem r_mon94 {xt : mj_X} {d hd q b base W : Nat} {pre post : mj_H} {s : RS} {v : VV} {place nd verb : Int} (hm : pre.length = 102) (hd1 : 60 ≤ d) (hRS : RSO) (hB : rB s) (hv : rv s 7 hd v) (hh3 : 3 ≤ hd) (hz1 : vsz 7 v ≤ 1000) (hz2 : vlv 7 v ≤ 5) (hq : s.1 4 = (q : Int)) (hb : s.1 3 = (b : Int)) (hq3 : 3 ≤ q) (hV2 : q + 2100 < 310000) (he0 : s.1 5 = 0) (hca : 0 ≤ s.1 10 ∧ s.1 10 ≤ 100) (hC : b + 291000 ≤ 820000) (hw13 : s.1 13 = (base : Int)) (hbs : base ≤ 7900) (h8 : s.1 8 = (W : Int)) (hW5 : W ≤ 500000) (hnd : 0 ≤ nd) (hvb : verb = 94) : pgV xt d 281 [.ref 102, ii verb, ii (hd : Int), ii place] (rS pre post s) (dres pre post s W 4 nd (dOne (cpS s) W verb v place)) := by
  have hB0 := hB
  obtain ⟨hB1, hB2, hB3, hB4⟩ := hB
  obtain ⟨fr, hfr, hsh, hlt, hcl, hvk, hvm, hvc, hvq, hvcl⟩ := rv_val hv
  have hvb2 : -2147483648 ≤ verb ∧ verb ≤ 2147483647 := by omega
  refine x_enter pm_X12_monad (L0 := [(0, .ref 102), (1, ii verb), (2, ii (hd : Int)), (3, ii place)]) rfl (Nat.le_of_ble_eq_true rfl) (by omega) ?_
  refine me1 (pc' := 1) (L' := [(0, .ref 102), (1, ii verb), (2, ii (hd : Int)), (3, ii place)]) (S' := [.ref 102]) dm_X12_monad_0 rfl rfl rfl rfl ?_
  refine me1 (pc' := 2) (L' := [(0, .ref 102), (1, ii verb), (2, ii (hd : Int)), (3, ii place)]) (S' := [ii (hd : Int), .ref 102]) dm_X12_monad_1 rfl rfl rfl rfl ?_
  refine x_cp (pc' := 5) (v := ii (vk v : Int)) (rest := []) dm_X12_monad_2 rfl (q_inv (As := [ii (hd : Int)]) (S := []) hm rfl rfl rfl) rfl rfl rfl (r_kindOf_ (e := 6) hm (by omega) hB0 hv) ?_
  refine me1 (pc' := 7) (L' := [(4, ii (vk v : Int)), (0, .ref 102), (1, ii verb), (2, ii (hd : Int)), (3, ii place)]) (S' := []) dm_X12_monad_5 rfl rfl rfl rfl ?_
  refine me1 (pc' := 8) (L' := [(4, ii (vk v : Int)), (0, .ref 102), (1, ii verb), (2, ii (hd : Int)), (3, ii place)]) (S' := [.ref 102]) dm_X12_monad_7 rfl rfl rfl rfl ?_
  refine me0 (pc' := 9) (S' := [ii 3, .ref 102]) dm_X12_monad_8 rfl rfl rfl rfl ?_
  refine me1 (pc' := 10) (L' := [(4, ii (vk v : Int)), (0, .ref 102), (1, ii verb), (2, ii (hd : Int)), (3, ii place)]) (S' := [.ref 102, ii 3, .ref 102]) dm_X12_monad_9 rfl rfl rfl rfl ?_
  refine me1 (pc' := 11) (L' := [(4, ii (vk v : Int)), (0, .ref 102), (1, ii verb), (2, ii (hd : Int)), (3, ii place)]) (S' := [ii (hd : Int), .ref 102, ii 3, .ref 102]) dm_X12_monad_10 rfl rfl rfl rfl ?_
  refine x_cp (pc' := 14) (v := ii (vsz 7 v : Int)) (rest := [ii 3, .ref 102]) dm_X12_monad_11 rfl (q_inv (As := [ii (hd : Int)]) (S := [ii 3, .ref 102]) hm rfl rfl rfl) rfl rfl rfl (r_sizeOf_ hm hB0 7 (by omega) hv) ?_
  refine y_iadd (a := 3) (b := (vsz 7 v : Int)) dm_X12_monad_14 (pc' := 15) rfl ?_
  refine pg_st (S' := [ii ((3 + vS v : Nat) : Int), .ref 102]) (congrArg (fun z => ii z :: [.ref 102]) (show 3 + (vsz 7 v : Int) = ((3 + vS v : Nat) : Int) by show _ = ((3 + vsz 7 v : Nat) : Int); omega)) ?_
  have hvS : vS v = vsz 7 v := rfl
  by_cases hW : W < 3 + vS v
  · refine me1 (pc' := 16) (L' := [(4, ii (vk v : Int)), (0, .ref 102), (1, ii verb), (2, ii (hd : Int)), (3, ii place)]) (S' := [ii place, ii ((3 + vS v : Nat) : Int), .ref 102]) dm_X12_monad_15 rfl rfl rfl rfl ?_
    refine x_cv (pc' := 19) (rest := []) dm_X12_monad_16 rfl (q_inv (As := [ii ((3 + vS v : Nat) : Int), ii place]) (S := []) hm rfl rfl rfl) rfl rfl rfl ((by have z := r_takes_ (xt := xt) (d := d - 1) (pre := pre) (post := post) (s := s) (n := ((3 + vS v : Nat) : Int)) (place := place) hm (by omega) he0 hca.1 hca.2 (by omega) (by omega) (by omega); rw [tkS_f (by omega), decide_eq_false (by omega)] at z; exact z)) ?_
    rintro _ _ ⟨rfl, rfl⟩
    refine me_1f (pc' := 22) dm_X12_monad_19 rfl (by decide) rfl ?_
    refine me0 (pc' := 23) (S' := [ii (-1)]) dm_X12_monad_22 rfl rfl rfl rfl ?_
    refine y_ret (r := some (ii (-1))) dm_X12_monad_23 rfl rfl rfl ?_
    refine ⟨_, rfl, ?_⟩
    rw [show dOne (cpS s) W verb v place = dEr (cpS s) W 10 place from dAc_no hW]
    exact tk_no (n := 0) he0 h8 hnd
  · refine me1 (pc' := 16) (L' := [(4, ii (vk v : Int)), (0, .ref 102), (1, ii verb), (2, ii (hd : Int)), (3, ii place)]) (S' := [ii place, ii ((3 + vS v : Nat) : Int), .ref 102]) dm_X12_monad_15 rfl rfl rfl rfl ?_
    refine x_cv (pc' := 19) (rest := []) dm_X12_monad_16 rfl (q_inv (As := [ii ((3 + vS v : Nat) : Int), ii place]) (S := []) hm rfl rfl rfl) rfl rfl rfl ((by have z := r_takes_ (xt := xt) (d := d - 1) (pre := pre) (post := post) (s := s) (n := ((3 + vS v : Nat) : Int)) (place := place) hm (by omega) he0 hca.1 hca.2 (by omega) (by omega) (by omega); rw [tkS_t (by omega), decide_eq_true (by omega)] at z; exact z)) ?_
    rintro _ _ ⟨rfl, rfl⟩
    refine me_1t (pc' := 24) dm_X12_monad_19 rfl (by decide) ?_
    refine me1 (pc' := 25) (L' := [(4, ii (vk v : Int)), (0, .ref 102), (1, ii verb), (2, ii (hd : Int)), (3, ii place)]) (S' := [.ref 102]) dm_X12_monad_24 rfl rfl rfl rfl ?_
    refine me0 (pc' := 26) (S' := [ii 0, .ref 102]) dm_X12_monad_25 rfl rfl rfl rfl ?_
    refine me3 (pc' := 29) (S' := []) (h1 := rI pre post (va_up ((takeS s ((3 + vS v : Nat) : Int)).1) 9 0) ((takeS s ((3 + vS v : Nat) : Int)).2.1) ((takeS s ((3 + vS v : Nat) : Int)).2.2.1) ((takeS s ((3 + vS v : Nat) : Int)).2.2.2)) dm_X12_monad_26 (q_puti hm rfl rfl (fun m i l v => rf_9 m i l v)) rfl rfl rfl ?_
    obtain ⟨s2, hs2⟩ : ∃ s2 : RS, s2 = (va_up (takeS s ((3 + vS v : Nat) : Int)).1 9 0, (takeS s ((3 + vS v : Nat) : Int)).2.1, (takeS s ((3 + vS v : Nat) : Int)).2.2.1, (takeS s ((3 + vS v : Nat) : Int)).2.2.2) := ⟨_, rfl⟩
    have hT := tk_tkd (W := W) hs2 he0 h8 (by omega)
    have hqS : s2.1 4 = (q : Int) := hT.2.2.2.1.trans hq
    have hbS : s2.1 3 = (b : Int) := hT.2.2.1.trans hb
    have heS : s2.1 5 = 0 := hT.2.2.2.2.1
    have hwS : s2.1 13 = (base : Int) := hT.2.2.2.2.2.2.1.trans hw13
    have hcaS : 0 ≤ s2.1 10 ∧ s2.1 10 ≤ 100 := by rw [hT.2.1.1 10 (by decide) (by decide) (by decide) (by decide) (by decide) (by decide) (by decide) (by decide) (by decide) (by decide)]; exact hca
    have hBs : rB s2 := ⟨by omega, by omega, by omega, by omega⟩
    have hvs := rv_ext hT.1 hh3 hv
    have hrs := hRS verb v (rv_wf hv) hz1 hz2
    have hww : W - (3 + vS v) + (3 + vS v) = W := by omega
    refine pg_cast (h2 := rI pre post s2.1 s2.2.1 s2.2.2.1 s2.2.2.2) (by rw [hs2]) ?_
    refine me1 (pc' := 30) (L' := [(4, ii (vk v : Int)), (0, .ref 102), (1, ii verb), (2, ii (hd : Int)), (3, ii place)]) (S' := [ii verb]) dm_X12_monad_29 rfl rfl rfl rfl ?_
    have hsp : s_one verb 6 v = m_sort verb v := by unfold s_one; rw [if_neg (by omega), if_neg (by omega), if_neg (by omega), if_neg (by omega), if_neg (by omega), if_pos (by omega)]
    have hw9 := (rv_wf hv).1
    have h5m : vk v ≤ 5 → vm v ≤ 120 := fun z => by omega
    have h6m : vk v = 6 → 1 ≤ vm v ∧ vm v ≤ 12 := fun z => ⟨(hw9.2.2.2.1 z).1, (hw9.2.2.2.1 z).2.1⟩
    have h6c : vk v = 6 → 1 ≤ vc v := fun z => (hw9.2.2.2.1 z).2.2.1
    have h7m : vk v = 7 → vm v ≤ 24 := fun z => (hw9.2.2.2.2.1 z).1
    refine y_sw (a := verb) (33) (t := 413) (i := .lookupswitch 547 #[(33, 383), (35, 505), (37, 176), (38, 218), (42, 189), (43, 154), (44, 482), (45, 176), (46, 493), (60, 294), (61, 359), (62, 294), (63, 371), (64, 533), (94, 294), (95, 522), (124, 230), (126, 176)]) (len := 154) dm_X12_monad_30 rfl rfl rfl (by omega) (by decide) (fun hb1 => ?_) (fun hb1 => ?_)
    · exfalso; omega
    refine y_sw (a := verb) (35) (t := 535) (i := .lookupswitch 547 #[(33, 383), (35, 505), (37, 176), (38, 218), (42, 189), (43, 154), (44, 482), (45, 176), (46, 493), (60, 294), (61, 359), (62, 294), (63, 371), (64, 533), (94, 294), (95, 522), (124, 230), (126, 176)]) (len := 154) dm_X12_monad_30 rfl rfl rfl (by omega) (by decide) (fun hb2 => ?_) (fun hb2 => ?_)
    · exfalso; omega
    refine y_sw (a := verb) (37) (t := 206) (i := .lookupswitch 547 #[(33, 383), (35, 505), (37, 176), (38, 218), (42, 189), (43, 154), (44, 482), (45, 176), (46, 493), (60, 294), (61, 359), (62, 294), (63, 371), (64, 533), (94, 294), (95, 522), (124, 230), (126, 176)]) (len := 154) dm_X12_monad_30 rfl rfl rfl (by omega) (by decide) (fun hb3 => ?_) (fun hb3 => ?_)
    · exfalso; omega
    refine y_sw (a := verb) (38) (t := 248) (i := .lookupswitch 547 #[(33, 383), (35, 505), (37, 176), (38, 218), (42, 189), (43, 154), (44, 482), (45, 176), (46, 493), (60, 294), (61, 359), (62, 294), (63, 371), (64, 533), (94, 294), (95, 522), (124, 230), (126, 176)]) (len := 154) dm_X12_monad_30 rfl rfl rfl (by omega) (by decide) (fun hb4 => ?_) (fun hb4 => ?_)
    · exfalso; omega
    refine y_sw (a := verb) (42) (t := 219) (i := .lookupswitch 547 #[(33, 383), (35, 505), (37, 176), (38, 218), (42, 189), (43, 154), (44, 482), (45, 176), (46, 493), (60, 294), (61, 359), (62, 294), (63, 371), (64, 533), (94, 294), (95, 522), (124, 230), (126, 176)]) (len := 154) dm_X12_monad_30 rfl rfl rfl (by omega) (by decide) (fun hb5 => ?_) (fun hb5 => ?_)
    · exfalso; omega
    refine y_sw (a := verb) (43) (t := 184) (i := .lookupswitch 547 #[(33, 383), (35, 505), (37, 176), (38, 218), (42, 189), (43, 154), (44, 482), (45, 176), (46, 493), (60, 294), (61, 359), (62, 294), (63, 371), (64, 533), (94, 294), (95, 522), (124, 230), (126, 176)]) (len := 154) dm_X12_monad_30 rfl rfl rfl (by omega) (by decide) (fun hb6 => ?_) (fun hb6 => ?_)
    · exfalso; omega
    refine y_sw (a := verb) (44) (t := 512) (i := .lookupswitch 547 #[(33, 383), (35, 505), (37, 176), (38, 218), (42, 189), (43, 154), (44, 482), (45, 176), (46, 493), (60, 294), (61, 359), (62, 294), (63, 371), (64, 533), (94, 294), (95, 522), (124, 230), (126, 176)]) (len := 154) dm_X12_monad_30 rfl rfl rfl (by omega) (by decide) (fun hb7 => ?_) (fun hb7 => ?_)
    · exfalso; omega
    refine y_sw (a := verb) (45) (t := 206) (i := .lookupswitch 547 #[(33, 383), (35, 505), (37, 176), (38, 218), (42, 189), (43, 154), (44, 482), (45, 176), (46, 493), (60, 294), (61, 359), (62, 294), (63, 371), (64, 533), (94, 294), (95, 522), (124, 230), (126, 176)]) (len := 154) dm_X12_monad_30 rfl rfl rfl (by omega) (by decide) (fun hb8 => ?_) (fun hb8 => ?_)
    · exfalso; omega
    refine y_sw (a := verb) (46) (t := 523) (i := .lookupswitch 547 #[(33, 383), (35, 505), (37, 176), (38, 218), (42, 189), (43, 154), (44, 482), (45, 176), (46, 493), (60, 294), (61, 359), (62, 294), (63, 371), (64, 533), (94, 294), (95, 522), (124, 230), (126, 176)]) (len := 154) dm_X12_monad_30 rfl rfl rfl (by omega) (by decide) (fun hb9 => ?_) (fun hb9 => ?_)
    · exfalso; omega
    refine y_sw (a := verb) (60) (t := 324) (i := .lookupswitch 547 #[(33, 383), (35, 505), (37, 176), (38, 218), (42, 189), (43, 154), (44, 482), (45, 176), (46, 493), (60, 294), (61, 359), (62, 294), (63, 371), (64, 533), (94, 294), (95, 522), (124, 230), (126, 176)]) (len := 154) dm_X12_monad_30 rfl rfl rfl (by omega) (by decide) (fun hb10 => ?_) (fun hb10 => ?_)
    · exfalso; omega
    refine y_sw (a := verb) (61) (t := 389) (i := .lookupswitch 547 #[(33, 383), (35, 505), (37, 176), (38, 218), (42, 189), (43, 154), (44, 482), (45, 176), (46, 493), (60, 294), (61, 359), (62, 294), (63, 371), (64, 533), (94, 294), (95, 522), (124, 230), (126, 176)]) (len := 154) dm_X12_monad_30 rfl rfl rfl (by omega) (by decide) (fun hb11 => ?_) (fun hb11 => ?_)
    · exfalso; omega
    refine y_sw (a := verb) (62) (t := 324) (i := .lookupswitch 547 #[(33, 383), (35, 505), (37, 176), (38, 218), (42, 189), (43, 154), (44, 482), (45, 176), (46, 493), (60, 294), (61, 359), (62, 294), (63, 371), (64, 533), (94, 294), (95, 522), (124, 230), (126, 176)]) (len := 154) dm_X12_monad_30 rfl rfl rfl (by omega) (by decide) (fun hb12 => ?_) (fun hb12 => ?_)
    · exfalso; omega
    refine y_sw (a := verb) (63) (t := 401) (i := .lookupswitch 547 #[(33, 383), (35, 505), (37, 176), (38, 218), (42, 189), (43, 154), (44, 482), (45, 176), (46, 493), (60, 294), (61, 359), (62, 294), (63, 371), (64, 533), (94, 294), (95, 522), (124, 230), (126, 176)]) (len := 154) dm_X12_monad_30 rfl rfl rfl (by omega) (by decide) (fun hb13 => ?_) (fun hb13 => ?_)
    · exfalso; omega
    refine y_sw (a := verb) (64) (t := 563) (i := .lookupswitch 547 #[(33, 383), (35, 505), (37, 176), (38, 218), (42, 189), (43, 154), (44, 482), (45, 176), (46, 493), (60, 294), (61, 359), (62, 294), (63, 371), (64, 533), (94, 294), (95, 522), (124, 230), (126, 176)]) (len := 154) dm_X12_monad_30 rfl rfl rfl (by omega) (by decide) (fun hb14 => ?_) (fun hb14 => ?_)
    · exfalso; omega
    refine y_sw (a := verb) (94) (t := 324) (i := .lookupswitch 547 #[(33, 383), (35, 505), (37, 176), (38, 218), (42, 189), (43, 154), (44, 482), (45, 176), (46, 493), (60, 294), (61, 359), (62, 294), (63, 371), (64, 533), (94, 294), (95, 522), (124, 230), (126, 176)]) (len := 154) dm_X12_monad_30 rfl rfl rfl (by omega) (by decide) (fun hb15 => ?_) (fun hb15 => ?_)
    · refine me1 (pc' := 325) (L' := [(4, ii (vk v : Int)), (0, .ref 102), (1, ii verb), (2, ii (hd : Int)), (3, ii place)]) (S' := [.ref 102]) dm_X12_monad_324 rfl rfl rfl rfl ?_
      refine me1 (pc' := 326) (L' := [(4, ii (vk v : Int)), (0, .ref 102), (1, ii verb), (2, ii (hd : Int)), (3, ii place)]) (S' := [ii (hd : Int), .ref 102]) dm_X12_monad_325 rfl rfl rfl rfl ?_
      refine x_cp (pc' := 329) (v := zz (decide (2 ≤ vk v ∧ vk v ≤ 5))) (rest := []) dm_X12_monad_326 rfl (q_inv (As := [ii (hd : Int)]) (S := []) hm rfl rfl rfl) rfl rfl rfl (r_isRow_ (e := 6) hm (by omega) hBs hvs) ?_
      refine y_zne (c := decide (2 ≤ vk v ∧ vk v ≤ 5)) (t := 339) (pc' := 332) dm_X12_monad_329 rfl rfl (fun hb16 => ?_) (fun hb16 => ?_)
      · replace hb16 := dT hb16
        have hsp2 : s_one verb 6 v = .inr (vpick v (srt (vlt 60 v) (vm v)) (vm v)) := by rw [hsp]; have hv9 : verb = 94 := (by omega); rw [hv9]; unfold m_sort; rw [if_pos (by omega), if_pos rfl, vlt_94]
        clear hsp
        have hsp := hsp2
        refine me1 (pc' := 340) (L' := [(4, ii (vk v : Int)), (0, .ref 102), (1, ii verb), (2, ii (hd : Int)), (3, ii place)]) (S' := [.ref 102]) dm_X12_monad_339 rfl rfl rfl rfl ?_
        refine me1 (pc' := 341) (L' := [(4, ii (vk v : Int)), (0, .ref 102), (1, ii verb), (2, ii (hd : Int)), (3, ii place)]) (S' := [ii (hd : Int), .ref 102]) dm_X12_monad_340 rfl rfl rfl rfl ?_
        refine me1 (pc' := 342) (L' := [(4, ii (vk v : Int)), (0, .ref 102), (1, ii verb), (2, ii (hd : Int)), (3, ii place)]) (S' := [ii verb, ii (hd : Int), .ref 102]) dm_X12_monad_341 rfl rfl rfl rfl ?_
        refine me0 (pc' := 344) (S' := [ii 62, ii verb, ii (hd : Int), .ref 102]) dm_X12_monad_342 rfl rfl rfl rfl ?_
        refine y_2ne (a := verb) (b := 62) (t := 351) (pc' := 347) dm_X12_monad_344 rfl rfl (by omega) (fun hb17 => ?_) (fun hb17 => ?_)
        · refine me0 (pc' := 352) (S' := [ii 0, ii (hd : Int), .ref 102]) dm_X12_monad_351 rfl rfl rfl rfl ?_
          refine x_cn (pc' := 355) (rest := []) dm_X12_monad_352 rfl (q_inv (As := [ii (hd : Int), ii 0]) (S := []) hm rfl rfl rfl) rfl rfl rfl (r_sort_ (e := 6) (q := q) (b := b) (s := s2) (place := place) (c := false) hm (by omega) hBs hvs hh3 hqS hbS hq3 (by omega) heS hcaS (by omega) (by omega) (by omega) (vq_m (by omega))) ?_
          rintro _ ⟨P, rfl, hP⟩
          have hP : ∀ j, j < vm v → P j = ((srt (vlt 60 v) (vm v) j : Nat) : Int) := hP
          have hsl := srt_lt (vlt 60 v) (vm v)
          refine me1 (pc' := 356) (L' := [(4, ii (vk v : Int)), (0, .ref 102), (1, ii verb), (2, ii (hd : Int)), (3, ii place)]) (S' := [.ref 102]) dm_X12_monad_355 rfl rfl rfl rfl ?_
          refine me1 (pc' := 357) (L' := [(4, ii (vk v : Int)), (0, .ref 102), (1, ii verb), (2, ii (hd : Int)), (3, ii place)]) (S' := [ii verb, .ref 102]) dm_X12_monad_356 rfl rfl rfl rfl ?_
          refine me0 (pc' := 359) (S' := [ii 94, ii verb, .ref 102]) dm_X12_monad_357 rfl rfl rfl rfl ?_
          refine y_2ne (a := verb) (b := 94) (t := 375) (pc' := 362) dm_X12_monad_359 rfl rfl (by omega) (fun hb18 => ?_) (fun hb18 => ?_)
          · exfalso; omega
          · refine me1 (pc' := 363) (L' := [(4, ii (vk v : Int)), (0, .ref 102), (1, ii verb), (2, ii (hd : Int)), (3, ii place)]) (S' := [.ref 102, .ref 102]) dm_X12_monad_362 rfl rfl rfl rfl ?_
            refine me1 (pc' := 364) (L' := [(4, ii (vk v : Int)), (0, .ref 102), (1, ii verb), (2, ii (hd : Int)), (3, ii place)]) (S' := [ii (hd : Int), .ref 102, .ref 102]) dm_X12_monad_363 rfl rfl rfl rfl ?_
            refine me1 (pc' := 365) (L' := [(4, ii (vk v : Int)), (0, .ref 102), (1, ii verb), (2, ii (hd : Int)), (3, ii place)]) (S' := [.ref 102, ii (hd : Int), .ref 102, .ref 102]) dm_X12_monad_364 rfl rfl rfl rfl ?_
            refine me1 (pc' := 366) (L' := [(4, ii (vk v : Int)), (0, .ref 102), (1, ii verb), (2, ii (hd : Int)), (3, ii place)]) (S' := [ii (hd : Int), .ref 102, ii (hd : Int), .ref 102, .ref 102]) dm_X12_monad_365 rfl rfl rfl rfl ?_
            refine x_cp (pc' := 369) (v := ii (vm v : Int)) (rest := [ii (hd : Int), .ref 102, .ref 102]) dm_X12_monad_366 rfl (q_inv (As := [ii (hd : Int)]) (S := [ii (hd : Int), .ref 102, .ref 102]) hm rfl rfl rfl) rfl rfl rfl (r_many_ (e := 6) hm (by omega) (rB_ord hBs) (rv_ord hh3 hvs)) ?_
            have hOO : ∀ j, j < vm v → 0 ≤ (ordS s2 P).2.2.1 14 j ∧ (ordS s2 P).2.2.1 14 j < (vm v : Int) := fun j hj => by rw [ordS_14, hP j (by omega)]; have := hsl j hj; omega
            refine x_cv (pc' := 372) (rest := [.ref 102]) dm_X12_monad_369 rfl (q_inv (As := [ii (hd : Int), ii (vm v : Int)]) (S := [.ref 102]) hm rfl rfl rfl) rfl rfl rfl (r_picked_ (e := 6) (q := q) (b := b) (n := vm v) (s := (ordS s2 P)) (place := place) hm (by omega) (rB_ord hBs) (rv_ord hh3 hvs) hh3 hqS hbS hq3 (by omega) heS h5m h6m h7m (by omega) hOO) ?_
            rintro x1 g1 hres
            have hr2 := rres_up (rres_bk (rpre_ord s2 P) (rres_ve (vpick_congr (o' := (srt (vlt 60 v) (vm v))) h6c (fun j hj => by rw [ordS_14, hP j (by omega)]; rfl)) hres)) (pcl_144 hw9) (Nat.le_refl 1)
            have hG : rG pre post s2 8 (.inr (vpick v (srt (vlt 60 v) (vm v)) (vm v))) place (rcb (.inr (vpick v (srt (vlt 60 v) (vm v)) (vm v))) 144) (rvb (.inr (vpick v (srt (vlt 60 v) (vm v)) (vm v))) 1) x1 g1 := rG_up (rG_r hr2)
            obtain ⟨z1, rfl⟩ := rG_ii hG
            obtain ⟨t1, rfl⟩ := rG_st hG
            refine me2 (pc' := 384) (S' := [ii z1, .ref 102]) dm_X12_monad_372 rfl rfl rfl ?_
            refine me1 (pc' := 385) (L' := [(4, ii (vk v : Int)), (0, .ref 102), (1, ii verb), (2, ii (hd : Int)), (3, ii place)]) (S' := [ii place, ii z1, .ref 102]) dm_X12_monad_384 rfl rfl rfl rfl ?_
            refine x_cv (pc' := 388) (rest := []) dm_X12_monad_385 rfl (q_inv (As := [ii z1, ii place]) (S := []) hm rfl rfl rfl) rfl rfl rfl (r_mdo1 (s := s) (s2 := s2) (W2 := W - (3 + vS v)) (cost := 3 + vS v) (cb := 144) (o := .inr (vpick v (srt (vlt 60 v) (vm v)) (vm v))) (c := 4) (nd := nd) hm (by omega) hT hB0 hG hca (by omega) hnd (fun n hn => hrs.1 n (hsp.trans hn)) (fun r hr => hrs.2 r (hsp.trans hr)) (by omega) (by omega) (by omega)) ?_
            rintro x9 g9 hfin
            obtain ⟨z9, rfl⟩ := dres_ii hfin
            obtain ⟨t9, rfl⟩ := dres_st hfin
            refine y_ret (r := some (ii z9)) dm_X12_monad_388 rfl rfl rfl ?_
            have e9 : dOne (cpS s) W verb v place = dMo (cpS s) (W - (3 + vS v)) 0 (.inr (vpick v (srt (vlt 60 v) (vm v)) (vm v))) place := by unfold dOne; rw [dAc_mo (by omega), hsp]
            rw [hww] at hfin
            rw [e9]
            exact ⟨_, rfl, hfin⟩
        · exfalso; omega
      · replace hb16 := dF hb16
        have hsp2 : s_one verb 6 v = .inl 3 := by rw [hsp]; unfold m_sort; rw [if_neg (by omega)]
        clear hsp
        have hsp := hsp2
        refine me1 (pc' := 333) (L' := [(4, ii (vk v : Int)), (0, .ref 102), (1, ii verb), (2, ii (hd : Int)), (3, ii place)]) (S' := [.ref 102]) dm_X12_monad_332 rfl rfl rfl rfl ?_
        refine me0 (pc' := 334) (S' := [ii 3, .ref 102]) dm_X12_monad_333 rfl rfl rfl rfl ?_
        refine me1 (pc' := 335) (L' := [(4, ii (vk v : Int)), (0, .ref 102), (1, ii verb), (2, ii (hd : Int)), (3, ii place)]) (S' := [ii place, ii 3, .ref 102]) dm_X12_monad_334 rfl rfl rfl rfl ?_
        refine x_cv (pc' := 338) (rest := []) dm_X12_monad_335 rfl (q_inv (As := [ii 3, ii place]) (S := []) hm rfl rfl rfl) rfl rfl rfl (r_fail_ (s := s2) hm (by omega) heS hcaS.1 hcaS.2) ?_
        rintro _ _ ⟨rfl, rfl⟩
        refine y_ret (r := some (ii (-1))) dm_X12_monad_338 rfl rfl rfl ?_
        have e9 : dOne (cpS s) W verb v place = dEr (cpS s) (W - (3 + vS v)) 3 place := by unfold dOne; rw [dAc_mo (by omega), hsp]; rfl
        have hfin := dres_fl (pre := pre) (post := post) (c := 4) (nd := nd) (e := 3) (pl := place) hT (by omega) hnd
        rw [hww] at hfin
        rw [e9]
        exact ⟨_, rfl, hfin⟩
    refine y_sw (a := verb) (95) (t := 552) (i := .lookupswitch 547 #[(33, 383), (35, 505), (37, 176), (38, 218), (42, 189), (43, 154), (44, 482), (45, 176), (46, 493), (60, 294), (61, 359), (62, 294), (63, 371), (64, 533), (94, 294), (95, 522), (124, 230), (126, 176)]) (len := 154) dm_X12_monad_30 rfl rfl rfl (by omega) (by decide) (fun hb19 => ?_) (fun hb19 => ?_)
    · exfalso; omega
    refine y_sw (a := verb) (124) (t := 260) (i := .lookupswitch 547 #[(33, 383), (35, 505), (37, 176), (38, 218), (42, 189), (43, 154), (44, 482), (45, 176), (46, 493), (60, 294), (61, 359), (62, 294), (63, 371), (64, 533), (94, 294), (95, 522), (124, 230), (126, 176)]) (len := 154) dm_X12_monad_30 rfl rfl rfl (by omega) (by decide) (fun hb20 => ?_) (fun hb20 => ?_)
    · exfalso; omega
    refine y_sw (a := verb) (126) (t := 206) (i := .lookupswitch 547 #[(33, 383), (35, 505), (37, 176), (38, 218), (42, 189), (43, 154), (44, 482), (45, 176), (46, 493), (60, 294), (61, 359), (62, 294), (63, 371), (64, 533), (94, 294), (95, 522), (124, 230), (126, 176)]) (len := 154) dm_X12_monad_30 rfl rfl rfl (by omega) (by decide) (fun hb21 => ?_) (fun hb21 => ?_)
    · exfalso; omega
    exfalso; omega
