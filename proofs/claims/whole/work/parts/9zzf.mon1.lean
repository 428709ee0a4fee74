/-! the reference: monad -/
theorem dAc_mo {cp : Option Int} {W cost : Nat} {o : Nat ⊕ VV} {pl : Int} (h : cost ≤ W) : dAc cp W cost o pl = dMo cp (W - cost) 0 o pl := by
  unfold dAc dTk
  rw [if_neg (by omega)]
  cases o <;> rfl
theorem dAc_no {cp : Option Int} {W cost : Nat} {o : Nat ⊕ VV} {pl : Int} (h : W < cost) : dAc cp W cost o pl = dEr cp W 10 pl := if_pos h
theorem r_mdo1 {xt : mj_X} {d : Nat} {pre post : mj_H} {s s2 : RS} {W2 cost cb : Nat} {o : Nat ⊕ VV} {place c nd z : Int} {h1 : mj_H} (hm : pre.length = 102) (hd1 : 40 ≤ d) (hT : tkd s s2 W2 cost ((0 : Nat) : Int)) (hB : rB s) (hG : rG pre post s2 8 o place (rcb o cb) (rvb o 1) (ii z) h1) (hca : 0 ≤ s.1 10 ∧ s.1 10 ≤ 100) (hW2 : W2 ≤ 500000) (hnd : 0 ≤ nd) (hN : ∀ n, o = .inl n → 1 ≤ n ∧ n ≤ 100) (hS : ∀ r, o = .inr r → vw1 r ∧ vsz 8 r ≤ 500000) (hc : c + 2 ≤ 3 * (cost : Int)) (hcb : cb ≤ 300) (hrm : s.1 3 + 300 ≤ 820000 ∧ s.1 4 + 10 ≤ 310000) : pgV xt d 246 [.ref 102, ii z, ii place] h1 (dres pre post s (W2 + cost) c nd (dMo (cpS s) W2 0 o place)) := by
  have u1 := rcb_le (o := o) (cb := cb)
  have u2 := rvb_le (o := o) (vb := 1)
  refine r_mdo hm hd1 hT hB hG hca (by omega) hW2 hnd hN (fun v hv => (hS v hv).2) (by omega) (by omega) (by omega) (fun v hv _ _ => ?_)
  have z : vcl v ≤ vsz 7 v := vcl_sz (d := 5) (hS v hv).1
  have z1 : 1 ≤ vsz 7 v := vsz_ge1 (d := 6)
  have z2 : rcb o cb ≤ vcl v := by rw [hv]; exact Nat.min_le_right _ _
  omega
theorem rG_up2 {pre post : mj_H} {s : RS} {e C V C' V' : Nat} {o : Nat ⊕ VV} {place : Int} {x : Value} {h' : mj_H} (h : rG pre post s e o place C V x h') (h1 : C ≤ C') (h2 : V ≤ V') : rG pre post s e o place C' V' x h' := by
  obtain ⟨s1, a1, a2, a3, a4, a5, a6⟩ := h
  exact ⟨s1, a1, a2, a3, by omega, by omega, a6⟩
set_option maxRecDepth 20000 in
theorem pm_X12_monad : mj_mmof pg_ms 281 = some ((⟨"ArrayCalculatorModel", "monad", "(III)I"⟩, prog_14_method_29_code, 6, (Option.some Jvm.ClassFile.FieldType.int)), 12, false, mj_dec prog_14_method_29_code) := rfl
theorem dm_X12_monad_0 : mj_dec prog_14_method_29_code 0 = some (.aload_n 0, 1) := by decide +kernel
theorem dm_X12_monad_1 : mj_dec prog_14_method_29_code 1 = some (.iload_n 2, 1) := by decide +kernel
theorem dm_X12_monad_2 : mj_dec prog_14_method_29_code 2 = some (.invokevirtual 146, 3) := by decide +kernel
theorem dm_X12_monad_5 : mj_dec prog_14_method_29_code 5 = some (.istore 4, 2) := by decide +kernel
theorem dm_X12_monad_7 : mj_dec prog_14_method_29_code 7 = some (.aload_n 0, 1) := by decide +kernel
theorem dm_X12_monad_8 : mj_dec prog_14_method_29_code 8 = some (.iconst 3, 1) := by decide +kernel
theorem dm_X12_monad_9 : mj_dec prog_14_method_29_code 9 = some (.aload_n 0, 1) := by decide +kernel
theorem dm_X12_monad_10 : mj_dec prog_14_method_29_code 10 = some (.iload_n 2, 1) := by decide +kernel
theorem dm_X12_monad_11 : mj_dec prog_14_method_29_code 11 = some (.invokevirtual 165, 3) := by decide +kernel
theorem dm_X12_monad_14 : mj_dec prog_14_method_29_code 14 = some (.iadd, 1) := by decide +kernel
theorem dm_X12_monad_15 : mj_dec prog_14_method_29_code 15 = some (.iload_n 3, 1) := by decide +kernel
theorem dm_X12_monad_16 : mj_dec prog_14_method_29_code 16 = some (.invokevirtual 199, 3) := by decide +kernel
theorem dm_X12_monad_19 : mj_dec prog_14_method_29_code 19 = some (.ifCond .ne 5, 3) := by decide +kernel
theorem dm_X12_monad_22 : mj_dec prog_14_method_29_code 22 = some (.iconst (-1), 1) := by decide +kernel
theorem dm_X12_monad_23 : mj_dec prog_14_method_29_code 23 = some (.ireturn, 1) := by decide +kernel
theorem dm_X12_monad_24 : mj_dec prog_14_method_29_code 24 = some (.aload_n 0, 1) := by decide +kernel
theorem dm_X12_monad_25 : mj_dec prog_14_method_29_code 25 = some (.iconst 0, 1) := by decide +kernel
theorem dm_X12_monad_26 : mj_dec prog_14_method_29_code 26 = some (.putfield 196, 3) := by decide +kernel
theorem dm_X12_monad_29 : mj_dec prog_14_method_29_code 29 = some (.iload_n 1, 1) := by decide +kernel
theorem dm_X12_monad_30 : mj_dec prog_14_method_29_code 30 = some (.lookupswitch 547 #[(33, 383), (35, 505), (37, 176), (38, 218), (42, 189), (43, 154), (44, 482), (45, 176), (46, 493), (60, 294), (61, 359), (62, 294), (63, 371), (64, 533), (94, 294), (95, 522), (124, 230), (126, 176)], 154) := by decide +kernel
theorem dm_X12_monad_248 : mj_dec prog_14_method_29_code 248 = some (.aload_n 0, 1) := by decide +kernel
theorem dm_X12_monad_249 : mj_dec prog_14_method_29_code 249 = some (.aload_n 0, 1) := by decide +kernel
theorem dm_X12_monad_250 : mj_dec prog_14_method_29_code 250 = some (.iload_n 2, 1) := by decide +kernel
theorem dm_X12_monad_251 : mj_dec prog_14_method_29_code 251 = some (.iload_n 3, 1) := by decide +kernel
theorem dm_X12_monad_252 : mj_dec prog_14_method_29_code 252 = some (.invokevirtual 220, 3) := by decide +kernel
theorem dm_X12_monad_255 : mj_dec prog_14_method_29_code 255 = some (.iload_n 3, 1) := by decide +kernel
theorem dm_X12_monad_256 : mj_dec prog_14_method_29_code 256 = some (.invokevirtual 208, 3) := by decide +kernel
theorem dm_X12_monad_259 : mj_dec prog_14_method_29_code 259 = some (.ireturn, 1) := by decide +kernel
theorem r_mon38 {xt : mj_X} {d hd q b base W : Nat} {pre post : mj_H} {s : RS} {v : VV} {place nd verb : Int} (hm : pre.length = 102) (hd1 : 60 ≤ d) (hRS : RSO) (hB : rB s) (hv : rv s 7 hd v) (hh3 : 3 ≤ hd) (hz1 : vsz 7 v ≤ 1000) (hz2 : vlv 7 v ≤ 5) (hq : s.1 4 = (q : Int)) (hb : s.1 3 = (b : Int)) (hq3 : 3 ≤ q) (hV2 : q + 2100 < 310000) (he0 : s.1 5 = 0) (hca : 0 ≤ s.1 10 ∧ s.1 10 ≤ 100) (hC : b + 291000 ≤ 820000) (hw13 : s.1 13 = (base : Int)) (hbs : base ≤ 7900) (h8 : s.1 8 = (W : Int)) (hW5 : W ≤ 500000) (hnd : 0 ≤ nd) (hvb : verb = 38) : pgV xt d 281 [.ref 102, ii verb, ii (hd : Int), ii place] (rS pre post s) (dres pre post s W 4 nd (dOne (cpS s) W verb v place)) := by
  have hB0 := hB
  obtain ⟨hB1, hB2, hB3, hB4⟩ := hB
  obtain ⟨fr, hfr, hsh, hlt, hcl, hvk, hvm, hvc, hvq, hvcl⟩ := rv_val hv
  have hvb2 : -2147483648 ≤ verb ∧ verb ≤ 2147483647 := by omega
  refine x_enter pm_X12_monad (L0 := [(0, .ref 102), (1, ii verb), (2, ii (hd : Int)), (3, ii place)]) rfl (Nat.le_of_ble_eq_true rfl) (by omega) ?_
  refine me1 (pc' := 1) (L' := [(0, .ref 102), (1, ii verb), (2, ii (hd : Int)), (3, ii place)]) (S' := [.ref 102]) dm_X12_monad_0 rfl rfl rfl rfl ?_
  refine me1 (pc' := 2) (L' := [(0, .ref 102), (1, ii verb), (2, ii (hd : Int)), (3, ii place)]) (S' := [ii (hd : Int), .ref 102]) dm_X12_monad_1 rfl rfl rfl rfl ?_
  refine x_cp (pc' := 5) (v := ii (vk v : Int)) (rest := []) dm_X12_monad_2 rfl (q_inv (As := [ii (hd : Int)]) (S := []) hm rfl rfl rfl) rfl rfl rfl (r_kindOf_ (e := 6) hm (by omega) hB0 hv) ?_
  refine me1 (pc' := 7) (L' := [(4, ii (vk v : Int)), (0, .ref 102), (1, ii verb), (2, ii (hd : Int)), (3, ii place)]) (S' := []) dm_X12_monad_5 rfl rfl rfl rfl ?_
  refine me1 (pc' := 8) (L' := [(4, ii (vk v : Int)), (0, .ref 102), (1, ii verb), (2, ii (hd : Int)), (3, ii place)]) (S' := [.ref 102]) dm_X12_monad_7 rfl rfl rfl rfl ?_
  refine me0 (pc' := 9) (S' := [ii 3, .ref 102]) dm_X12_monad_8 rfl rfl rfl rfl ?_
  refine me1 (pc' := 10) (L' := [(4, ii (vk v : Int)), (0, .ref 102), (1, ii verb), (2, ii (hd : Int)), (3, ii place)]) (S' := [.ref 102, ii 3, .ref 102]) dm_X12_monad_9 rfl rfl rfl rfl ?_
  refine me1 (pc' := 11) (L' := [(4, ii (vk v : Int)), (0, .ref 102), (1, ii verb), (2, ii (hd : Int)), (3, ii place)]) (S' := [ii (hd : Int), .ref 102, ii 3, .ref 102]) dm_X12_monad_10 rfl rfl rfl rfl ?_
  refine x_cp (pc' := 14) (v := ii (vsz 7 v : Int)) (rest := [ii 3, .ref 102]) dm_X12_monad_11 rfl (q_inv (As := [ii (hd : Int)]) (S := [ii 3, .ref 102]) hm rfl rfl rfl) rfl rfl rfl (r_sizeOf_ hm hB0 7 (by omega) hv) ?_
  refine y_iadd (a := 3) (b := (vsz 7 v : Int)) dm_X12_monad_14 (pc' := 15) rfl ?_
  refine pg_st (S' := [ii ((3 + vS v : Nat) : Int), .ref 102]) (congrArg (fun z => ii z :: [.ref 102]) (show 3 + (vsz 7 v : Int) = ((3 + vS v : Nat) : Int) by show _ = ((3 + vsz 7 v : Nat) : Int); omega)) ?_
  have hvS : vS v = vsz 7 v := rfl
  by_cases hW : W < 3 + vS v
  · refine me1 (pc' := 16) (L' := [(4, ii (vk v : Int)), (0, .ref 102), (1, ii verb), (2, ii (hd : Int)), (3, ii place)]) (S' := [ii place, ii ((3 + vS v : Nat) : Int), .ref 102]) dm_X12_monad_15 rfl rfl rfl rfl ?_
    refine x_cv (pc' := 19) (rest := []) dm_X12_monad_16 rfl (q_inv (As := [ii ((3 + vS v : Nat) : Int), ii place]) (S := []) hm rfl rfl rfl) rfl rfl rfl ((by have z := r_takes_ (xt := xt) (d := d - 1) (pre := pre) (post := post) (s := s) (n := ((3 + vS v : Nat) : Int)) (place := place) hm (by omega) he0 hca.1 hca.2 (by omega) (by omega) (by omega); rw [tkS_f (by omega), decide_eq_false (by omega)] at z; exact z)) ?_
    rintro _ _ ⟨rfl, rfl⟩
    refine me_1f (pc' := 22) dm_X12_monad_19 rfl (by decide) rfl ?_
    refine me0 (pc' := 23) (S' := [ii (-1)]) dm_X12_monad_22 rfl rfl rfl rfl ?_
    refine y_ret (r := some (ii (-1))) dm_X12_monad_23 rfl rfl rfl ?_
    refine ⟨_, rfl, ?_⟩
    rw [show dOne (cpS s) W verb v place = dEr (cpS s) W 10 place from dAc_no hW]
    exact tk_no (n := 0) he0 h8 hnd
  · refine me1 (pc' := 16) (L' := [(4, ii (vk v : Int)), (0, .ref 102), (1, ii verb), (2, ii (hd : Int)), (3, ii place)]) (S' := [ii place, ii ((3 + vS v : Nat) : Int), .ref 102]) dm_X12_monad_15 rfl rfl rfl rfl ?_
    refine x_cv (pc' := 19) (rest := []) dm_X12_monad_16 rfl (q_inv (As := [ii ((3 + vS v : Nat) : Int), ii place]) (S := []) hm rfl rfl rfl) rfl rfl rfl ((by have z := r_takes_ (xt := xt) (d := d - 1) (pre := pre) (post := post) (s := s) (n := ((3 + vS v : Nat) : Int)) (place := place) hm (by omega) he0 hca.1 hca.2 (by omega) (by omega) (by omega); rw [tkS_t (by omega), decide_eq_true (by omega)] at z; exact z)) ?_
    rintro _ _ ⟨rfl, rfl⟩
    refine me_1t (pc' := 24) dm_X12_monad_19 rfl (by decide) ?_
    refine me1 (pc' := 25) (L' := [(4, ii (vk v : Int)), (0, .ref 102), (1, ii verb), (2, ii (hd : Int)), (3, ii place)]) (S' := [.ref 102]) dm_X12_monad_24 rfl rfl rfl rfl ?_
    refine me0 (pc' := 26) (S' := [ii 0, .ref 102]) dm_X12_monad_25 rfl rfl rfl rfl ?_
    refine me3 (pc' := 29) (S' := []) (h1 := rI pre post (va_up ((takeS s ((3 + vS v : Nat) : Int)).1) 9 0) ((takeS s ((3 + vS v : Nat) : Int)).2.1) ((takeS s ((3 + vS v : Nat) : Int)).2.2.1) ((takeS s ((3 + vS v : Nat) : Int)).2.2.2)) dm_X12_monad_26 (q_puti hm rfl rfl (fun m i l v => rf_9 m i l v)) rfl rfl rfl ?_
    obtain ⟨s2, hs2⟩ : ∃ s2 : RS, s2 = (va_up (takeS s ((3 + vS v : Nat) : Int)).1 9 0, (takeS s ((3 + vS v : Nat) : Int)).2.1, (takeS s ((3 + vS v : Nat) : Int)).2.2.1, (takeS s ((3 + vS v : Nat) : Int)).2.2.2) := ⟨_, rfl⟩
    have hT := tk_tkd (W := W) hs2 he0 h8 (by omega)
    have hqS : s2.1 4 = (q : Int) := hT.2.2.2.1.trans hq
    have hbS : s2.1 3 = (b : Int) := hT.2.2.1.trans hb
    have heS : s2.1 5 = 0 := hT.2.2.2.2.1
    have hwS : s2.1 13 = (base : Int) := hT.2.2.2.2.2.2.1.trans hw13
    have hcaS : 0 ≤ s2.1 10 ∧ s2.1 10 ≤ 100 := by rw [hT.2.1.1 10 (by decide) (by decide) (by decide) (by decide) (by decide) (by decide) (by decide) (by decide) (by decide) (by decide)]; exact hca
    have hBs : rB s2 := ⟨by omega, by omega, by omega, by omega⟩
    have hvs := rv_ext hT.1 hh3 hv
    have hrs := hRS verb v (rv_wf hv) hz1 hz2
    have hww : W - (3 + vS v) + (3 + vS v) = W := by omega
    refine pg_cast (h2 := rI pre post s2.1 s2.2.1 s2.2.2.1 s2.2.2.2) (by rw [hs2]) ?_
    refine me1 (pc' := 30) (L' := [(4, ii (vk v : Int)), (0, .ref 102), (1, ii verb), (2, ii (hd : Int)), (3, ii place)]) (S' := [ii verb]) dm_X12_monad_29 rfl rfl rfl rfl ?_
    have hsp : s_one verb 6 v = m_where v := by unfold s_one; rw [if_neg (by omega), if_neg (by omega), if_neg (by omega), if_pos (by omega)]
    refine y_sw (a := verb) (33) (t := 413) (i := .lookupswitch 547 #[(33, 383), (35, 505), (37, 176), (38, 218), (42, 189), (43, 154), (44, 482), (45, 176), (46, 493), (60, 294), (61, 359), (62, 294), (63, 371), (64, 533), (94, 294), (95, 522), (124, 230), (126, 176)]) (len := 154) dm_X12_monad_30 rfl rfl rfl (by omega) (by decide) (fun hb1 => ?_) (fun hb1 => ?_)
    · exfalso; omega
    refine y_sw (a := verb) (35) (t := 535) (i := .lookupswitch 547 #[(33, 383), (35, 505), (37, 176), (38, 218), (42, 189), (43, 154), (44, 482), (45, 176), (46, 493), (60, 294), (61, 359), (62, 294), (63, 371), (64, 533), (94, 294), (95, 522), (124, 230), (126, 176)]) (len := 154) dm_X12_monad_30 rfl rfl rfl (by omega) (by decide) (fun hb2 => ?_) (fun hb2 => ?_)
    · exfalso; omega
    refine y_sw (a := verb) (37) (t := 206) (i := .lookupswitch 547 #[(33, 383), (35, 505), (37, 176), (38, 218), (42, 189), (43, 154), (44, 482), (45, 176), (46, 493), (60, 294), (61, 359), (62, 294), (63, 371), (64, 533), (94, 294), (95, 522), (124, 230), (126, 176)]) (len := 154) dm_X12_monad_30 rfl rfl rfl (by omega) (by decide) (fun hb3 => ?_) (fun hb3 => ?_)
    · exfalso; omega
    refine y_sw (a := verb) (38) (t := 248) (i := .lookupswitch 547 #[(33, 383), (35, 505), (37, 176), (38, 218), (42, 189), (43, 154), (44, 482), (45, 176), (46, 493), (60, 294), (61, 359), (62, 294), (63, 371), (64, 533), (94, 294), (95, 522), (124, 230), (126, 176)]) (len := 154) dm_X12_monad_30 rfl rfl rfl (by omega) (by decide) (fun hb4 => ?_) (fun hb4 => ?_)
    · refine me1 (pc' := 249) (L' := [(4, ii (vk v : Int)), (0, .ref 102), (1, ii verb), (2, ii (hd : Int)), (3, ii place)]) (S' := [.ref 102]) dm_X12_monad_248 rfl rfl rfl rfl ?_
      refine me1 (pc' := 250) (L' := [(4, ii (vk v : Int)), (0, .ref 102), (1, ii verb), (2, ii (hd : Int)), (3, ii place)]) (S' := [.ref 102, .ref 102]) dm_X12_monad_249 rfl rfl rfl rfl ?_
      refine me1 (pc' := 251) (L' := [(4, ii (vk v : Int)), (0, .ref 102), (1, ii verb), (2, ii (hd : Int)), (3, ii place)]) (S' := [ii (hd : Int), .ref 102, .ref 102]) dm_X12_monad_250 rfl rfl rfl rfl ?_
      refine me1 (pc' := 252) (L' := [(4, ii (vk v : Int)), (0, .ref 102), (1, ii verb), (2, ii (hd : Int)), (3, ii place)]) (S' := [ii place, ii (hd : Int), .ref 102, .ref 102]) dm_X12_monad_251 rfl rfl rfl rfl ?_
      refine x_cv (pc' := 255) (rest := [.ref 102]) dm_X12_monad_252 rfl (q_inv (As := [ii (hd : Int), ii place]) (S := [.ref 102]) hm rfl rfl rfl) rfl rfl rfl (r_where_ (e := 6) (q := q) (b := b) (s := s2) (place := place) hm (by omega) hBs hvs hh3 hqS hbS hq3 (by omega) heS hcaS (by omega)) ?_
      rintro x1 g1 hres
      have hG : rG pre post s2 8 (m_where v) place (rcb (m_where v) 120) (rvb (m_where v) 1) x1 g1 := rG_up (rG_r hres)
      obtain ⟨z1, rfl⟩ := rG_ii hG
      obtain ⟨t1, rfl⟩ := rG_st hG
      refine me1 (pc' := 256) (L' := [(4, ii (vk v : Int)), (0, .ref 102), (1, ii verb), (2, ii (hd : Int)), (3, ii place)]) (S' := [ii place, ii z1, .ref 102]) dm_X12_monad_255 rfl rfl rfl rfl ?_
      refine x_cv (pc' := 259) (rest := []) dm_X12_monad_256 rfl (q_inv (As := [ii z1, ii place]) (S := []) hm rfl rfl rfl) rfl rfl rfl (r_mdo1 (s := s) (s2 := s2) (W2 := W - (3 + vS v)) (cost := 3 + vS v) (cb := 120) (o := m_where v) (c := 4) (nd := nd) hm (by omega) hT hB0 hG hca (by omega) hnd (fun n hn => hrs.1 n (hsp.trans hn)) (fun r hr => hrs.2 r (hsp.trans hr)) (by omega) (by omega) (by omega)) ?_
      rintro x9 g9 hfin
      obtain ⟨z9, rfl⟩ := dres_ii hfin
      obtain ⟨t9, rfl⟩ := dres_st hfin
      refine y_ret (r := some (ii z9)) dm_X12_monad_259 rfl rfl rfl ?_
      have e9 : dOne (cpS s) W verb v place = dMo (cpS s) (W - (3 + vS v)) 0 (m_where v) place := by unfold dOne; rw [dAc_mo (by omega), hsp]
      rw [hww] at hfin
      rw [e9]
      exact ⟨_, rfl, hfin⟩
    refine y_sw (a := verb) (42) (t := 219) (i := .lookupswitch 547 #[(33, 383), (35, 505), (37, 176), (38, 218), (42, 189), (43, 154), (44, 482), (45, 176), (46, 493), (60, 294), (61, 359), (62, 294), (63, 371), (64, 533), (94, 294), (95, 522), (124, 230), (126, 176)]) (len := 154) dm_X12_monad_30 rfl rfl rfl (by omega) (by decide) (fun hb5 => ?_) (fun hb5 => ?_)
    · exfalso; omega
    refine y_sw (a := verb) (43) (t := 184) (i := .lookupswitch 547 #[(33, 383), (35, 505), (37, 176), (38, 218), (42, 189), (43, 154), (44, 482), (45, 176), (46, 493), (60, 294), (61, 359), (62, 294), (63, 371), (64, 533), (94, 294), (95, 522), (124, 230), (126, 176)]) (len := 154) dm_X12_monad_30 rfl rfl rfl (by omega) (by decide) (fun hb6 => ?_) (fun hb6 => ?_)
    · exfalso; omega
    refine y_sw (a := verb) (44) (t := 512) (i := .lookupswitch 547 #[(33, 383), (35, 505), (37, 176), (38, 218), (42, 189), (43, 154), (44, 482), (45, 176), (46, 493), (60, 294), (61, 359), (62, 294), (63, 371), (64, 533), (94, 294), (95, 522), (124, 230), (126, 176)]) (len := 154) dm_X12_monad_30 rfl rfl rfl (by omega) (by decide) (fun hb7 => ?_) (fun hb7 => ?_)
    · exfalso; omega
    refine y_sw (a := verb) (45) (t := 206) (i := .lookupswitch 547 #[(33, 383), (35, 505), (37, 176), (38, 218), (42, 189), (43, 154), (44, 482), (45, 176), (46, 493), (60, 294), (61, 359), (62, 294), (63, 371), (64, 533), (94, 294), (95, 522), (124, 230), (126, 176)]) (len := 154) dm_X12_monad_30 rfl rfl rfl (by omega) (by decide) (fun hb8 => ?_) (fun hb8 => ?_)
    · exfalso; omega
    refine y_sw (a := verb) (46) (t := 523) (i := .lookupswitch 547 #[(33, 383), (35, 505), (37, 176), (38, 218), (42, 189), (43, 154), (44, 482), (45, 176), (46, 493), (60, 294), (61, 359), (62, 294), (63, 371), (64, 533), (94, 294), (95, 522), (124, 230), (126, 176)]) (len := 154) dm_X12_monad_30 rfl rfl rfl (by omega) (by decide) (fun hb9 => ?_) (fun hb9 => ?_)
    · exfalso; omega
    refine y_sw (a := verb) (60) (t := 324) (i := .lookupswitch 547 #[(33, 383), (35, 505), (37, 176), (38, 218), (42, 189), (43, 154), (44, 482), (45, 176), (46, 493), (60, 294), (61, 359), (62, 294), (63, 371), (64, 533), (94, 294), (95, 522), (124, 230), (126, 176)]) (len := 154) dm_X12_monad_30 rfl rfl rfl (by omega) (by decide) (fun hb10 => ?_) (fun hb10 => ?_)
    · exfalso; omega
    refine y_sw (a := verb) (61) (t := 389) (i := .lookupswitch 547 #[(33, 383), (35, 505), (37, 176), (38, 218), (42, 189), (43, 154), (44, 482), (45, 176), (46, 493), (60, 294), (61, 359), (62, 294), (63, 371), (64, 533), (94, 294), (95, 522), (124, 230), (126, 176)]) (len := 154) dm_X12_monad_30 rfl rfl rfl (by omega) (by decide) (fun hb11 => ?_) (fun hb11 => ?_)
    · exfalso; omega
    refine y_sw (a := verb) (62) (t := 324) (i := .lookupswitch 547 #[(33, 383), (35, 505), (37, 176), (38, 218), (42, 189), (43, 154), (44, 482), (45, 176), (46, 493), (60, 294), (61, 359), (62, 294), (63, 371), (64, 533), (94, 294), (95, 522), (124, 230), (126, 176)]) (len := 154) dm_X12_monad_30 rfl rfl rfl (by omega) (by decide) (fun hb12 => ?_) (fun hb12 => ?_)
    · exfalso; omega
    refine y_sw (a := verb) (63) (t := 401) (i := .lookupswitch 547 #[(33, 383), (35, 505), (37, 176), (38, 218), (42, 189), (43, 154), (44, 482), (45, 176), (46, 493), (60, 294), (61, 359), (62, 294), (63, 371), (64, 533), (94, 294), (95, 522), (124, 230), (126, 176)]) (len := 154) dm_X12_monad_30 rfl rfl rfl (by omega) (by decide) (fun hb13 => ?_) (fun hb13 => ?_)
    · exfalso; omega
    refine y_sw (a := verb) (64) (t := 563) (i := .lookupswitch 547 #[(33, 383), (35, 505), (37, 176), (38, 218), (42, 189), (43, 154), (44, 482), (45, 176), (46, 493), (60, 294), (61, 359), (62, 294), (63, 371), (64, 533), (94, 294), (95, 522), (124, 230), (126, 176)]) (len := 154) dm_X12_monad_30 rfl rfl rfl (by omega) (by decide) (fun hb14 => ?_) (fun hb14 => ?_)
    · exfalso; omega
    refine y_sw (a := verb) (94) (t := 324) (i := .lookupswitch 547 #[(33, 383), (35, 505), (37, 176), (38, 218), (42, 189), (43, 154), (44, 482), (45, 176), (46, 493), (60, 294), (61, 359), (62, 294), (63, 371), (64, 533), (94, 294), (95, 522), (124, 230), (126, 176)]) (len := 154) dm_X12_monad_30 rfl rfl rfl (by omega) (by decide) (fun hb15 => ?_) (fun hb15 => ?_)
    · exfalso; omega
    refine y_sw (a := verb) (95) (t := 552) (i := .lookupswitch 547 #[(33, 383), (35, 505), (37, 176), (38, 218), (42, 189), (43, 154), (44, 482), (45, 176), (46, 493), (60, 294), (61, 359), (62, 294), (63, 371), (64, 533), (94, 294), (95, 522), (124, 230), (126, 176)]) (len := 154) dm_X12_monad_30 rfl rfl rfl (by omega) (by decide) (fun hb16 => ?_) (fun hb16 => ?_)
    · exfalso; omega
    refine y_sw (a := verb) (124) (t := 260) (i := .lookupswitch 547 #[(33, 383), (35, 505), (37, 176), (38, 218), (42, 189), (43, 154), (44, 482), (45, 176), (46, 493), (60, 294), (61, 359), (62, 294), (63, 371), (64, 533), (94, 294), (95, 522), (124, 230), (126, 176)]) (len := 154) dm_X12_monad_30 rfl rfl rfl (by omega) (by decide) (fun hb17 => ?_) (fun hb17 => ?_)
    · exfalso; omega
    refine y_sw (a := verb) (126) (t := 206) (i := .lookupswitch 547 #[(33, 383), (35, 505), (37, 176), (38, 218), (42, 189), (43, 154), (44, 482), (45, 176), (46, 493), (60, 294), (61, 359), (62, 294), (63, 371), (64, 533), (94, 294), (95, 522), (124, 230), (126, 176)]) (len := 154) dm_X12_monad_30 rfl rfl rfl (by omega) (by decide) (fun hb18 => ?_) (fun hb18 => ?_)
    · exfalso; omega
    exfalso; omega
theorem dm_X12_monad_523 : mj_dec prog_14_method_29_code 523 = some (.aload_n 0, 1) := by decide +kernel
theorem dm_X12_monad_524 : mj_dec prog_14_method_29_code 524 = some (.aload_n 0, 1) := by decide +kernel
theorem dm_X12_monad_525 : mj_dec prog_14_method_29_code 525 = some (.iload_n 2, 1) := by decide +kernel
theorem dm_X12_monad_526 : mj_dec prog_14_method_29_code 526 = some (.iload_n 3, 1) := by decide +kernel
theorem dm_X12_monad_527 : mj_dec prog_14_method_29_code 527 = some (.invokevirtual 244, 3) := by decide +kernel
theorem dm_X12_monad_530 : mj_dec prog_14_method_29_code 530 = some (.iload_n 3, 1) := by decide +kernel
theorem dm_X12_monad_531 : mj_dec prog_14_method_29_code 531 = some (.invokevirtual 208, 3) := by decide +kernel
theorem dm_X12_monad_534 : mj_dec prog_14_method_29_code 534 = some (.ireturn, 1) := by decide +kernel
theorem r_mon46 {xt : mj_X} {d hd q b base W : Nat} {pre post : mj_H} {s : RS} {v : VV} {place nd verb : Int} (hm : pre.length = 102) (hd1 : 60 ≤ d) (hRS : RSO) (hB : rB s) (hv : rv s 7 hd v) (hh3 : 3 ≤ hd) (hz1 : vsz 7 v ≤ 1000) (hz2 : vlv 7 v ≤ 5) (hq : s.1 4 = (q : Int)) (hb : s.1 3 = (b : Int)) (hq3 : 3 ≤ q) (hV2 : q + 2100 < 310000) (he0 : s.1 5 = 0) (hca : 0 ≤ s.1 10 ∧ s.1 10 ≤ 100) (hC : b + 291000 ≤ 820000) (hw13 : s.1 13 = (base : Int)) (hbs : base ≤ 7900) (h8 : s.1 8 = (W : Int)) (hW5 : W ≤ 500000) (hnd : 0 ≤ nd) (hvb : verb = 46) : pgV xt d 281 [.ref 102, ii verb, ii (hd : Int), ii place] (rS pre post s) (dres pre post s W 4 nd (dOne (cpS s) W verb v place)) := by
  have hB0 := hB
  obtain ⟨hB1, hB2, hB3, hB4⟩ := hB
  obtain ⟨fr, hfr, hsh, hlt, hcl, hvk, hvm, hvc, hvq, hvcl⟩ := rv_val hv
  have hvb2 : -2147483648 ≤ verb ∧ verb ≤ 2147483647 := by omega
  refine x_enter pm_X12_monad (L0 := [(0, .ref 102), (1, ii verb), (2, ii (hd : Int)), (3, ii place)]) rfl (Nat.le_of_ble_eq_true rfl) (by omega) ?_
  refine me1 (pc' := 1) (L' := [(0, .ref 102), (1, ii verb), (2, ii (hd : Int)), (3, ii place)]) (S' := [.ref 102]) dm_X12_monad_0 rfl rfl rfl rfl ?_
  refine me1 (pc' := 2) (L' := [(0, .ref 102), (1, ii verb), (2, ii (hd : Int)), (3, ii place)]) (S' := [ii (hd : Int), .ref 102]) dm_X12_monad_1 rfl rfl rfl rfl ?_
  refine x_cp (pc' := 5) (v := ii (vk v : Int)) (rest := []) dm_X12_monad_2 rfl (q_inv (As := [ii (hd : Int)]) (S := []) hm rfl rfl rfl) rfl rfl rfl (r_kindOf_ (e := 6) hm (by omega) hB0 hv) ?_
  refine me1 (pc' := 7) (L' := [(4, ii (vk v : Int)), (0, .ref 102), (1, ii verb), (2, ii (hd : Int)), (3, ii place)]) (S' := []) dm_X12_monad_5 rfl rfl rfl rfl ?_
  refine me1 (pc' := 8) (L' := [(4, ii (vk v : Int)), (0, .ref 102), (1, ii verb), (2, ii (hd : Int)), (3, ii place)]) (S' := [.ref 102]) dm_X12_monad_7 rfl rfl rfl rfl ?_
  refine me0 (pc' := 9) (S' := [ii 3, .ref 102]) dm_X12_monad_8 rfl rfl rfl rfl ?_
  refine me1 (pc' := 10) (L' := [(4, ii (vk v : Int)), (0, .ref 102), (1, ii verb), (2, ii (hd : Int)), (3, ii place)]) (S' := [.ref 102, ii 3, .ref 102]) dm_X12_monad_9 rfl rfl rfl rfl ?_
  refine me1 (pc' := 11) (L' := [(4, ii (vk v : Int)), (0, .ref 102), (1, ii verb), (2, ii (hd : Int)), (3, ii place)]) (S' := [ii (hd : Int), .ref 102, ii 3, .ref 102]) dm_X12_monad_10 rfl rfl rfl rfl ?_
  refine x_cp (pc' := 14) (v := ii (vsz 7 v : Int)) (rest := [ii 3, .ref 102]) dm_X12_monad_11 rfl (q_inv (As := [ii (hd : Int)]) (S := [ii 3, .ref 102]) hm rfl rfl rfl) rfl rfl rfl (r_sizeOf_ hm hB0 7 (by omega) hv) ?_
  refine y_iadd (a := 3) (b := (vsz 7 v : Int)) dm_X12_monad_14 (pc' := 15) rfl ?_
  refine pg_st (S' := [ii ((3 + vS v : Nat) : Int), .ref 102]) (congrArg (fun z => ii z :: [.ref 102]) (show 3 + (vsz 7 v : Int) = ((3 + vS v : Nat) : Int) by show _ = ((3 + vsz 7 v : Nat) : Int); omega)) ?_
  have hvS : vS v = vsz 7 v := rfl
  by_cases hW : W < 3 + vS v
  · refine me1 (pc' := 16) (L' := [(4, ii (vk v : Int)), (0, .ref 102), (1, ii verb), (2, ii (hd : Int)), (3, ii place)]) (S' := [ii place, ii ((3 + vS v : Nat) : Int), .ref 102]) dm_X12_monad_15 rfl rfl rfl rfl ?_
    refine x_cv (pc' := 19) (rest := []) dm_X12_monad_16 rfl (q_inv (As := [ii ((3 + vS v : Nat) : Int), ii place]) (S := []) hm rfl rfl rfl) rfl rfl rfl ((by have z := r_takes_ (xt := xt) (d := d - 1) (pre := pre) (post := post) (s := s) (n := ((3 + vS v : Nat) : Int)) (place := place) hm (by omega) he0 hca.1 hca.2 (by omega) (by omega) (by omega); rw [tkS_f (by omega), decide_eq_false (by omega)] at z; exact z)) ?_
    rintro _ _ ⟨rfl, rfl⟩
    refine me_1f (pc' := 22) dm_X12_monad_19 rfl (by decide) rfl ?_
    refine me0 (pc' := 23) (S' := [ii (-1)]) dm_X12_monad_22 rfl rfl rfl rfl ?_
    refine y_ret (r := some (ii (-1))) dm_X12_monad_23 rfl rfl rfl ?_
    refine ⟨_, rfl, ?_⟩
    rw [show dOne (cpS s) W verb v place = dEr (cpS s) W 10 place from dAc_no hW]
    exact tk_no (n := 0) he0 h8 hnd
  · refine me1 (pc' := 16) (L' := [(4, ii (vk v : Int)), (0, .ref 102), (1, ii verb), (2, ii (hd : Int)), (3, ii place)]) (S' := [ii place, ii ((3 + vS v : Nat) : Int), .ref 102]) dm_X12_monad_15 rfl rfl rfl rfl ?_
    refine x_cv (pc' := 19) (rest := []) dm_X12_monad_16 rfl (q_inv (As := [ii ((3 + vS v : Nat) : Int), ii place]) (S := []) hm rfl rfl rfl) rfl rfl rfl ((by have z := r_takes_ (xt := xt) (d := d - 1) (pre := pre) (post := post) (s := s) (n := ((3 + vS v : Nat) : Int)) (place := place) hm (by omega) he0 hca.1 hca.2 (by omega) (by omega) (by omega); rw [tkS_t (by omega), decide_eq_true (by omega)] at z; exact z)) ?_
    rintro _ _ ⟨rfl, rfl⟩
    refine me_1t (pc' := 24) dm_X12_monad_19 rfl (by decide) ?_
    refine me1 (pc' := 25) (L' := [(4, ii (vk v : Int)), (0, .ref 102), (1, ii verb), (2, ii (hd : Int)), (3, ii place)]) (S' := [.ref 102]) dm_X12_monad_24 rfl rfl rfl rfl ?_
    refine me0 (pc' := 26) (S' := [ii 0, .ref 102]) dm_X12_monad_25 rfl rfl rfl rfl ?_
    refine me3 (pc' := 29) (S' := []) (h1 := rI pre post (va_up ((takeS s ((3 + vS v : Nat) : Int)).1) 9 0) ((takeS s ((3 + vS v : Nat) : Int)).2.1) ((takeS s ((3 + vS v : Nat) : Int)).2.2.1) ((takeS s ((3 + vS v : Nat) : Int)).2.2.2)) dm_X12_monad_26 (q_puti hm rfl rfl (fun m i l v => rf_9 m i l v)) rfl rfl rfl ?_
    obtain ⟨s2, hs2⟩ : ∃ s2 : RS, s2 = (va_up (takeS s ((3 + vS v : Nat) : Int)).1 9 0, (takeS s ((3 + vS v : Nat) : Int)).2.1, (takeS s ((3 + vS v : Nat) : Int)).2.2.1, (takeS s ((3 + vS v : Nat) : Int)).2.2.2) := ⟨_, rfl⟩
    have hT := tk_tkd (W := W) hs2 he0 h8 (by omega)
    have hqS : s2.1 4 = (q : Int) := hT.2.2.2.1.trans hq
    have hbS : s2.1 3 = (b : Int) := hT.2.2.1.trans hb
    have heS : s2.1 5 = 0 := hT.2.2.2.2.1
    have hwS : s2.1 13 = (base : Int) := hT.2.2.2.2.2.2.1.trans hw13
    have hcaS : 0 ≤ s2.1 10 ∧ s2.1 10 ≤ 100 := by rw [hT.2.1.1 10 (by decide) (by decide) (by decide) (by decide) (by decide) (by decide) (by decide) (by decide) (by decide) (by decide)]; exact hca
    have hBs : rB s2 := ⟨by omega, by omega, by omega, by omega⟩
    have hvs := rv_ext hT.1 hh3 hv
    have hrs := hRS verb v (rv_wf hv) hz1 hz2
    have hww : W - (3 + vS v) + (3 + vS v) = W := by omega
    refine pg_cast (h2 := rI pre post s2.1 s2.2.1 s2.2.2.1 s2.2.2.2) (by rw [hs2]) ?_
    refine me1 (pc' := 30) (L' := [(4, ii (vk v : Int)), (0, .ref 102), (1, ii verb), (2, ii (hd : Int)), (3, ii place)]) (S' := [ii verb]) dm_X12_monad_29 rfl rfl rfl rfl ?_
    have hsp : s_one verb 6 v = m_told v := by unfold s_one; rw [if_neg (by omega), if_neg (by omega), if_neg (by omega), if_neg (by omega), if_neg (by omega), if_neg (by omega), if_neg (by omega), if_neg (by omega), if_neg (by omega), if_neg (by omega), if_pos (by omega)]
    refine y_sw (a := verb) (33) (t := 413) (i := .lookupswitch 547 #[(33, 383), (35, 505), (37, 176), (38, 218), (42, 189), (43, 154), (44, 482), (45, 176), (46, 493), (60, 294), (61, 359), (62, 294), (63, 371), (64, 533), (94, 294), (95, 522), (124, 230), (126, 176)]) (len := 154) dm_X12_monad_30 rfl rfl rfl (by omega) (by decide) (fun hb1 => ?_) (fun hb1 => ?_)
    · exfalso; omega
    refine y_sw (a := verb) (35) (t := 535) (i := .lookupswitch 547 #[(33, 383), (35, 505), (37, 176), (38, 218), (42, 189), (43, 154), (44, 482), (45, 176), (46, 493), (60, 294), (61, 359), (62, 294), (63, 371), (64, 533), (94, 294), (95, 522), (124, 230), (126, 176)]) (len := 154) dm_X12_monad_30 rfl rfl rfl (by omega) (by decide) (fun hb2 => ?_) (fun hb2 => ?_)
    · exfalso; omega
    refine y_sw (a := verb) (37) (t := 206) (i := .lookupswitch 547 #[(33, 383), (35, 505), (37, 176), (38, 218), (42, 189), (43, 154), (44, 482), (45, 176), (46, 493), (60, 294), (61, 359), (62, 294), (63, 371), (64, 533), (94, 294), (95, 522), (124, 230), (126, 176)]) (len := 154) dm_X12_monad_30 rfl rfl rfl (by omega) (by decide) (fun hb3 => ?_) (fun hb3 => ?_)
    · exfalso; omega
    refine y_sw (a := verb) (38) (t := 248) (i := .lookupswitch 547 #[(33, 383), (35, 505), (37, 176), (38, 218), (42, 189), (43, 154), (44, 482), (45, 176), (46, 493), (60, 294), (61, 359), (62, 294), (63, 371), (64, 533), (94, 294), (95, 522), (124, 230), (126, 176)]) (len := 154) dm_X12_monad_30 rfl rfl rfl (by omega) (by decide) (fun hb4 => ?_) (fun hb4 => ?_)
    · exfalso; omega
    refine y_sw (a := verb) (42) (t := 219) (i := .lookupswitch 547 #[(33, 383), (35, 505), (37, 176), (38, 218), (42, 189), (43, 154), (44, 482), (45, 176), (46, 493), (60, 294), (61, 359), (62, 294), (63, 371), (64, 533), (94, 294), (95, 522), (124, 230), (126, 176)]) (len := 154) dm_X12_monad_30 rfl rfl rfl (by omega) (by decide) (fun hb5 => ?_) (fun hb5 => ?_)
    · exfalso; omega
    refine y_sw (a := verb) (43) (t := 184) (i := .lookupswitch 547 #[(33, 383), (35, 505), (37, 176), (38, 218), (42, 189), (43, 154), (44, 482), (45, 176), (46, 493), (60, 294), (61, 359), (62, 294), (63, 371), (64, 533), (94, 294), (95, 522), (124, 230), (126, 176)]) (len := 154) dm_X12_monad_30 rfl rfl rfl (by omega) (by decide) (fun hb6 => ?_) (fun hb6 => ?_)
    · exfalso; omega
    refine y_sw (a := verb) (44) (t := 512) (i := .lookupswitch 547 #[(33, 383), (35, 505), (37, 176), (38, 218), (42, 189), (43, 154), (44, 482), (45, 176), (46, 493), (60, 294), (61, 359), (62, 294), (63, 371), (64, 533), (94, 294), (95, 522), (124, 230), (126, 176)]) (len := 154) dm_X12_monad_30 rfl rfl rfl (by omega) (by decide) (fun hb7 => ?_) (fun hb7 => ?_)
    · exfalso; omega
    refine y_sw (a := verb) (45) (t := 206) (i := .lookupswitch 547 #[(33, 383), (35, 505), (37, 176), (38, 218), (42, 189), (43, 154), (44, 482), (45, 176), (46, 493), (60, 294), (61, 359), (62, 294), (63, 371), (64, 533), (94, 294), (95, 522), (124, 230), (126, 176)]) (len := 154) dm_X12_monad_30 rfl rfl rfl (by omega) (by decide) (fun hb8 => ?_) (fun hb8 => ?_)
    · exfalso; omega
    refine y_sw (a := verb) (46) (t := 523) (i := .lookupswitch 547 #[(33, 383), (35, 505), (37, 176), (38, 218), (42, 189), (43, 154), (44, 482), (45, 176), (46, 493), (60, 294), (61, 359), (62, 294), (63, 371), (64, 533), (94, 294), (95, 522), (124, 230), (126, 176)]) (len := 154) dm_X12_monad_30 rfl rfl rfl (by omega) (by decide) (fun hb9 => ?_) (fun hb9 => ?_)
    · refine me1 (pc' := 524) (L' := [(4, ii (vk v : Int)), (0, .ref 102), (1, ii verb), (2, ii (hd : Int)), (3, ii place)]) (S' := [.ref 102]) dm_X12_monad_523 rfl rfl rfl rfl ?_
      refine me1 (pc' := 525) (L' := [(4, ii (vk v : Int)), (0, .ref 102), (1, ii verb), (2, ii (hd : Int)), (3, ii place)]) (S' := [.ref 102, .ref 102]) dm_X12_monad_524 rfl rfl rfl rfl ?_
      refine me1 (pc' := 526) (L' := [(4, ii (vk v : Int)), (0, .ref 102), (1, ii verb), (2, ii (hd : Int)), (3, ii place)]) (S' := [ii (hd : Int), .ref 102, .ref 102]) dm_X12_monad_525 rfl rfl rfl rfl ?_
      refine me1 (pc' := 527) (L' := [(4, ii (vk v : Int)), (0, .ref 102), (1, ii verb), (2, ii (hd : Int)), (3, ii place)]) (S' := [ii place, ii (hd : Int), .ref 102, .ref 102]) dm_X12_monad_526 rfl rfl rfl rfl ?_
      refine x_cv (pc' := 530) (rest := [.ref 102]) dm_X12_monad_527 rfl (q_inv (As := [ii (hd : Int), ii place]) (S := [.ref 102]) hm rfl rfl rfl) rfl rfl rfl (r_numbersIn_ (e := 6) (q := q) (b := b) (s := s2) (place := place) hm (by omega) hBs hvs hh3 hqS hbS hq3 (by omega) heS hcaS (by omega)) ?_
      rintro x1 g1 hres
      have hG : rG pre post s2 8 (m_told v) place (rcb (m_told v) 120) (rvb (m_told v) 1) x1 g1 := rG_up (rG_r hres)
      obtain ⟨z1, rfl⟩ := rG_ii hG
      obtain ⟨t1, rfl⟩ := rG_st hG
      refine me1 (pc' := 531) (L' := [(4, ii (vk v : Int)), (0, .ref 102), (1, ii verb), (2, ii (hd : Int)), (3, ii place)]) (S' := [ii place, ii z1, .ref 102]) dm_X12_monad_530 rfl rfl rfl rfl ?_
      refine x_cv (pc' := 534) (rest := []) dm_X12_monad_531 rfl (q_inv (As := [ii z1, ii place]) (S := []) hm rfl rfl rfl) rfl rfl rfl (r_mdo1 (s := s) (s2 := s2) (W2 := W - (3 + vS v)) (cost := 3 + vS v) (cb := 120) (o := m_told v) (c := 4) (nd := nd) hm (by omega) hT hB0 hG hca (by omega) hnd (fun n hn => hrs.1 n (hsp.trans hn)) (fun r hr => hrs.2 r (hsp.trans hr)) (by omega) (by omega) (by omega)) ?_
      rintro x9 g9 hfin
      obtain ⟨z9, rfl⟩ := dres_ii hfin
      obtain ⟨t9, rfl⟩ := dres_st hfin
      refine y_ret (r := some (ii z9)) dm_X12_monad_534 rfl rfl rfl ?_
      have e9 : dOne (cpS s) W verb v place = dMo (cpS s) (W - (3 + vS v)) 0 (m_told v) place := by unfold dOne; rw [dAc_mo (by omega), hsp]
      rw [hww] at hfin
      rw [e9]
      exact ⟨_, rfl, hfin⟩
    refine y_sw (a := verb) (60) (t := 324) (i := .lookupswitch 547 #[(33, 383), (35, 505), (37, 176), (38, 218), (42, 189), (43, 154), (44, 482), (45, 176), (46, 493), (60, 294), (61, 359), (62, 294), (63, 371), (64, 533), (94, 294), (95, 522), (124, 230), (126, 176)]) (len := 154) dm_X12_monad_30 rfl rfl rfl (by omega) (by decide) (fun hb10 => ?_) (fun hb10 => ?_)
    · exfalso; omega
    refine y_sw (a := verb) (61) (t := 389) (i := .lookupswitch 547 #[(33, 383), (35, 505), (37, 176), (38, 218), (42, 189), (43, 154), (44, 482), (45, 176), (46, 493), (60, 294), (61, 359), (62, 294), (63, 371), (64, 533), (94, 294), (95, 522), (124, 230), (126, 176)]) (len := 154) dm_X12_monad_30 rfl rfl rfl (by omega) (by decide) (fun hb11 => ?_) (fun hb11 => ?_)
    · exfalso; omega
    refine y_sw (a := verb) (62) (t := 324) (i := .lookupswitch 547 #[(33, 383), (35, 505), (37, 176), (38, 218), (42, 189), (43, 154), (44, 482), (45, 176), (46, 493), (60, 294), (61, 359), (62, 294), (63, 371), (64, 533), (94, 294), (95, 522), (124, 230), (126, 176)]) (len := 154) dm_X12_monad_30 rfl rfl rfl (by omega) (by decide) (fun hb12 => ?_) (fun hb12 => ?_)
    · exfalso; omega
    refine y_sw (a := verb) (63) (t := 401) (i := .lookupswitch 547 #[(33, 383), (35, 505), (37, 176), (38, 218), (42, 189), (43, 154), (44, 482), (45, 176), (46, 493), (60, 294), (61, 359), (62, 294), (63, 371), (64, 533), (94, 294), (95, 522), (124, 230), (126, 176)]) (len := 154) dm_X12_monad_30 rfl rfl rfl (by omega) (by decide) (fun hb13 => ?_) (fun hb13 => ?_)
    · exfalso; omega
    refine y_sw (a := verb) (64) (t := 563) (i := .lookupswitch 547 #[(33, 383), (35, 505), (37, 176), (38, 218), (42, 189), (43, 154), (44, 482), (45, 176), (46, 493), (60, 294), (61, 359), (62, 294), (63, 371), (64, 533), (94, 294), (95, 522), (124, 230), (126, 176)]) (len := 154) dm_X12_monad_30 rfl rfl rfl (by omega) (by decide) (fun hb14 => ?_) (fun hb14 => ?_)
    · exfalso; omega
    refine y_sw (a := verb) (94) (t := 324) (i := .lookupswitch 547 #[(33, 383), (35, 505), (37, 176), (38, 218), (42, 189), (43, 154), (44, 482), (45, 176), (46, 493), (60, 294), (61, 359), (62, 294), (63, 371), (64, 533), (94, 294), (95, 522), (124, 230), (126, 176)]) (len := 154) dm_X12_monad_30 rfl rfl rfl (by omega) (by decide) (fun hb15 => ?_) (fun hb15 => ?_)
    · exfalso; omega
    refine y_sw (a := verb) (95) (t := 552) (i := .lookupswitch 547 #[(33, 383), (35, 505), (37, 176), (38, 218), (42, 189), (43, 154), (44, 482), (45, 176), (46, 493), (60, 294), (61, 359), (62, 294), (63, 371), (64, 533), (94, 294), (95, 522), (124, 230), (126, 176)]) (len := 154) dm_X12_monad_30 rfl rfl rfl (by omega) (by decide) (fun hb16 => ?_) (fun hb16 => ?_)
    · exfalso; omega
    refine y_sw (a := verb) (124) (t := 260) (i := .lookupswitch 547 #[(33, 383), (35, 505), (37, 176), (38, 218), (42, 189), (43, 154), (44, 482), (45, 176), (46, 493), (60, 294), (61, 359), (62, 294), (63, 371), (64, 533), (94, 294), (95, 522), (124, 230), (126, 176)]) (len := 154) dm_X12_monad_30 rfl rfl rfl (by omega) (by decide) (fun hb17 => ?_) (fun hb17 => ?_)
    · exfalso; omega
    refine y_sw (a := verb) (126) (t := 206) (i := .lookupswitch 547 #[(33, 383), (35, 505), (37, 176), (38, 218), (42, 189), (43, 154), (44, 482), (45, 176), (46, 493), (60, 294), (61, 359), (62, 294), (63, 371), (64, 533), (94, 294), (95, 522), (124, 230), (126, 176)]) (len := 154) dm_X12_monad_30 rfl rfl rfl (by omega) (by decide) (fun hb18 => ?_) (fun hb18 => ?_)
    · exfalso; omega
    exfalso; omega
theorem dm_X12_monad_552 : mj_dec prog_14_method_29_code 552 = some (.aload_n 0, 1) := by decide +kernel
theorem dm_X12_monad_553 : mj_dec prog_14_method_29_code 553 = some (.aload_n 0, 1) := by decide +kernel
theorem dm_X12_monad_554 : mj_dec prog_14_method_29_code 554 = some (.iload_n 2, 1) := by decide +kernel
theorem dm_X12_monad_555 : mj_dec prog_14_method_29_code 555 = some (.invokevirtual 247, 3) := by decide +kernel
theorem dm_X12_monad_558 : mj_dec prog_14_method_29_code 558 = some (.iload_n 3, 1) := by decide +kernel
theorem dm_X12_monad_559 : mj_dec prog_14_method_29_code 559 = some (.invokevirtual 208, 3) := by decide +kernel
theorem dm_X12_monad_562 : mj_dec prog_14_method_29_code 562 = some (.ireturn, 1) := by decide +kernel
theorem r_mon95 {xt : mj_X} {d hd q b base W : Nat} {pre post : mj_H} {s : RS} {v : VV} {place nd verb : Int} (hm : pre.length = 102) (hd1 : 60 ≤ d) (hRS : RSO) (hB : rB s) (hv : rv s 7 hd v) (hh3 : 3 ≤ hd) (hz1 : vsz 7 v ≤ 1000) (hz2 : vlv 7 v ≤ 5) (hq : s.1 4 = (q : Int)) (hb : s.1 3 = (b : Int)) (hq3 : 3 ≤ q) (hV2 : q + 2100 < 310000) (he0 : s.1 5 = 0) (hca : 0 ≤ s.1 10 ∧ s.1 10 ≤ 100) (hC : b + 291000 ≤ 820000) (hw13 : s.1 13 = (base : Int)) (hbs : base ≤ 7900) (h8 : s.1 8 = (W : Int)) (hW5 : W ≤ 500000) (hnd : 0 ≤ nd) (hvb : verb = 95) : pgV xt d 281 [.ref 102, ii verb, ii (hd : Int), ii place] (rS pre post s) (dres pre post s W 4 nd (dOne (cpS s) W verb v place)) := by
  have hB0 := hB
  obtain ⟨hB1, hB2, hB3, hB4⟩ := hB
  obtain ⟨fr, hfr, hsh, hlt, hcl, hvk, hvm, hvc, hvq, hvcl⟩ := rv_val hv
  have hvb2 : -2147483648 ≤ verb ∧ verb ≤ 2147483647 := by omega
  refine x_enter pm_X12_monad (L0 := [(0, .ref 102), (1, ii verb), (2, ii (hd : Int)), (3, ii place)]) rfl (Nat.le_of_ble_eq_true rfl) (by omega) ?_
  refine me1 (pc' := 1) (L' := [(0, .ref 102), (1, ii verb), (2, ii (hd : Int)), (3, ii place)]) (S' := [.ref 102]) dm_X12_monad_0 rfl rfl rfl rfl ?_
  refine me1 (pc' := 2) (L' := [(0, .ref 102), (1, ii verb), (2, ii (hd : Int)), (3, ii place)]) (S' := [ii (hd : Int), .ref 102]) dm_X12_monad_1 rfl rfl rfl rfl ?_
  refine x_cp (pc' := 5) (v := ii (vk v : Int)) (rest := []) dm_X12_monad_2 rfl (q_inv (As := [ii (hd : Int)]) (S := []) hm rfl rfl rfl) rfl rfl rfl (r_kindOf_ (e := 6) hm (by omega) hB0 hv) ?_
  refine me1 (pc' := 7) (L' := [(4, ii (vk v : Int)), (0, .ref 102), (1, ii verb), (2, ii (hd : Int)), (3, ii place)]) (S' := []) dm_X12_monad_5 rfl rfl rfl rfl ?_
  refine me1 (pc' := 8) (L' := [(4, ii (vk v : Int)), (0, .ref 102), (1, ii verb), (2, ii (hd : Int)), (3, ii place)]) (S' := [.ref 102]) dm_X12_monad_7 rfl rfl rfl rfl ?_
  refine me0 (pc' := 9) (S' := [ii 3, .ref 102]) dm_X12_monad_8 rfl rfl rfl rfl ?_
  refine me1 (pc' := 10) (L' := [(4, ii (vk v : Int)), (0, .ref 102), (1, ii verb), (2, ii (hd : Int)), (3, ii place)]) (S' := [.ref 102, ii 3, .ref 102]) dm_X12_monad_9 rfl rfl rfl rfl ?_
  refine me1 (pc' := 11) (L' := [(4, ii (vk v : Int)), (0, .ref 102), (1, ii verb), (2, ii (hd : Int)), (3, ii place)]) (S' := [ii (hd : Int), .ref 102, ii 3, .ref 102]) dm_X12_monad_10 rfl rfl rfl rfl ?_
  refine x_cp (pc' := 14) (v := ii (vsz 7 v : Int)) (rest := [ii 3, .ref 102]) dm_X12_monad_11 rfl (q_inv (As := [ii (hd : Int)]) (S := [ii 3, .ref 102]) hm rfl rfl rfl) rfl rfl rfl (r_sizeOf_ hm hB0 7 (by omega) hv) ?_
  refine y_iadd (a := 3) (b := (vsz 7 v : Int)) dm_X12_monad_14 (pc' := 15) rfl ?_
  refine pg_st (S' := [ii ((3 + vS v : Nat) : Int), .ref 102]) (congrArg (fun z => ii z :: [.ref 102]) (show 3 + (vsz 7 v : Int) = ((3 + vS v : Nat) : Int) by show _ = ((3 + vsz 7 v : Nat) : Int); omega)) ?_
  have hvS : vS v = vsz 7 v := rfl
  by_cases hW : W < 3 + vS v
  · refine me1 (pc' := 16) (L' := [(4, ii (vk v : Int)), (0, .ref 102), (1, ii verb), (2, ii (hd : Int)), (3, ii place)]) (S' := [ii place, ii ((3 + vS v : Nat) : Int), .ref 102]) dm_X12_monad_15 rfl rfl rfl rfl ?_
    refine x_cv (pc' := 19) (rest := []) dm_X12_monad_16 rfl (q_inv (As := [ii ((3 + vS v : Nat) : Int), ii place]) (S := []) hm rfl rfl rfl) rfl rfl rfl ((by have z := r_takes_ (xt := xt) (d := d - 1) (pre := pre) (post := post) (s := s) (n := ((3 + vS v : Nat) : Int)) (place := place) hm (by omega) he0 hca.1 hca.2 (by omega) (by omega) (by omega); rw [tkS_f (by omega), decide_eq_false (by omega)] at z; exact z)) ?_
    rintro _ _ ⟨rfl, rfl⟩
    refine me_1f (pc' := 22) dm_X12_monad_19 rfl (by decide) rfl ?_
    refine me0 (pc' := 23) (S' := [ii (-1)]) dm_X12_monad_22 rfl rfl rfl rfl ?_
    refine y_ret (r := some (ii (-1))) dm_X12_monad_23 rfl rfl rfl ?_
    refine ⟨_, rfl, ?_⟩
    rw [show dOne (cpS s) W verb v place = dEr (cpS s) W 10 place from dAc_no hW]
    exact tk_no (n := 0) he0 h8 hnd
  · refine me1 (pc' := 16) (L' := [(4, ii (vk v : Int)), (0, .ref 102), (1, ii verb), (2, ii (hd : Int)), (3, ii place)]) (S' := [ii place, ii ((3 + vS v : Nat) : Int), .ref 102]) dm_X12_monad_15 rfl rfl rfl rfl ?_
    refine x_cv (pc' := 19) (rest := []) dm_X12_monad_16 rfl (q_inv (As := [ii ((3 + vS v : Nat) : Int), ii place]) (S := []) hm rfl rfl rfl) rfl rfl rfl ((by have z := r_takes_ (xt := xt) (d := d - 1) (pre := pre) (post := post) (s := s) (n := ((3 + vS v : Nat) : Int)) (place := place) hm (by omega) he0 hca.1 hca.2 (by omega) (by omega) (by omega); rw [tkS_t (by omega), decide_eq_true (by omega)] at z; exact z)) ?_
    rintro _ _ ⟨rfl, rfl⟩
    refine me_1t (pc' := 24) dm_X12_monad_19 rfl (by decide) ?_
    refine me1 (pc' := 25) (L' := [(4, ii (vk v : Int)), (0, .ref 102), (1, ii verb), (2, ii (hd : Int)), (3, ii place)]) (S' := [.ref 102]) dm_X12_monad_24 rfl rfl rfl rfl ?_
    refine me0 (pc' := 26) (S' := [ii 0, .ref 102]) dm_X12_monad_25 rfl rfl rfl rfl ?_
    refine me3 (pc' := 29) (S' := []) (h1 := rI pre post (va_up ((takeS s ((3 + vS v : Nat) : Int)).1) 9 0) ((takeS s ((3 + vS v : Nat) : Int)).2.1) ((takeS s ((3 + vS v : Nat) : Int)).2.2.1) ((takeS s ((3 + vS v : Nat) : Int)).2.2.2)) dm_X12_monad_26 (q_puti hm rfl rfl (fun m i l v => rf_9 m i l v)) rfl rfl rfl ?_
    obtain ⟨s2, hs2⟩ : ∃ s2 : RS, s2 = (va_up (takeS s ((3 + vS v : Nat) : Int)).1 9 0, (takeS s ((3 + vS v : Nat) : Int)).2.1, (takeS s ((3 + vS v : Nat) : Int)).2.2.1, (takeS s ((3 + vS v : Nat) : Int)).2.2.2) := ⟨_, rfl⟩
    have hT := tk_tkd (W := W) hs2 he0 h8 (by omega)
    have hqS : s2.1 4 = (q : Int) := hT.2.2.2.1.trans hq
    have hbS : s2.1 3 = (b : Int) := hT.2.2.1.trans hb
    have heS : s2.1 5 = 0 := hT.2.2.2.2.1
    have hwS : s2.1 13 = (base : Int) := hT.2.2.2.2.2.2.1.trans hw13
    have hcaS : 0 ≤ s2.1 10 ∧ s2.1 10 ≤ 100 := by rw [hT.2.1.1 10 (by decide) (by decide) (by decide) (by decide) (by decide) (by decide) (by decide) (by decide) (by decide) (by decide)]; exact hca
    have hBs : rB s2 := ⟨by omega, by omega, by omega, by omega⟩
    have hvs := rv_ext hT.1 hh3 hv
    have hrs := hRS verb v (rv_wf hv) hz1 hz2
    have hww : W - (3 + vS v) + (3 + vS v) = W := by omega
    refine pg_cast (h2 := rI pre post s2.1 s2.2.1 s2.2.2.1 s2.2.2.2) (by rw [hs2]) ?_
    refine me1 (pc' := 30) (L' := [(4, ii (vk v : Int)), (0, .ref 102), (1, ii verb), (2, ii (hd : Int)), (3, ii place)]) (S' := [ii verb]) dm_X12_monad_29 rfl rfl rfl rfl ?_
    have hsp : s_one verb 6 v = m_shape v := by unfold s_one; rw [if_neg (by omega), if_neg (by omega), if_neg (by omega), if_neg (by omega), if_neg (by omega), if_neg (by omega), if_neg (by omega), if_neg (by omega), if_neg (by omega), if_neg (by omega), if_neg (by omega), if_neg (by omega), if_pos (by omega)]
    refine y_sw (a := verb) (33) (t := 413) (i := .lookupswitch 547 #[(33, 383), (35, 505), (37, 176), (38, 218), (42, 189), (43, 154), (44, 482), (45, 176), (46, 493), (60, 294), (61, 359), (62, 294), (63, 371), (64, 533), (94, 294), (95, 522), (124, 230), (126, 176)]) (len := 154) dm_X12_monad_30 rfl rfl rfl (by omega) (by decide) (fun hb1 => ?_) (fun hb1 => ?_)
    · exfalso; omega
    refine y_sw (a := verb) (35) (t := 535) (i := .lookupswitch 547 #[(33, 383), (35, 505), (37, 176), (38, 218), (42, 189), (43, 154), (44, 482), (45, 176), (46, 493), (60, 294), (61, 359), (62, 294), (63, 371), (64, 533), (94, 294), (95, 522), (124, 230), (126, 176)]) (len := 154) dm_X12_monad_30 rfl rfl rfl (by omega) (by decide) (fun hb2 => ?_) (fun hb2 => ?_)
    · exfalso; omega
    refine y_sw (a := verb) (37) (t := 206) (i := .lookupswitch 547 #[(33, 383), (35, 505), (37, 176), (38, 218), (42, 189), (43, 154), (44, 482), (45, 176), (46, 493), (60, 294), (61, 359), (62, 294), (63, 371), (64, 533), (94, 294), (95, 522), (124, 230), (126, 176)]) (len := 154) dm_X12_monad_30 rfl rfl rfl (by omega) (by decide) (fun hb3 => ?_) (fun hb3 => ?_)
    · exfalso; omega
    refine y_sw (a := verb) (38) (t := 248) (i := .lookupswitch 547 #[(33, 383), (35, 505), (37, 176), (38, 218), (42, 189), (43, 154), (44, 482), (45, 176), (46, 493), (60, 294), (61, 359), (62, 294), (63, 371), (64, 533), (94, 294), (95, 522), (124, 230), (126, 176)]) (len := 154) dm_X12_monad_30 rfl rfl rfl (by omega) (by decide) (fun hb4 => ?_) (fun hb4 => ?_)
    · exfalso; omega
    refine y_sw (a := verb) (42) (t := 219) (i := .lookupswitch 547 #[(33, 383), (35, 505), (37, 176), (38, 218), (42, 189), (43, 154), (44, 482), (45, 176), (46, 493), (60, 294), (61, 359), (62, 294), (63, 371), (64, 533), (94, 294), (95, 522), (124, 230), (126, 176)]) (len := 154) dm_X12_monad_30 rfl rfl rfl (by omega) (by decide) (fun hb5 => ?_) (fun hb5 => ?_)
    · exfalso; omega
    refine y_sw (a := verb) (43) (t := 184) (i := .lookupswitch 547 #[(33, 383), (35, 505), (37, 176), (38, 218), (42, 189), (43, 154), (44, 482), (45, 176), (46, 493), (60, 294), (61, 359), (62, 294), (63, 371), (64, 533), (94, 294), (95, 522), (124, 230), (126, 176)]) (len := 154) dm_X12_monad_30 rfl rfl rfl (by omega) (by decide) (fun hb6 => ?_) (fun hb6 => ?_)
    · exfalso; omega
    refine y_sw (a := verb) (44) (t := 512) (i := .lookupswitch 547 #[(33, 383), (35, 505), (37, 176), (38, 218), (42, 189), (43, 154), (44, 482), (45, 176), (46, 493), (60, 294), (61, 359), (62, 294), (63, 371), (64, 533), (94, 294), (95, 522), (124, 230), (126, 176)]) (len := 154) dm_X12_monad_30 rfl rfl rfl (by omega) (by decide) (fun hb7 => ?_) (fun hb7 => ?_)
    · exfalso; omega
    refine y_sw (a := verb) (45) (t := 206) (i := .lookupswitch 547 #[(33, 383), (35, 505), (37, 176), (38, 218), (42, 189), (43, 154), (44, 482), (45, 176), (46, 493), (60, 294), (61, 359), (62, 294), (63, 371), (64, 533), (94, 294), (95, 522), (124, 230), (126, 176)]) (len := 154) dm_X12_monad_30 rfl rfl rfl (by omega) (by decide) (fun hb8 => ?_) (fun hb8 => ?_)
    · exfalso; omega
    refine y_sw (a := verb) (46) (t := 523) (i := .lookupswitch 547 #[(33, 383), (35, 505), (37, 176), (38, 218), (42, 189), (43, 154), (44, 482), (45, 176), (46, 493), (60, 294), (61, 359), (62, 294), (63, 371), (64, 533), (94, 294), (95, 522), (124, 230), (126, 176)]) (len := 154) dm_X12_monad_30 rfl rfl rfl (by omega) (by decide) (fun hb9 => ?_) (fun hb9 => ?_)
    · exfalso; omega
    refine y_sw (a := verb) (60) (t := 324) (i := .lookupswitch 547 #[(33, 383), (35, 505), (37, 176), (38, 218), (42, 189), (43, 154), (44, 482), (45, 176), (46, 493), (60, 294), (61, 359), (62, 294), (63, 371), (64, 533), (94, 294), (95, 522), (124, 230), (126, 176)]) (len := 154) dm_X12_monad_30 rfl rfl rfl (by omega) (by decide) (fun hb10 => ?_) (fun hb10 => ?_)
    · exfalso; omega
    refine y_sw (a := verb) (61) (t := 389) (i := .lookupswitch 547 #[(33, 383), (35, 505), (37, 176), (38, 218), (42, 189), (43, 154), (44, 482), (45, 176), (46, 493), (60, 294), (61, 359), (62, 294), (63, 371), (64, 533), (94, 294), (95, 522), (124, 230), (126, 176)]) (len := 154) dm_X12_monad_30 rfl rfl rfl (by omega) (by decide) (fun hb11 => ?_) (fun hb11 => ?_)
    · exfalso; omega
    refine y_sw (a := verb) (62) (t := 324) (i := .lookupswitch 547 #[(33, 383), (35, 505), (37, 176), (38, 218), (42, 189), (43, 154), (44, 482), (45, 176), (46, 493), (60, 294), (61, 359), (62, 294), (63, 371), (64, 533), (94, 294), (95, 522), (124, 230), (126, 176)]) (len := 154) dm_X12_monad_30 rfl rfl rfl (by omega) (by decide) (fun hb12 => ?_) (fun hb12 => ?_)
    · exfalso; omega
    refine y_sw (a := verb) (63) (t := 401) (i := .lookupswitch 547 #[(33, 383), (35, 505), (37, 176), (38, 218), (42, 189), (43, 154), (44, 482), (45, 176), (46, 493), (60, 294), (61, 359), (62, 294), (63, 371), (64, 533), (94, 294), (95, 522), (124, 230), (126, 176)]) (len := 154) dm_X12_monad_30 rfl rfl rfl (by omega) (by decide) (fun hb13 => ?_) (fun hb13 => ?_)
    · exfalso; omega
    refine y_sw (a := verb) (64) (t := 563) (i := .lookupswitch 547 #[(33, 383), (35, 505), (37, 176), (38, 218), (42, 189), (43, 154), (44, 482), (45, 176), (46, 493), (60, 294), (61, 359), (62, 294), (63, 371), (64, 533), (94, 294), (95, 522), (124, 230), (126, 176)]) (len := 154) dm_X12_monad_30 rfl rfl rfl (by omega) (by decide) (fun hb14 => ?_) (fun hb14 => ?_)
    · exfalso; omega
    refine y_sw (a := verb) (94) (t := 324) (i := .lookupswitch 547 #[(33, 383), (35, 505), (37, 176), (38, 218), (42, 189), (43, 154), (44, 482), (45, 176), (46, 493), (60, 294), (61, 359), (62, 294), (63, 371), (64, 533), (94, 294), (95, 522), (124, 230), (126, 176)]) (len := 154) dm_X12_monad_30 rfl rfl rfl (by omega) (by decide) (fun hb15 => ?_) (fun hb15 => ?_)
    · exfalso; omega
    refine y_sw (a := verb) (95) (t := 552) (i := .lookupswitch 547 #[(33, 383), (35, 505), (37, 176), (38, 218), (42, 189), (43, 154), (44, 482), (45, 176), (46, 493), (60, 294), (61, 359), (62, 294), (63, 371), (64, 533), (94, 294), (95, 522), (124, 230), (126, 176)]) (len := 154) dm_X12_monad_30 rfl rfl rfl (by omega) (by decide) (fun hb16 => ?_) (fun hb16 => ?_)
    · refine me1 (pc' := 553) (L' := [(4, ii (vk v : Int)), (0, .ref 102), (1, ii verb), (2, ii (hd : Int)), (3, ii place)]) (S' := [.ref 102]) dm_X12_monad_552 rfl rfl rfl rfl ?_
      refine me1 (pc' := 554) (L' := [(4, ii (vk v : Int)), (0, .ref 102), (1, ii verb), (2, ii (hd : Int)), (3, ii place)]) (S' := [.ref 102, .ref 102]) dm_X12_monad_553 rfl rfl rfl rfl ?_
      refine me1 (pc' := 555) (L' := [(4, ii (vk v : Int)), (0, .ref 102), (1, ii verb), (2, ii (hd : Int)), (3, ii place)]) (S' := [ii (hd : Int), .ref 102, .ref 102]) dm_X12_monad_554 rfl rfl rfl rfl ?_
      refine x_cv (pc' := 558) (rest := [.ref 102]) dm_X12_monad_555 rfl (q_inv (As := [ii (hd : Int)]) (S := [.ref 102]) hm rfl rfl rfl) rfl rfl rfl (r_shaped_ (e := 6) (q := q) (b := b) (s := s2) (place := place) hm (by omega) hBs hvs hh3 hqS hbS hq3 (by omega) heS hcaS (by omega)) ?_
      rintro x1 g1 hres
      have hG : rG pre post s2 8 (m_shape v) place (rcb (m_shape v) 2) (rvb (m_shape v) 1) x1 g1 := rG_up (rG_r hres)
      obtain ⟨z1, rfl⟩ := rG_ii hG
      obtain ⟨t1, rfl⟩ := rG_st hG
      refine me1 (pc' := 559) (L' := [(4, ii (vk v : Int)), (0, .ref 102), (1, ii verb), (2, ii (hd : Int)), (3, ii place)]) (S' := [ii place, ii z1, .ref 102]) dm_X12_monad_558 rfl rfl rfl rfl ?_
      refine x_cv (pc' := 562) (rest := []) dm_X12_monad_559 rfl (q_inv (As := [ii z1, ii place]) (S := []) hm rfl rfl rfl) rfl rfl rfl (r_mdo1 (s := s) (s2 := s2) (W2 := W - (3 + vS v)) (cost := 3 + vS v) (cb := 2) (o := m_shape v) (c := 4) (nd := nd) hm (by omega) hT hB0 hG hca (by omega) hnd (fun n hn => hrs.1 n (hsp.trans hn)) (fun r hr => hrs.2 r (hsp.trans hr)) (by omega) (by omega) (by omega)) ?_
      rintro x9 g9 hfin
      obtain ⟨z9, rfl⟩ := dres_ii hfin
      obtain ⟨t9, rfl⟩ := dres_st hfin
      refine y_ret (r := some (ii z9)) dm_X12_monad_562 rfl rfl rfl ?_
      have e9 : dOne (cpS s) W verb v place = dMo (cpS s) (W - (3 + vS v)) 0 (m_shape v) place := by unfold dOne; rw [dAc_mo (by omega), hsp]
      rw [hww] at hfin
      rw [e9]
      exact ⟨_, rfl, hfin⟩
    refine y_sw (a := verb) (124) (t := 260) (i := .lookupswitch 547 #[(33, 383), (35, 505), (37, 176), (38, 218), (42, 189), (43, 154), (44, 482), (45, 176), (46, 493), (60, 294), (61, 359), (62, 294), (63, 371), (64, 533), (94, 294), (95, 522), (124, 230), (126, 176)]) (len := 154) dm_X12_monad_30 rfl rfl rfl (by omega) (by decide) (fun hb17 => ?_) (fun hb17 => ?_)
    · exfalso; omega
    refine y_sw (a := verb) (126) (t := 206) (i := .lookupswitch 547 #[(33, 383), (35, 505), (37, 176), (38, 218), (42, 189), (43, 154), (44, 482), (45, 176), (46, 493), (60, 294), (61, 359), (62, 294), (63, 371), (64, 533), (94, 294), (95, 522), (124, 230), (126, 176)]) (len := 154) dm_X12_monad_30 rfl rfl rfl (by omega) (by decide) (fun hb18 => ?_) (fun hb18 => ?_)
    · exfalso; omega
    exfalso; omega
theorem dm_X12_monad_512 : mj_dec prog_14_method_29_code 512 = some (.aload_n 0, 1) := by decide +kernel
theorem dm_X12_monad_513 : mj_dec prog_14_method_29_code 513 = some (.aload_n 0, 1) := by decide +kernel
theorem dm_X12_monad_514 : mj_dec prog_14_method_29_code 514 = some (.iload_n 2, 1) := by decide +kernel
theorem dm_X12_monad_515 : mj_dec prog_14_method_29_code 515 = some (.invokevirtual 241, 3) := by decide +kernel
theorem dm_X12_monad_518 : mj_dec prog_14_method_29_code 518 = some (.iload_n 3, 1) := by decide +kernel
theorem dm_X12_monad_519 : mj_dec prog_14_method_29_code 519 = some (.invokevirtual 208, 3) := by decide +kernel
theorem dm_X12_monad_522 : mj_dec prog_14_method_29_code 522 = some (.ireturn, 1) := by decide +kernel
theorem r_mon44 {xt : mj_X} {d hd q b base W : Nat} {pre post : mj_H} {s : RS} {v : VV} {place nd verb : Int} (hm : pre.length = 102) (hd1 : 60 ≤ d) (hRS : RSO) (hB : rB s) (hv : rv s 7 hd v) (hh3 : 3 ≤ hd) (hz1 : vsz 7 v ≤ 1000) (hz2 : vlv 7 v ≤ 5) (hq : s.1 4 = (q : Int)) (hb : s.1 3 = (b : Int)) (hq3 : 3 ≤ q) (hV2 : q + 2100 < 310000) (he0 : s.1 5 = 0) (hca : 0 ≤ s.1 10 ∧ s.1 10 ≤ 100) (hC : b + 291000 ≤ 820000) (hw13 : s.1 13 = (base : Int)) (hbs : base ≤ 7900) (h8 : s.1 8 = (W : Int)) (hW5 : W ≤ 500000) (hnd : 0 ≤ nd) (hvb : verb = 44) : pgV xt d 281 [.ref 102, ii verb, ii (hd : Int), ii place] (rS pre post s) (dres pre post s W 4 nd (dOne (cpS s) W verb v place)) := by
  have hB0 := hB
  obtain ⟨hB1, hB2, hB3, hB4⟩ := hB
  obtain ⟨fr, hfr, hsh, hlt, hcl, hvk, hvm, hvc, hvq, hvcl⟩ := rv_val hv
  have hvb2 : -2147483648 ≤ verb ∧ verb ≤ 2147483647 := by omega
  refine x_enter pm_X12_monad (L0 := [(0, .ref 102), (1, ii verb), (2, ii (hd : Int)), (3, ii place)]) rfl (Nat.le_of_ble_eq_true rfl) (by omega) ?_
  refine me1 (pc' := 1) (L' := [(0, .ref 102), (1, ii verb), (2, ii (hd : Int)), (3, ii place)]) (S' := [.ref 102]) dm_X12_monad_0 rfl rfl rfl rfl ?_
  refine me1 (pc' := 2) (L' := [(0, .ref 102), (1, ii verb), (2, ii (hd : Int)), (3, ii place)]) (S' := [ii (hd : Int), .ref 102]) dm_X12_monad_1 rfl rfl rfl rfl ?_
  refine x_cp (pc' := 5) (v := ii (vk v : Int)) (rest := []) dm_X12_monad_2 rfl (q_inv (As := [ii (hd : Int)]) (S := []) hm rfl rfl rfl) rfl rfl rfl (r_kindOf_ (e := 6) hm (by omega) hB0 hv) ?_
  refine me1 (pc' := 7) (L' := [(4, ii (vk v : Int)), (0, .ref 102), (1, ii verb), (2, ii (hd : Int)), (3, ii place)]) (S' := []) dm_X12_monad_5 rfl rfl rfl rfl ?_
  refine me1 (pc' := 8) (L' := [(4, ii (vk v : Int)), (0, .ref 102), (1, ii verb), (2, ii (hd : Int)), (3, ii place)]) (S' := [.ref 102]) dm_X12_monad_7 rfl rfl rfl rfl ?_
  refine me0 (pc' := 9) (S' := [ii 3, .ref 102]) dm_X12_monad_8 rfl rfl rfl rfl ?_
  refine me1 (pc' := 10) (L' := [(4, ii (vk v : Int)), (0, .ref 102), (1, ii verb), (2, ii (hd : Int)), (3, ii place)]) (S' := [.ref 102, ii 3, .ref 102]) dm_X12_monad_9 rfl rfl rfl rfl ?_
  refine me1 (pc' := 11) (L' := [(4, ii (vk v : Int)), (0, .ref 102), (1, ii verb), (2, ii (hd : Int)), (3, ii place)]) (S' := [ii (hd : Int), .ref 102, ii 3, .ref 102]) dm_X12_monad_10 rfl rfl rfl rfl ?_
  refine x_cp (pc' := 14) (v := ii (vsz 7 v : Int)) (rest := [ii 3, .ref 102]) dm_X12_monad_11 rfl (q_inv (As := [ii (hd : Int)]) (S := [ii 3, .ref 102]) hm rfl rfl rfl) rfl rfl rfl (r_sizeOf_ hm hB0 7 (by omega) hv) ?_
  refine y_iadd (a := 3) (b := (vsz 7 v : Int)) dm_X12_monad_14 (pc' := 15) rfl ?_
  refine pg_st (S' := [ii ((3 + vS v : Nat) : Int), .ref 102]) (congrArg (fun z => ii z :: [.ref 102]) (show 3 + (vsz 7 v : Int) = ((3 + vS v : Nat) : Int) by show _ = ((3 + vsz 7 v : Nat) : Int); omega)) ?_
  have hvS : vS v = vsz 7 v := rfl
  by_cases hW : W < 3 + vS v
  · refine me1 (pc' := 16) (L' := [(4, ii (vk v : Int)), (0, .ref 102), (1, ii verb), (2, ii (hd : Int)), (3, ii place)]) (S' := [ii place, ii ((3 + vS v : Nat) : Int), .ref 102]) dm_X12_monad_15 rfl rfl rfl rfl ?_
    refine x_cv (pc' := 19) (rest := []) dm_X12_monad_16 rfl (q_inv (As := [ii ((3 + vS v : Nat) : Int), ii place]) (S := []) hm rfl rfl rfl) rfl rfl rfl ((by have z := r_takes_ (xt := xt) (d := d - 1) (pre := pre) (post := post) (s := s) (n := ((3 + vS v : Nat) : Int)) (place := place) hm (by omega) he0 hca.1 hca.2 (by omega) (by omega) (by omega); rw [tkS_f (by omega), decide_eq_false (by omega)] at z; exact z)) ?_
    rintro _ _ ⟨rfl, rfl⟩
    refine me_1f (pc' := 22) dm_X12_monad_19 rfl (by decide) rfl ?_
    refine me0 (pc' := 23) (S' := [ii (-1)]) dm_X12_monad_22 rfl rfl rfl rfl ?_
    refine y_ret (r := some (ii (-1))) dm_X12_monad_23 rfl rfl rfl ?_
    refine ⟨_, rfl, ?_⟩
    rw [show dOne (cpS s) W verb v place = dEr (cpS s) W 10 place from dAc_no hW]
    exact tk_no (n := 0) he0 h8 hnd
  · refine me1 (pc' := 16) (L' := [(4, ii (vk v : Int)), (0, .ref 102), (1, ii verb), (2, ii (hd : Int)), (3, ii place)]) (S' := [ii place, ii ((3 + vS v : Nat) : Int), .ref 102]) dm_X12_monad_15 rfl rfl rfl rfl ?_
    refine x_cv (pc' := 19) (rest := []) dm_X12_monad_16 rfl (q_inv (As := [ii ((3 + vS v : Nat) : Int), ii place]) (S := []) hm rfl rfl rfl) rfl rfl rfl ((by have z := r_takes_ (xt := xt) (d := d - 1) (pre := pre) (post := post) (s := s) (n := ((3 + vS v : Nat) : Int)) (place := place) hm (by omega) he0 hca.1 hca.2 (by omega) (by omega) (by omega); rw [tkS_t (by omega), decide_eq_true (by omega)] at z; exact z)) ?_
    rintro _ _ ⟨rfl, rfl⟩
    refine me_1t (pc' := 24) dm_X12_monad_19 rfl (by decide) ?_
    refine me1 (pc' := 25) (L' := [(4, ii (vk v : Int)), (0, .ref 102), (1, ii verb), (2, ii (hd : Int)), (3, ii place)]) (S' := [.ref 102]) dm_X12_monad_24 rfl rfl rfl rfl ?_
    refine me0 (pc' := 26) (S' := [ii 0, .ref 102]) dm_X12_monad_25 rfl rfl rfl rfl ?_
    refine me3 (pc' := 29) (S' := []) (h1 := rI pre post (va_up ((takeS s ((3 + vS v : Nat) : Int)).1) 9 0) ((takeS s ((3 + vS v : Nat) : Int)).2.1) ((takeS s ((3 + vS v : Nat) : Int)).2.2.1) ((takeS s ((3 + vS v : Nat) : Int)).2.2.2)) dm_X12_monad_26 (q_puti hm rfl rfl (fun m i l v => rf_9 m i l v)) rfl rfl rfl ?_
    obtain ⟨s2, hs2⟩ : ∃ s2 : RS, s2 = (va_up (takeS s ((3 + vS v : Nat) : Int)).1 9 0, (takeS s ((3 + vS v : Nat) : Int)).2.1, (takeS s ((3 + vS v : Nat) : Int)).2.2.1, (takeS s ((3 + vS v : Nat) : Int)).2.2.2) := ⟨_, rfl⟩
    have hT := tk_tkd (W := W) hs2 he0 h8 (by omega)
    have hqS : s2.1 4 = (q : Int) := hT.2.2.2.1.trans hq
    have hbS : s2.1 3 = (b : Int) := hT.2.2.1.trans hb
    have heS : s2.1 5 = 0 := hT.2.2.2.2.1
    have hwS : s2.1 13 = (base : Int) := hT.2.2.2.2.2.2.1.trans hw13
    have hcaS : 0 ≤ s2.1 10 ∧ s2.1 10 ≤ 100 := by rw [hT.2.1.1 10 (by decide) (by decide) (by decide) (by decide) (by decide) (by decide) (by decide) (by decide) (by decide) (by decide)]; exact hca
    have hBs : rB s2 := ⟨by omega, by omega, by omega, by omega⟩
    have hvs := rv_ext hT.1 hh3 hv
    have hrs := hRS verb v (rv_wf hv) hz1 hz2
    have hww : W - (3 + vS v) + (3 + vS v) = W := by omega
    refine pg_cast (h2 := rI pre post s2.1 s2.2.1 s2.2.2.1 s2.2.2.2) (by rw [hs2]) ?_
    refine me1 (pc' := 30) (L' := [(4, ii (vk v : Int)), (0, .ref 102), (1, ii verb), (2, ii (hd : Int)), (3, ii place)]) (S' := [ii verb]) dm_X12_monad_29 rfl rfl rfl rfl ?_
    have hsp : s_one verb 6 v = m_more v := by unfold s_one; rw [if_neg (by omega), if_neg (by omega), if_neg (by omega), if_neg (by omega), if_neg (by omega), if_neg (by omega), if_neg (by omega), if_neg (by omega), if_neg (by omega), if_pos (by omega)]
    refine y_sw (a := verb) (33) (t := 413) (i := .lookupswitch 547 #[(33, 383), (35, 505), (37, 176), (38, 218), (42, 189), (43, 154), (44, 482), (45, 176), (46, 493), (60, 294), (61, 359), (62, 294), (63, 371), (64, 533), (94, 294), (95, 522), (124, 230), (126, 176)]) (len := 154) dm_X12_monad_30 rfl rfl rfl (by omega) (by decide) (fun hb1 => ?_) (fun hb1 => ?_)
    · exfalso; omega
    refine y_sw (a := verb) (35) (t := 535) (i := .lookupswitch 547 #[(33, 383), (35, 505), (37, 176), (38, 218), (42, 189), (43, 154), (44, 482), (45, 176), (46, 493), (60, 294), (61, 359), (62, 294), (63, 371), (64, 533), (94, 294), (95, 522), (124, 230), (126, 176)]) (len := 154) dm_X12_monad_30 rfl rfl rfl (by omega) (by decide) (fun hb2 => ?_) (fun hb2 => ?_)
    · exfalso; omega
    refine y_sw (a := verb) (37) (t := 206) (i := .lookupswitch 547 #[(33, 383), (35, 505), (37, 176), (38, 218), (42, 189), (43, 154), (44, 482), (45, 176), (46, 493), (60, 294), (61, 359), (62, 294), (63, 371), (64, 533), (94, 294), (95, 522), (124, 230), (126, 176)]) (len := 154) dm_X12_monad_30 rfl rfl rfl (by omega) (by decide) (fun hb3 => ?_) (fun hb3 => ?_)
    · exfalso; omega
    refine y_sw (a := verb) (38) (t := 248) (i := .lookupswitch 547 #[(33, 383), (35, 505), (37, 176), (38, 218), (42, 189), (43, 154), (44, 482), (45, 176), (46, 493), (60, 294), (61, 359), (62, 294), (63, 371), (64, 533), (94, 294), (95, 522), (124, 230), (126, 176)]) (len := 154) dm_X12_monad_30 rfl rfl rfl (by omega) (by decide) (fun hb4 => ?_) (fun hb4 => ?_)
    · exfalso; omega
    refine y_sw (a := verb) (42) (t := 219) (i := .lookupswitch 547 #[(33, 383), (35, 505), (37, 176), (38, 218), (42, 189), (43, 154), (44, 482), (45, 176), (46, 493), (60, 294), (61, 359), (62, 294), (63, 371), (64, 533), (94, 294), (95, 522), (124, 230), (126, 176)]) (len := 154) dm_X12_monad_30 rfl rfl rfl (by omega) (by decide) (fun hb5 => ?_) (fun hb5 => ?_)
    · exfalso; omega
    refine y_sw (a := verb) (43) (t := 184) (i := .lookupswitch 547 #[(33, 383), (35, 505), (37, 176), (38, 218), (42, 189), (43, 154), (44, 482), (45, 176), (46, 493), (60, 294), (61, 359), (62, 294), (63, 371), (64, 533), (94, 294), (95, 522), (124, 230), (126, 176)]) (len := 154) dm_X12_monad_30 rfl rfl rfl (by omega) (by decide) (fun hb6 => ?_) (fun hb6 => ?_)
    · exfalso; omega
    refine y_sw (a := verb) (44) (t := 512) (i := .lookupswitch 547 #[(33, 383), (35, 505), (37, 176), (38, 218), (42, 189), (43, 154), (44, 482), (45, 176), (46, 493), (60, 294), (61, 359), (62, 294), (63, 371), (64, 533), (94, 294), (95, 522), (124, 230), (126, 176)]) (len := 154) dm_X12_monad_30 rfl rfl rfl (by omega) (by decide) (fun hb7 => ?_) (fun hb7 => ?_)
    · refine me1 (pc' := 513) (L' := [(4, ii (vk v : Int)), (0, .ref 102), (1, ii verb), (2, ii (hd : Int)), (3, ii place)]) (S' := [.ref 102]) dm_X12_monad_512 rfl rfl rfl rfl ?_
      refine me1 (pc' := 514) (L' := [(4, ii (vk v : Int)), (0, .ref 102), (1, ii verb), (2, ii (hd : Int)), (3, ii place)]) (S' := [.ref 102, .ref 102]) dm_X12_monad_513 rfl rfl rfl rfl ?_
      refine me1 (pc' := 515) (L' := [(4, ii (vk v : Int)), (0, .ref 102), (1, ii verb), (2, ii (hd : Int)), (3, ii place)]) (S' := [ii (hd : Int), .ref 102, .ref 102]) dm_X12_monad_514 rfl rfl rfl rfl ?_
      refine x_cv (pc' := 518) (rest := [.ref 102]) dm_X12_monad_515 rfl (q_inv (As := [ii (hd : Int)]) (S := [.ref 102]) hm rfl rfl rfl) rfl rfl rfl (r_oneMore_ (e := 6) (q := q) (b := b) (s := s2) (place := place) hm (by omega) hBs hvs hh3 hqS hbS hq3 (by omega) heS hcaS (by omega)) ?_
      rintro x1 g1 hres
      have hG : rG pre post s2 8 (m_more v) place (rcb (m_more v) 1) (rvb (m_more v) 1) x1 g1 := rG_r hres
      obtain ⟨z1, rfl⟩ := rG_ii hG
      obtain ⟨t1, rfl⟩ := rG_st hG
      refine me1 (pc' := 519) (L' := [(4, ii (vk v : Int)), (0, .ref 102), (1, ii verb), (2, ii (hd : Int)), (3, ii place)]) (S' := [ii place, ii z1, .ref 102]) dm_X12_monad_518 rfl rfl rfl rfl ?_
      refine x_cv (pc' := 522) (rest := []) dm_X12_monad_519 rfl (q_inv (As := [ii z1, ii place]) (S := []) hm rfl rfl rfl) rfl rfl rfl (r_mdo1 (s := s) (s2 := s2) (W2 := W - (3 + vS v)) (cost := 3 + vS v) (cb := 1) (o := m_more v) (c := 4) (nd := nd) hm (by omega) hT hB0 hG hca (by omega) hnd (fun n hn => hrs.1 n (hsp.trans hn)) (fun r hr => hrs.2 r (hsp.trans hr)) (by omega) (by omega) (by omega)) ?_
      rintro x9 g9 hfin
      obtain ⟨z9, rfl⟩ := dres_ii hfin
      obtain ⟨t9, rfl⟩ := dres_st hfin
      refine y_ret (r := some (ii z9)) dm_X12_monad_522 rfl rfl rfl ?_
      have e9 : dOne (cpS s) W verb v place = dMo (cpS s) (W - (3 + vS v)) 0 (m_more v) place := by unfold dOne; rw [dAc_mo (by omega), hsp]
      rw [hww] at hfin
      rw [e9]
      exact ⟨_, rfl, hfin⟩
    refine y_sw (a := verb) (45) (t := 206) (i := .lookupswitch 547 #[(33, 383), (35, 505), (37, 176), (38, 218), (42, 189), (43, 154), (44, 482), (45, 176), (46, 493), (60, 294), (61, 359), (62, 294), (63, 371), (64, 533), (94, 294), (95, 522), (124, 230), (126, 176)]) (len := 154) dm_X12_monad_30 rfl rfl rfl (by omega) (by decide) (fun hb8 => ?_) (fun hb8 => ?_)
    · exfalso; omega
    refine y_sw (a := verb) (46) (t := 523) (i := .lookupswitch 547 #[(33, 383), (35, 505), (37, 176), (38, 218), (42, 189), (43, 154), (44, 482), (45, 176), (46, 493), (60, 294), (61, 359), (62, 294), (63, 371), (64, 533), (94, 294), (95, 522), (124, 230), (126, 176)]) (len := 154) dm_X12_monad_30 rfl rfl rfl (by omega) (by decide) (fun hb9 => ?_) (fun hb9 => ?_)
    · exfalso; omega
    refine y_sw (a := verb) (60) (t := 324) (i := .lookupswitch 547 #[(33, 383), (35, 505), (37, 176), (38, 218), (42, 189), (43, 154), (44, 482), (45, 176), (46, 493), (60, 294), (61, 359), (62, 294), (63, 371), (64, 533), (94, 294), (95, 522), (124, 230), (126, 176)]) (len := 154) dm_X12_monad_30 rfl rfl rfl (by omega) (by decide) (fun hb10 => ?_) (fun hb10 => ?_)
    · exfalso; omega
    refine y_sw (a := verb) (61) (t := 389) (i := .lookupswitch 547 #[(33, 383), (35, 505), (37, 176), (38, 218), (42, 189), (43, 154), (44, 482), (45, 176), (46, 493), (60, 294), (61, 359), (62, 294), (63, 371), (64, 533), (94, 294), (95, 522), (124, 230), (126, 176)]) (len := 154) dm_X12_monad_30 rfl rfl rfl (by omega) (by decide) (fun hb11 => ?_) (fun hb11 => ?_)
    · exfalso; omega
    refine y_sw (a := verb) (62) (t := 324) (i := .lookupswitch 547 #[(33, 383), (35, 505), (37, 176), (38, 218), (42, 189), (43, 154), (44, 482), (45, 176), (46, 493), (60, 294), (61, 359), (62, 294), (63, 371), (64, 533), (94, 294), (95, 522), (124, 230), (126, 176)]) (len := 154) dm_X12_monad_30 rfl rfl rfl (by omega) (by decide) (fun hb12 => ?_) (fun hb12 => ?_)
    · exfalso; omega
    refine y_sw (a := verb) (63) (t := 401) (i := .lookupswitch 547 #[(33, 383), (35, 505), (37, 176), (38, 218), (42, 189), (43, 154), (44, 482), (45, 176), (46, 493), (60, 294), (61, 359), (62, 294), (63, 371), (64, 533), (94, 294), (95, 522), (124, 230), (126, 176)]) (len := 154) dm_X12_monad_30 rfl rfl rfl (by omega) (by decide) (fun hb13 => ?_) (fun hb13 => ?_)
    · exfalso; omega
    refine y_sw (a := verb) (64) (t := 563) (i := .lookupswitch 547 #[(33, 383), (35, 505), (37, 176), (38, 218), (42, 189), (43, 154), (44, 482), (45, 176), (46, 493), (60, 294), (61, 359), (62, 294), (63, 371), (64, 533), (94, 294), (95, 522), (124, 230), (126, 176)]) (len := 154) dm_X12_monad_30 rfl rfl rfl (by omega) (by decide) (fun hb14 => ?_) (fun hb14 => ?_)
    · exfalso; omega
    refine y_sw (a := verb) (94) (t := 324) (i := .lookupswitch 547 #[(33, 383), (35, 505), (37, 176), (38, 218), (42, 189), (43, 154), (44, 482), (45, 176), (46, 493), (60, 294), (61, 359), (62, 294), (63, 371), (64, 533), (94, 294), (95, 522), (124, 230), (126, 176)]) (len := 154) dm_X12_monad_30 rfl rfl rfl (by omega) (by decide) (fun hb15 => ?_) (fun hb15 => ?_)
    · exfalso; omega
    refine y_sw (a := verb) (95) (t := 552) (i := .lookupswitch 547 #[(33, 383), (35, 505), (37, 176), (38, 218), (42, 189), (43, 154), (44, 482), (45, 176), (46, 493), (60, 294), (61, 359), (62, 294), (63, 371), (64, 533), (94, 294), (95, 522), (124, 230), (126, 176)]) (len := 154) dm_X12_monad_30 rfl rfl rfl (by omega) (by decide) (fun hb16 => ?_) (fun hb16 => ?_)
    · exfalso; omega
    refine y_sw (a := verb) (124) (t := 260) (i := .lookupswitch 547 #[(33, 383), (35, 505), (37, 176), (38, 218), (42, 189), (43, 154), (44, 482), (45, 176), (46, 493), (60, 294), (61, 359), (62, 294), (63, 371), (64, 533), (94, 294), (95, 522), (124, 230), (126, 176)]) (len := 154) dm_X12_monad_30 rfl rfl rfl (by omega) (by decide) (fun hb17 => ?_) (fun hb17 => ?_)
    · exfalso; omega
    refine y_sw (a := verb) (126) (t := 206) (i := .lookupswitch 547 #[(33, 383), (35, 505), (37, 176), (38, 218), (42, 189), (43, 154), (44, 482), (45, 176), (46, 493), (60, 294), (61, 359), (62, 294), (63, 371), (64, 533), (94, 294), (95, 522), (124, 230), (126, 176)]) (len := 154) dm_X12_monad_30 rfl rfl rfl (by omega) (by decide) (fun hb18 => ?_) (fun hb18 => ?_)
    · exfalso; omega
    exfalso; omega
theorem dm_X12_monad_577 : mj_dec prog_14_method_29_code 577 = some (.aload_n 0, 1) := by decide +kernel
theorem dm_X12_monad_578 : mj_dec prog_14_method_29_code 578 = some (.aload_n 0, 1) := by decide +kernel
theorem dm_X12_monad_579 : mj_dec prog_14_method_29_code 579 = some (.iload_n 2, 1) := by decide +kernel
theorem dm_X12_monad_580 : mj_dec prog_14_method_29_code 580 = some (.iload_n 3, 1) := by decide +kernel
theorem dm_X12_monad_581 : mj_dec prog_14_method_29_code 581 = some (.invokevirtual 250, 3) := by decide +kernel
theorem dm_X12_monad_584 : mj_dec prog_14_method_29_code 584 = some (.iload_n 3, 1) := by decide +kernel
theorem dm_X12_monad_585 : mj_dec prog_14_method_29_code 585 = some (.invokevirtual 208, 3) := by decide +kernel
theorem dm_X12_monad_588 : mj_dec prog_14_method_29_code 588 = some (.ireturn, 1) := by decide +kernel
theorem r_mon36 {xt : mj_X} {d hd q b base W : Nat} {pre post : mj_H} {s : RS} {v : VV} {place nd verb : Int} (hm : pre.length = 102) (hd1 : 60 ≤ d) (hRS : RSO) (hB : rB s) (hv : rv s 7 hd v) (hh3 : 3 ≤ hd) (hz1 : vsz 7 v ≤ 1000) (hz2 : vlv 7 v ≤ 5) (hq : s.1 4 = (q : Int)) (hb : s.1 3 = (b : Int)) (hq3 : 3 ≤ q) (hV2 : q + 2100 < 310000) (he0 : s.1 5 = 0) (hca : 0 ≤ s.1 10 ∧ s.1 10 ≤ 100) (hC : b + 291000 ≤ 820000) (hw13 : s.1 13 = (base : Int)) (hbs : base ≤ 7900) (h8 : s.1 8 = (W : Int)) (hW5 : W ≤ 500000) (hnd : 0 ≤ nd) (hvb : verb = 36) : pgV xt d 281 [.ref 102, ii verb, ii (hd : Int), ii place] (rS pre post s) (dres pre post s W 4 nd (dOne (cpS s) W verb v place)) := by
  have hB0 := hB
  obtain ⟨hB1, hB2, hB3, hB4⟩ := hB
  obtain ⟨fr, hfr, hsh, hlt, hcl, hvk, hvm, hvc, hvq, hvcl⟩ := rv_val hv
  have hvb2 : -2147483648 ≤ verb ∧ verb ≤ 2147483647 := by omega
  refine x_enter pm_X12_monad (L0 := [(0, .ref 102), (1, ii verb), (2, ii (hd : Int)), (3, ii place)]) rfl (Nat.le_of_ble_eq_true rfl) (by omega) ?_
  refine me1 (pc' := 1) (L' := [(0, .ref 102), (1, ii verb), (2, ii (hd : Int)), (3, ii place)]) (S' := [.ref 102]) dm_X12_monad_0 rfl rfl rfl rfl ?_
  refine me1 (pc' := 2) (L' := [(0, .ref 102), (1, ii verb), (2, ii (hd : Int)), (3, ii place)]) (S' := [ii (hd : Int), .ref 102]) dm_X12_monad_1 rfl rfl rfl rfl ?_
  refine x_cp (pc' := 5) (v := ii (vk v : Int)) (rest := []) dm_X12_monad_2 rfl (q_inv (As := [ii (hd : Int)]) (S := []) hm rfl rfl rfl) rfl rfl rfl (r_kindOf_ (e := 6) hm (by omega) hB0 hv) ?_
  refine me1 (pc' := 7) (L' := [(4, ii (vk v : Int)), (0, .ref 102), (1, ii verb), (2, ii (hd : Int)), (3, ii place)]) (S' := []) dm_X12_monad_5 rfl rfl rfl rfl ?_
  refine me1 (pc' := 8) (L' := [(4, ii (vk v : Int)), (0, .ref 102), (1, ii verb), (2, ii (hd : Int)), (3, ii place)]) (S' := [.ref 102]) dm_X12_monad_7 rfl rfl rfl rfl ?_
  refine me0 (pc' := 9) (S' := [ii 3, .ref 102]) dm_X12_monad_8 rfl rfl rfl rfl ?_
  refine me1 (pc' := 10) (L' := [(4, ii (vk v : Int)), (0, .ref 102), (1, ii verb), (2, ii (hd : Int)), (3, ii place)]) (S' := [.ref 102, ii 3, .ref 102]) dm_X12_monad_9 rfl rfl rfl rfl ?_
  refine me1 (pc' := 11) (L' := [(4, ii (vk v : Int)), (0, .ref 102), (1, ii verb), (2, ii (hd : Int)), (3, ii place)]) (S' := [ii (hd : Int), .ref 102, ii 3, .ref 102]) dm_X12_monad_10 rfl rfl rfl rfl ?_
  refine x_cp (pc' := 14) (v := ii (vsz 7 v : Int)) (rest := [ii 3, .ref 102]) dm_X12_monad_11 rfl (q_inv (As := [ii (hd : Int)]) (S := [ii 3, .ref 102]) hm rfl rfl rfl) rfl rfl rfl (r_sizeOf_ hm hB0 7 (by omega) hv) ?_
  refine y_iadd (a := 3) (b := (vsz 7 v : Int)) dm_X12_monad_14 (pc' := 15) rfl ?_
  refine pg_st (S' := [ii ((3 + vS v : Nat) : Int), .ref 102]) (congrArg (fun z => ii z :: [.ref 102]) (show 3 + (vsz 7 v : Int) = ((3 + vS v : Nat) : Int) by show _ = ((3 + vsz 7 v : Nat) : Int); omega)) ?_
  have hvS : vS v = vsz 7 v := rfl
  by_cases hW : W < 3 + vS v
  · refine me1 (pc' := 16) (L' := [(4, ii (vk v : Int)), (0, .ref 102), (1, ii verb), (2, ii (hd : Int)), (3, ii place)]) (S' := [ii place, ii ((3 + vS v : Nat) : Int), .ref 102]) dm_X12_monad_15 rfl rfl rfl rfl ?_
    refine x_cv (pc' := 19) (rest := []) dm_X12_monad_16 rfl (q_inv (As := [ii ((3 + vS v : Nat) : Int), ii place]) (S := []) hm rfl rfl rfl) rfl rfl rfl ((by have z := r_takes_ (xt := xt) (d := d - 1) (pre := pre) (post := post) (s := s) (n := ((3 + vS v : Nat) : Int)) (place := place) hm (by omega) he0 hca.1 hca.2 (by omega) (by omega) (by omega); rw [tkS_f (by omega), decide_eq_false (by omega)] at z; exact z)) ?_
    rintro _ _ ⟨rfl, rfl⟩
    refine me_1f (pc' := 22) dm_X12_monad_19 rfl (by decide) rfl ?_
    refine me0 (pc' := 23) (S' := [ii (-1)]) dm_X12_monad_22 rfl rfl rfl rfl ?_
    refine y_ret (r := some (ii (-1))) dm_X12_monad_23 rfl rfl rfl ?_
    refine ⟨_, rfl, ?_⟩
    rw [show dOne (cpS s) W verb v place = dEr (cpS s) W 10 place from dAc_no hW]
    exact tk_no (n := 0) he0 h8 hnd
  · refine me1 (pc' := 16) (L' := [(4, ii (vk v : Int)), (0, .ref 102), (1, ii verb), (2, ii (hd : Int)), (3, ii place)]) (S' := [ii place, ii ((3 + vS v : Nat) : Int), .ref 102]) dm_X12_monad_15 rfl rfl rfl rfl ?_
    refine x_cv (pc' := 19) (rest := []) dm_X12_monad_16 rfl (q_inv (As := [ii ((3 + vS v : Nat) : Int), ii place]) (S := []) hm rfl rfl rfl) rfl rfl rfl ((by have z := r_takes_ (xt := xt) (d := d - 1) (pre := pre) (post := post) (s := s) (n := ((3 + vS v : Nat) : Int)) (place := place) hm (by omega) he0 hca.1 hca.2 (by omega) (by omega) (by omega); rw [tkS_t (by omega), decide_eq_true (by omega)] at z; exact z)) ?_
    rintro _ _ ⟨rfl, rfl⟩
    refine me_1t (pc' := 24) dm_X12_monad_19 rfl (by decide) ?_
    refine me1 (pc' := 25) (L' := [(4, ii (vk v : Int)), (0, .ref 102), (1, ii verb), (2, ii (hd : Int)), (3, ii place)]) (S' := [.ref 102]) dm_X12_monad_24 rfl rfl rfl rfl ?_
    refine me0 (pc' := 26) (S' := [ii 0, .ref 102]) dm_X12_monad_25 rfl rfl rfl rfl ?_
    refine me3 (pc' := 29) (S' := []) (h1 := rI pre post (va_up ((takeS s ((3 + vS v : Nat) : Int)).1) 9 0) ((takeS s ((3 + vS v : Nat) : Int)).2.1) ((takeS s ((3 + vS v : Nat) : Int)).2.2.1) ((takeS s ((3 + vS v : Nat) : Int)).2.2.2)) dm_X12_monad_26 (q_puti hm rfl rfl (fun m i l v => rf_9 m i l v)) rfl rfl rfl ?_
    obtain ⟨s2, hs2⟩ : ∃ s2 : RS, s2 = (va_up (takeS s ((3 + vS v : Nat) : Int)).1 9 0, (takeS s ((3 + vS v : Nat) : Int)).2.1, (takeS s ((3 + vS v : Nat) : Int)).2.2.1, (takeS s ((3 + vS v : Nat) : Int)).2.2.2) := ⟨_, rfl⟩
    have hT := tk_tkd (W := W) hs2 he0 h8 (by omega)
    have hqS : s2.1 4 = (q : Int) := hT.2.2.2.1.trans hq
    have hbS : s2.1 3 = (b : Int) := hT.2.2.1.trans hb
    have heS : s2.1 5 = 0 := hT.2.2.2.2.1
    have hwS : s2.1 13 = (base : Int) := hT.2.2.2.2.2.2.1.trans hw13
    have hcaS : 0 ≤ s2.1 10 ∧ s2.1 10 ≤ 100 := by rw [hT.2.1.1 10 (by decide) (by decide) (by decide) (by decide) (by decide) (by decide) (by decide) (by decide) (by decide) (by decide)]; exact hca
    have hBs : rB s2 := ⟨by omega, by omega, by omega, by omega⟩
    have hvs := rv_ext hT.1 hh3 hv
    have hrs := hRS verb v (rv_wf hv) hz1 hz2
    have hww : W - (3 + vS v) + (3 + vS v) = W := by omega
    refine pg_cast (h2 := rI pre post s2.1 s2.2.1 s2.2.2.1 s2.2.2.2) (by rw [hs2]) ?_
    refine me1 (pc' := 30) (L' := [(4, ii (vk v : Int)), (0, .ref 102), (1, ii verb), (2, ii (hd : Int)), (3, ii place)]) (S' := [ii verb]) dm_X12_monad_29 rfl rfl rfl rfl ?_
    have hsp : s_one verb 6 v = m_text 7 v := by unfold s_one; rw [if_neg (by omega), if_neg (by omega), if_neg (by omega), if_neg (by omega), if_neg (by omega), if_neg (by omega), if_neg (by omega), if_neg (by omega), if_neg (by omega), if_neg (by omega), if_neg (by omega), if_neg (by omega), if_neg (by omega), if_neg (by omega), if_pos (by omega)]
    refine y_sw (a := verb) (33) (t := 413) (i := .lookupswitch 547 #[(33, 383), (35, 505), (37, 176), (38, 218), (42, 189), (43, 154), (44, 482), (45, 176), (46, 493), (60, 294), (61, 359), (62, 294), (63, 371), (64, 533), (94, 294), (95, 522), (124, 230), (126, 176)]) (len := 154) dm_X12_monad_30 rfl rfl rfl (by omega) (by decide) (fun hb1 => ?_) (fun hb1 => ?_)
    · exfalso; omega
    refine y_sw (a := verb) (35) (t := 535) (i := .lookupswitch 547 #[(33, 383), (35, 505), (37, 176), (38, 218), (42, 189), (43, 154), (44, 482), (45, 176), (46, 493), (60, 294), (61, 359), (62, 294), (63, 371), (64, 533), (94, 294), (95, 522), (124, 230), (126, 176)]) (len := 154) dm_X12_monad_30 rfl rfl rfl (by omega) (by decide) (fun hb2 => ?_) (fun hb2 => ?_)
    · exfalso; omega
    refine y_sw (a := verb) (37) (t := 206) (i := .lookupswitch 547 #[(33, 383), (35, 505), (37, 176), (38, 218), (42, 189), (43, 154), (44, 482), (45, 176), (46, 493), (60, 294), (61, 359), (62, 294), (63, 371), (64, 533), (94, 294), (95, 522), (124, 230), (126, 176)]) (len := 154) dm_X12_monad_30 rfl rfl rfl (by omega) (by decide) (fun hb3 => ?_) (fun hb3 => ?_)
    · exfalso; omega
    refine y_sw (a := verb) (38) (t := 248) (i := .lookupswitch 547 #[(33, 383), (35, 505), (37, 176), (38, 218), (42, 189), (43, 154), (44, 482), (45, 176), (46, 493), (60, 294), (61, 359), (62, 294), (63, 371), (64, 533), (94, 294), (95, 522), (124, 230), (126, 176)]) (len := 154) dm_X12_monad_30 rfl rfl rfl (by omega) (by decide) (fun hb4 => ?_) (fun hb4 => ?_)
    · exfalso; omega
    refine y_sw (a := verb) (42) (t := 219) (i := .lookupswitch 547 #[(33, 383), (35, 505), (37, 176), (38, 218), (42, 189), (43, 154), (44, 482), (45, 176), (46, 493), (60, 294), (61, 359), (62, 294), (63, 371), (64, 533), (94, 294), (95, 522), (124, 230), (126, 176)]) (len := 154) dm_X12_monad_30 rfl rfl rfl (by omega) (by decide) (fun hb5 => ?_) (fun hb5 => ?_)
    · exfalso; omega
    refine y_sw (a := verb) (43) (t := 184) (i := .lookupswitch 547 #[(33, 383), (35, 505), (37, 176), (38, 218), (42, 189), (43, 154), (44, 482), (45, 176), (46, 493), (60, 294), (61, 359), (62, 294), (63, 371), (64, 533), (94, 294), (95, 522), (124, 230), (126, 176)]) (len := 154) dm_X12_monad_30 rfl rfl rfl (by omega) (by decide) (fun hb6 => ?_) (fun hb6 => ?_)
    · exfalso; omega
    refine y_sw (a := verb) (44) (t := 512) (i := .lookupswitch 547 #[(33, 383), (35, 505), (37, 176), (38, 218), (42, 189), (43, 154), (44, 482), (45, 176), (46, 493), (60, 294), (61, 359), (62, 294), (63, 371), (64, 533), (94, 294), (95, 522), (124, 230), (126, 176)]) (len := 154) dm_X12_monad_30 rfl rfl rfl (by omega) (by decide) (fun hb7 => ?_) (fun hb7 => ?_)
    · exfalso; omega
    refine y_sw (a := verb) (45) (t := 206) (i := .lookupswitch 547 #[(33, 383), (35, 505), (37, 176), (38, 218), (42, 189), (43, 154), (44, 482), (45, 176), (46, 493), (60, 294), (61, 359), (62, 294), (63, 371), (64, 533), (94, 294), (95, 522), (124, 230), (126, 176)]) (len := 154) dm_X12_monad_30 rfl rfl rfl (by omega) (by decide) (fun hb8 => ?_) (fun hb8 => ?_)
    · exfalso; omega
    refine y_sw (a := verb) (46) (t := 523) (i := .lookupswitch 547 #[(33, 383), (35, 505), (37, 176), (38, 218), (42, 189), (43, 154), (44, 482), (45, 176), (46, 493), (60, 294), (61, 359), (62, 294), (63, 371), (64, 533), (94, 294), (95, 522), (124, 230), (126, 176)]) (len := 154) dm_X12_monad_30 rfl rfl rfl (by omega) (by decide) (fun hb9 => ?_) (fun hb9 => ?_)
    · exfalso; omega
    refine y_sw (a := verb) (60) (t := 324) (i := .lookupswitch 547 #[(33, 383), (35, 505), (37, 176), (38, 218), (42, 189), (43, 154), (44, 482), (45, 176), (46, 493), (60, 294), (61, 359), (62, 294), (63, 371), (64, 533), (94, 294), (95, 522), (124, 230), (126, 176)]) (len := 154) dm_X12_monad_30 rfl rfl rfl (by omega) (by decide) (fun hb10 => ?_) (fun hb10 => ?_)
    · exfalso; omega
    refine y_sw (a := verb) (61) (t := 389) (i := .lookupswitch 547 #[(33, 383), (35, 505), (37, 176), (38, 218), (42, 189), (43, 154), (44, 482), (45, 176), (46, 493), (60, 294), (61, 359), (62, 294), (63, 371), (64, 533), (94, 294), (95, 522), (124, 230), (126, 176)]) (len := 154) dm_X12_monad_30 rfl rfl rfl (by omega) (by decide) (fun hb11 => ?_) (fun hb11 => ?_)
    · exfalso; omega
    refine y_sw (a := verb) (62) (t := 324) (i := .lookupswitch 547 #[(33, 383), (35, 505), (37, 176), (38, 218), (42, 189), (43, 154), (44, 482), (45, 176), (46, 493), (60, 294), (61, 359), (62, 294), (63, 371), (64, 533), (94, 294), (95, 522), (124, 230), (126, 176)]) (len := 154) dm_X12_monad_30 rfl rfl rfl (by omega) (by decide) (fun hb12 => ?_) (fun hb12 => ?_)
    · exfalso; omega
    refine y_sw (a := verb) (63) (t := 401) (i := .lookupswitch 547 #[(33, 383), (35, 505), (37, 176), (38, 218), (42, 189), (43, 154), (44, 482), (45, 176), (46, 493), (60, 294), (61, 359), (62, 294), (63, 371), (64, 533), (94, 294), (95, 522), (124, 230), (126, 176)]) (len := 154) dm_X12_monad_30 rfl rfl rfl (by omega) (by decide) (fun hb13 => ?_) (fun hb13 => ?_)
    · exfalso; omega
    refine y_sw (a := verb) (64) (t := 563) (i := .lookupswitch 547 #[(33, 383), (35, 505), (37, 176), (38, 218), (42, 189), (43, 154), (44, 482), (45, 176), (46, 493), (60, 294), (61, 359), (62, 294), (63, 371), (64, 533), (94, 294), (95, 522), (124, 230), (126, 176)]) (len := 154) dm_X12_monad_30 rfl rfl rfl (by omega) (by decide) (fun hb14 => ?_) (fun hb14 => ?_)
    · exfalso; omega
    refine y_sw (a := verb) (94) (t := 324) (i := .lookupswitch 547 #[(33, 383), (35, 505), (37, 176), (38, 218), (42, 189), (43, 154), (44, 482), (45, 176), (46, 493), (60, 294), (61, 359), (62, 294), (63, 371), (64, 533), (94, 294), (95, 522), (124, 230), (126, 176)]) (len := 154) dm_X12_monad_30 rfl rfl rfl (by omega) (by decide) (fun hb15 => ?_) (fun hb15 => ?_)
    · exfalso; omega
    refine y_sw (a := verb) (95) (t := 552) (i := .lookupswitch 547 #[(33, 383), (35, 505), (37, 176), (38, 218), (42, 189), (43, 154), (44, 482), (45, 176), (46, 493), (60, 294), (61, 359), (62, 294), (63, 371), (64, 533), (94, 294), (95, 522), (124, 230), (126, 176)]) (len := 154) dm_X12_monad_30 rfl rfl rfl (by omega) (by decide) (fun hb16 => ?_) (fun hb16 => ?_)
    · exfalso; omega
    refine y_sw (a := verb) (124) (t := 260) (i := .lookupswitch 547 #[(33, 383), (35, 505), (37, 176), (38, 218), (42, 189), (43, 154), (44, 482), (45, 176), (46, 493), (60, 294), (61, 359), (62, 294), (63, 371), (64, 533), (94, 294), (95, 522), (124, 230), (126, 176)]) (len := 154) dm_X12_monad_30 rfl rfl rfl (by omega) (by decide) (fun hb17 => ?_) (fun hb17 => ?_)
    · exfalso; omega
    refine y_sw (a := verb) (126) (t := 206) (i := .lookupswitch 547 #[(33, 383), (35, 505), (37, 176), (38, 218), (42, 189), (43, 154), (44, 482), (45, 176), (46, 493), (60, 294), (61, 359), (62, 294), (63, 371), (64, 533), (94, 294), (95, 522), (124, 230), (126, 176)]) (len := 154) dm_X12_monad_30 rfl rfl rfl (by omega) (by decide) (fun hb18 => ?_) (fun hb18 => ?_)
    · exfalso; omega
    refine me2 (pc' := 577) (S' := []) dm_X12_monad_30 (sw_ldef [Int32.ofInt 33, Int32.ofInt 35, Int32.ofInt 37, Int32.ofInt 38, Int32.ofInt 42, Int32.ofInt 43, Int32.ofInt 44, Int32.ofInt 45, Int32.ofInt 46, Int32.ofInt 60, Int32.ofInt 61, Int32.ofInt 62, Int32.ofInt 63, Int32.ofInt 64, Int32.ofInt 94, Int32.ofInt 95, Int32.ofInt 124, Int32.ofInt 126] rfl rfl rfl ⟨y_no (by omega) (by decide) hb1, y_no (by omega) (by decide) hb2, y_no (by omega) (by decide) hb3, y_no (by omega) (by decide) hb4, y_no (by omega) (by decide) hb5, y_no (by omega) (by decide) hb6, y_no (by omega) (by decide) hb7, y_no (by omega) (by decide) hb8, y_no (by omega) (by decide) hb9, y_no (by omega) (by decide) hb10, y_no (by omega) (by decide) hb11, y_no (by omega) (by decide) hb12, y_no (by omega) (by decide) hb13, y_no (by omega) (by decide) hb14, y_no (by omega) (by decide) hb15, y_no (by omega) (by decide) hb16, y_no (by omega) (by decide) hb17, y_no (by omega) (by decide) hb18, trivial⟩) rfl rfl ?_
    refine me1 (pc' := 578) (L' := [(4, ii (vk v : Int)), (0, .ref 102), (1, ii verb), (2, ii (hd : Int)), (3, ii place)]) (S' := [.ref 102]) dm_X12_monad_577 rfl rfl rfl rfl ?_
    refine me1 (pc' := 579) (L' := [(4, ii (vk v : Int)), (0, .ref 102), (1, ii verb), (2, ii (hd : Int)), (3, ii place)]) (S' := [.ref 102, .ref 102]) dm_X12_monad_578 rfl rfl rfl rfl ?_
    refine me1 (pc' := 580) (L' := [(4, ii (vk v : Int)), (0, .ref 102), (1, ii verb), (2, ii (hd : Int)), (3, ii place)]) (S' := [ii (hd : Int), .ref 102, .ref 102]) dm_X12_monad_579 rfl rfl rfl rfl ?_
    refine me1 (pc' := 581) (L' := [(4, ii (vk v : Int)), (0, .ref 102), (1, ii verb), (2, ii (hd : Int)), (3, ii place)]) (S' := [ii place, ii (hd : Int), .ref 102, .ref 102]) dm_X12_monad_580 rfl rfl rfl rfl ?_
    refine x_cv (pc' := 584) (rest := [.ref 102]) dm_X12_monad_581 rfl (q_inv (As := [ii (hd : Int), ii place]) (S := [.ref 102]) hm rfl rfl rfl) rfl rfl rfl (r_text_ (e := 6) (q := q) (b := b) (s := s2) (place := place) hm (by omega) hBs hvs hh3 hqS hbS hq3 (by omega) heS hcaS (by omega)) ?_
    rintro x1 g1 hres
    have hG : rG pre post s2 8 (m_text 7 v) place (rcb (m_text 7 v) 120) (rvb (m_text 7 v) 1) x1 g1 := rG_up (rG_r hres)
    obtain ⟨z1, rfl⟩ := rG_ii hG
    obtain ⟨t1, rfl⟩ := rG_st hG
    refine me1 (pc' := 585) (L' := [(4, ii (vk v : Int)), (0, .ref 102), (1, ii verb), (2, ii (hd : Int)), (3, ii place)]) (S' := [ii place, ii z1, .ref 102]) dm_X12_monad_584 rfl rfl rfl rfl ?_
    refine x_cv (pc' := 588) (rest := []) dm_X12_monad_585 rfl (q_inv (As := [ii z1, ii place]) (S := []) hm rfl rfl rfl) rfl rfl rfl (r_mdo1 (s := s) (s2 := s2) (W2 := W - (3 + vS v)) (cost := 3 + vS v) (cb := 120) (o := m_text 7 v) (c := 4) (nd := nd) hm (by omega) hT hB0 hG hca (by omega) hnd (fun n hn => hrs.1 n (hsp.trans hn)) (fun r hr => hrs.2 r (hsp.trans hr)) (by omega) (by omega) (by omega)) ?_
    rintro x9 g9 hfin
    obtain ⟨z9, rfl⟩ := dres_ii hfin
    obtain ⟨t9, rfl⟩ := dres_st hfin
    refine y_ret (r := some (ii z9)) dm_X12_monad_588 rfl rfl rfl ?_
    have e9 : dOne (cpS s) W verb v place = dMo (cpS s) (W - (3 + vS v)) 0 (m_text 7 v) place := by unfold dOne; rw [dAc_mo (by omega), hsp]
    rw [hww] at hfin
    rw [e9]
    exact ⟨_, rfl, hfin⟩
