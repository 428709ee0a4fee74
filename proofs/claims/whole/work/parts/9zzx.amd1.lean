theorem r_amended1_ {base : Nat} {xt : mj_X} {d e hd hd2 q b : Nat} {pre post : mj_H} {s : RS} {v w : VV} {place : Int} (hm : pre.length = 102) (hd1 : 8 ≤ d) (hB : rB s) (hv : rv s (e + 1) hd v) (hh3 : 3 ≤ hd) (hw : rv s (e + 1) hd2 w) (hh4 : 3 ≤ hd2) (hq : s.1 4 = (q : Int)) (hb : s.1 3 = (b : Int)) (hq3 : 3 ≤ q) (hV2 : q < 310000) (he0 : s.1 5 = 0) (hca : 0 ≤ s.1 10 ∧ s.1 10 ≤ 100) (hC : b + 300 ≤ 820000) {hd3 : Nat} {u : VV} (hu : rv s (e + 1) hd3 u) (hh5 : 3 ≤ hd3) (hV3 : q + 150 < 310000) (hw13 : s.1 13 = (base : Int)) (hbs : base ≤ 7900) (hone : vk w ≤ 1 ∨ vk u ≤ 1) : pgV xt d 301 [.ref 102, ii (hd : Int), ii (hd2 : Int), ii (hd3 : Int), ii place] (rS pre post s) (rres pre post s (e + 2) (d_amend v w u) place (vm v + vq v) (vm v + 1)) := by
  have hB0 := hB
  obtain ⟨hB1, hB2, hB3, hB4⟩ := hB
  obtain ⟨fr, hfr, hsh, hlt, hcl, hvk, hvm, hvc, hvq, hvcl⟩ := rv_val hv
  obtain ⟨fw, hfw, hshw, hltw, hclw, hwk, hwm, hwc, hwq, hwcl⟩ := rv_val hw
  obtain ⟨fu, hfu, hshu, hltu, hclu, huk, hum, huc, huq, hucl⟩ := rv_val hu
  have h0 : (Int64.ofInt 0).toInt = 0 := by decide
  have h1 : (Int64.ofInt 1).toInt = 1 := by decide
  have hqw : vk w ≤ 5 → vq w = vm w := vq_m
  have hqv : vk v ≤ 5 → vq v = vm v := vq_m
  have h7m : vk v = 7 → vm v ≤ 24 := fun z => (hv.1.2.2.2.2.1 z).1
  refine x_enter pm_X12_amended (L0 := [(0, .ref 102), (1, ii (hd : Int)), (2, ii (hd2 : Int)), (3, ii (hd3 : Int)), (4, ii place)]) rfl (Nat.le_of_ble_eq_true rfl) (by omega) ?_
  have cut206 : (2 ≤ vk v) → (vk w ≤ 5) → (vk w ≠ 1) → (vk w ≠ 3) → ((vk w ≤ 1 ∨ vk u ≤ 1) ∨ vm w = vm u) → (allP v w = true) → (vk v ≠ 6) → pgE xt (d - 1) 12 11 false (Option.some Jvm.ClassFile.FieldType.int) (mj_dec prog_14_method_101_code) 206 [(0, .ref 102), (1, ii (hd : Int)), (2, ii (hd2 : Int)), (3, ii (hd3 : Int)), (4, ii place), (5, ii (vm w : Int)), (6, zz (decide (vk v = 2 ∨ vk v = 4 ∨ vk v = 5))), (7, zz (decide (vk v = 3))), (8, zz (decide (vk v = 2)))] [] (rI pre post s.1 s.2.1 s.2.2.1 s.2.2.2) (fun r h' => ∃ x, r = some x ∧ rres pre post s (e + 2) (d_amend v w u) place (vm v + vq v) (vm v + 1) x h') := by
    intro h2v hw5 hw1 hw3 hwu hal h6v
    refine me0 (pc' := 207) (S' := [ii 0]) dm_X12_amended_206 rfl rfl rfl rfl ?_
    refine me1 (pc' := 209) (L' := [(9, ii 0), (0, .ref 102), (1, ii (hd : Int)), (2, ii (hd2 : Int)), (3, ii (hd3 : Int)), (4, ii place), (5, ii (vm w : Int)), (6, zz (decide (vk v = 2 ∨ vk v = 4 ∨ vk v = 5))), (7, zz (decide (vk v = 3))), (8, zz (decide (vk v = 2)))]) (S' := []) dm_X12_amended_207 rfl rfl rfl rfl ?_
    have lp209 : ∀ (n209 : Nat) (k : Nat) (t : RS), vm w - k = n209 → (k ≤ vm w) → (vw3 s t) → pgE xt (d - 1) 12 11 false (Option.some Jvm.ClassFile.FieldType.int) (mj_dec prog_14_method_101_code) 209 [(0, .ref 102), (1, ii (hd : Int)), (2, ii (hd2 : Int)), (3, ii (hd3 : Int)), (4, ii place), (5, ii (vm w : Int)), (6, zz (nmF v w u k)), (7, zz (sgF v w u k)), (8, zz (btF v w u k)), (9, ii ((k : Nat) : Int))] [] (rI pre post t.1 t.2.1 t.2.2.1 t.2.2.2) (fun r h' => ∃ x, r = some x ∧ rres pre post s (e + 2) (d_amend v w u) place (vm v + vq v) (vm v + 1) x h') := by
      intro n209
      induction n209 using Nat.strongRecOn with
      | ind n209 ih209 =>
        intro k t hm209 hk hvw
        have hBt : rB t := rB_vw hvw hB0
        have hxt := (vw3_pre hvw).1
        have hvt := rv_ext hxt hh3 hv
        have hwt := rv_ext hxt hh4 hw
        have hut := rv_ext hxt hh5 hu
        have e1 := hvw.1
        refine me1 (pc' := 211) (L' := [(0, .ref 102), (1, ii (hd : Int)), (2, ii (hd2 : Int)), (3, ii (hd3 : Int)), (4, ii place), (5, ii (vm w : Int)), (6, zz (nmF v w u k)), (7, zz (sgF v w u k)), (8, zz (btF v w u k)), (9, ii ((k : Nat) : Int))]) (S' := [ii ((k : Nat) : Int)]) dm_X12_amended_209 rfl rfl rfl rfl ?_
        refine me1 (pc' := 213) (L' := [(0, .ref 102), (1, ii (hd : Int)), (2, ii (hd2 : Int)), (3, ii (hd3 : Int)), (4, ii place), (5, ii (vm w : Int)), (6, zz (nmF v w u k)), (7, zz (sgF v w u k)), (8, zz (btF v w u k)), (9, ii ((k : Nat) : Int))]) (S' := [ii (vm w : Int), ii ((k : Nat) : Int)]) dm_X12_amended_211 rfl rfl rfl rfl ?_
        refine y_2ge (a := ((k : Nat) : Int)) (b := (vm w : Int)) (t := 321) (pc' := 216) dm_X12_amended_213 rfl rfl (by omega) (fun hb1 => ?_) (fun hb1 => ?_)
        · have hkn : k = vm w := by omega
          have hqt : t.1 4 = (q : Int) := by rw [e1]; exact hq
          have hbt : t.1 3 = (b : Int) := by rw [e1]; exact hb
          have he0t : t.1 5 = 0 := by rw [e1]; exact he0
          have ht13 : t.1 13 = (base : Int) := by rw [e1]; exact hw13
          have hcat : 0 ≤ t.1 10 ∧ t.1 10 ≤ 100 := by rw [e1]; exact hca
          have jn351 : ∀ K : Nat, K = amQ v w u k → amS v w u (vm w) = true → pgE xt (d - 1) 12 11 false (Option.some Jvm.ClassFile.FieldType.int) (mj_dec prog_14_method_101_code) 351 [(0, .ref 102), (1, ii (hd : Int)), (2, ii (hd2 : Int)), (3, ii (hd3 : Int)), (4, ii place), (5, ii (vm w : Int))] [ii ((K : Nat) : Int), .ref 102] (rI pre post t.1 t.2.1 t.2.2.1 t.2.2.2) (fun r h' => ∃ x, r = some x ∧ rres pre post s (e + 2) (d_amend v w u) place (vm v + vq v) (vm v + 1) x h') := by
            intro K hK hAS
            rw [hkn] at hK
            have hKr := amQ_r v w u (vm w)
            rw [← hK] at hKr
            have hKK := amQ_K (pj := amP w u) hAS
            rw [← hK] at hKK
            have hKw := amQ_w hv.1 hAS
            rw [← hK] at hKw
            have hv5 := (amS_iff.mp hAS).1
            have hv20 := (hv.1.2.2.1 hv5.1 hv5.2).1
            refine me1 (pc' := 352) (L' := [(0, .ref 102), (1, ii (hd : Int)), (2, ii (hd2 : Int)), (3, ii (hd3 : Int)), (4, ii place), (5, ii (vm w : Int))]) (S' := [.ref 102, ii ((K : Nat) : Int), .ref 102]) dm_X12_amended_351 rfl rfl rfl rfl ?_
            refine me1 (pc' := 353) (L' := [(0, .ref 102), (1, ii (hd : Int)), (2, ii (hd2 : Int)), (3, ii (hd3 : Int)), (4, ii place), (5, ii (vm w : Int))]) (S' := [ii (hd : Int), .ref 102, ii ((K : Nat) : Int), .ref 102]) dm_X12_amended_352 rfl rfl rfl rfl ?_
            refine x_cp (pc' := 356) (v := ii (vm v : Int)) (rest := [ii ((K : Nat) : Int), .ref 102]) dm_X12_amended_353 rfl (q_inv (As := [ii (hd : Int)]) (S := [ii ((K : Nat) : Int), .ref 102]) hm rfl rfl rfl) rfl rfl rfl (r_many_ hm (by omega) hBt hvt) ?_
            refine x_cv (pc' := 359) (rest := []) dm_X12_amended_356 rfl (q_inv (As := [ii ((K : Nat) : Int), ii (vm v : Int)]) (S := []) hm rfl rfl rfl) rfl rfl rfl (r_row_ (q := q) (b := b) (s := t) hm (by omega) hqt hbt (by omega) (by omega) (by omega)) ?_
            rintro _ _ ⟨rfl, rfl⟩
            have hxT : rext t (rowS t q b ((K : Nat) : Int) (vm v : Int)) := rext_row hqt hbt _ (by omega)
            have hBT : rB (rowS t q b ((K : Nat) : Int) (vm v : Int)) := ⟨by show 3 ≤ (q : Int) + 1; omega, by show (q : Int) + 1 ≤ 310000; omega, by show 0 ≤ (b : Int) + (vm v : Int); omega, by show (b : Int) + (vm v : Int) ≤ 820000; omega⟩
            have hvT : ∀ (k : Nat) (F : Nat → Int64), rv (fillS (rowS t q b ((K : Nat) : Int) (vm v : Int)) b k F) (e + 1) hd v := fun k F => rv_ext (rext_fill hxT (by omega) F) hh3 hvt
            refine me1 (pc' := 361) (L' := [(9, ii (q : Int)), (0, .ref 102), (1, ii (hd : Int)), (2, ii (hd2 : Int)), (3, ii (hd3 : Int)), (4, ii place), (5, ii (vm w : Int))]) (S' := []) dm_X12_amended_359 rfl rfl rfl rfl ?_
            refine me0 (pc' := 362) (S' := [ii 0]) dm_X12_amended_361 rfl rfl rfl rfl ?_
            refine me1 (pc' := 364) (L' := [(10, ii 0), (9, ii (q : Int)), (0, .ref 102), (1, ii (hd : Int)), (2, ii (hd2 : Int)), (3, ii (hd3 : Int)), (4, ii place), (5, ii (vm w : Int))]) (S' := []) dm_X12_amended_362 rfl rfl rfl rfl ?_
            have lp364 : ∀ (n364 : Nat) (k : Nat), (vm v) - k = n364 → (k ≤ (vm v)) → pgE xt (d - 1) 12 11 false (Option.some Jvm.ClassFile.FieldType.int) (mj_dec prog_14_method_101_code) 364 [(0, .ref 102), (1, ii (hd : Int)), (2, ii (hd2 : Int)), (3, ii (hd3 : Int)), (4, ii place), (5, ii (vm w : Int)), (9, ii (q : Int)), (10, ii (k : Int))] [] (rI pre post ((fillS (rowS t q b ((K : Nat) : Int) (vm v : Int)) b k (vn v)).1) ((fillS (rowS t q b ((K : Nat) : Int) (vm v : Int)) b k (vn v)).2.1) ((fillS (rowS t q b ((K : Nat) : Int) (vm v : Int)) b k (vn v)).2.2.1) ((fillS (rowS t q b ((K : Nat) : Int) (vm v : Int)) b k (vn v)).2.2.2)) (fun r h' => ∃ x, r = some x ∧ rres pre post s (e + 2) (d_amend v w u) place (vm v + vq v) (vm v + 1) x h') := by
              intro n364
              induction n364 using Nat.strongRecOn with
              | ind n364 ih364 =>
                intro k hm364 hk
                refine me1 (pc' := 366) (L' := [(0, .ref 102), (1, ii (hd : Int)), (2, ii (hd2 : Int)), (3, ii (hd3 : Int)), (4, ii place), (5, ii (vm w : Int)), (9, ii (q : Int)), (10, ii (k : Int))]) (S' := [ii (k : Int)]) dm_X12_amended_364 rfl rfl rfl rfl ?_
                refine me1 (pc' := 367) (L' := [(0, .ref 102), (1, ii (hd : Int)), (2, ii (hd2 : Int)), (3, ii (hd3 : Int)), (4, ii place), (5, ii (vm w : Int)), (9, ii (q : Int)), (10, ii (k : Int))]) (S' := [.ref 102, ii (k : Int)]) dm_X12_amended_366 rfl rfl rfl rfl ?_
                refine me1 (pc' := 368) (L' := [(0, .ref 102), (1, ii (hd : Int)), (2, ii (hd2 : Int)), (3, ii (hd3 : Int)), (4, ii place), (5, ii (vm w : Int)), (9, ii (q : Int)), (10, ii (k : Int))]) (S' := [ii (hd : Int), .ref 102, ii (k : Int)]) dm_X12_amended_367 rfl rfl rfl rfl ?_
                refine x_cp (pc' := 371) (v := ii (vm v : Int)) (rest := [ii (k : Int)]) dm_X12_amended_368 rfl (q_inv (As := [ii (hd : Int)]) (S := [ii (k : Int)]) hm rfl rfl rfl) rfl rfl rfl (r_many_ hm (by omega) hBT (hvT _ _)) ?_
                refine y_2ge (a := (k : Int)) (b := (vm v : Int)) (t := 402) (pc' := 374) dm_X12_amended_371 rfl rfl (by omega) (fun hb2 => ?_) (fun hb2 => ?_)
                · have hkN : k = vm v := by omega
                  refine me0 (pc' := 403) (S' := [ii 0]) dm_X12_amended_402 rfl rfl rfl rfl ?_
                  refine me1 (pc' := 405) (L' := [(10, ii 0), (0, .ref 102), (1, ii (hd : Int)), (2, ii (hd2 : Int)), (3, ii (hd3 : Int)), (4, ii place), (5, ii (vm w : Int)), (9, ii (q : Int))]) (S' := []) dm_X12_amended_403 rfl rfl rfl rfl ?_
                  have lp405 : ∀ (n405 : Nat) (k : Nat) (G : Nat → Int64) (t2 : RS), vm w - k = n405 → (k ≤ vm w) → (amR v w u k G) → (vw3 (fillS (rowS t q b ((K : Nat) : Int) (vm v : Int)) b (vm v) G) t2) → pgE xt (d - 1) 12 11 false (Option.some Jvm.ClassFile.FieldType.int) (mj_dec prog_14_method_101_code) 405 [(0, .ref 102), (1, ii (hd : Int)), (2, ii (hd2 : Int)), (3, ii (hd3 : Int)), (4, ii place), (5, ii (vm w : Int)), (9, ii (q : Int)), (10, ii ((k : Nat) : Int))] [] (rI pre post t2.1 t2.2.1 t2.2.2.1 t2.2.2.2) (fun r h' => ∃ x, r = some x ∧ rres pre post s (e + 2) (d_amend v w u) place (vm v + vq v) (vm v + 1) x h') := by
                    intro n405
                    induction n405 using Nat.strongRecOn with
                    | ind n405 ih405 =>
                      intro k G t2 hm405 hk hG hvw2
                      have hx2 : rext t t2 := rext_tr (rext_fill hxT (by omega) G) (vw3_pre hvw2).1
                      have hB2 : rB t2 := rB_vw (s := (fillS (rowS t q b ((K : Nat) : Int) (vm v : Int)) b (vm v) G)) hvw2 hBT
                      have hw2 := rv_ext hx2 hh4 hwt
                      have hu2 := rv_ext hx2 hh5 hut
                      have hq2 : t2.2.2.1 1 q = (b : Int) := by rw [(hvw2.2.2.2.2 q hq3).1]; exact up_eq _ _ _
                      refine me1 (pc' := 407) (L' := [(0, .ref 102), (1, ii (hd : Int)), (2, ii (hd2 : Int)), (3, ii (hd3 : Int)), (4, ii place), (5, ii (vm w : Int)), (9, ii (q : Int)), (10, ii ((k : Nat) : Int))]) (S' := [ii ((k : Nat) : Int)]) dm_X12_amended_405 rfl rfl rfl rfl ?_
                      refine me1 (pc' := 409) (L' := [(0, .ref 102), (1, ii (hd : Int)), (2, ii (hd2 : Int)), (3, ii (hd3 : Int)), (4, ii place), (5, ii (vm w : Int)), (9, ii (q : Int)), (10, ii ((k : Nat) : Int))]) (S' := [ii (vm w : Int), ii ((k : Nat) : Int)]) dm_X12_amended_407 rfl rfl rfl rfl ?_
                      refine y_2ge (a := ((k : Nat) : Int)) (b := (vm w : Int)) (t := 453) (pc' := 412) dm_X12_amended_409 rfl rfl (by omega) (fun hb3 => ?_) (fun hb3 => ?_)
                      · refine me1 (pc' := 454) (L' := [(0, .ref 102), (1, ii (hd : Int)), (2, ii (hd2 : Int)), (3, ii (hd3 : Int)), (4, ii place), (5, ii (vm w : Int)), (9, ii (q : Int)), (10, ii ((k : Nat) : Int))]) (S' := [.ref 102]) dm_X12_amended_453 rfl rfl rfl rfl ?_
                        refine me1 (pc' := 456) (L' := [(0, .ref 102), (1, ii (hd : Int)), (2, ii (hd2 : Int)), (3, ii (hd3 : Int)), (4, ii place), (5, ii (vm w : Int)), (9, ii (q : Int)), (10, ii ((k : Nat) : Int))]) (S' := [ii (q : Int), .ref 102]) dm_X12_amended_454 rfl rfl rfl rfl ?_
                        refine x_cp (pc' := 459) (v := ii ((K : Nat) : Int)) (rest := []) dm_X12_amended_456 rfl (q_inv (As := [ii (q : Int)]) (S := []) hm rfl rfl rfl) rfl rfl rfl (r_kindRaw_ (s := t2) (kd := ((K : Nat) : Int)) (z := (vm v : Int)) hm (by omega) (by omega) (by rw [(hvw2.2.2.2.2 q hq3).2]; show va_up _ q _ q = _; rw [up_eq]; omega) (by omega) (by omega)) ?_
                        refine me0 (pc' := 460) (S' := [ii 5, ii ((K : Nat) : Int)]) dm_X12_amended_459 rfl rfl rfl rfl ?_
                        refine y_2ne (a := ((K : Nat) : Int)) (b := 5) (t := 472) (pc' := 463) dm_X12_amended_460 rfl rfl (by omega) (fun hb4 => ?_) (fun hb4 => ?_)
                        · refine me1 (pc' := 474) (L' := [(0, .ref 102), (1, ii (hd : Int)), (2, ii (hd2 : Int)), (3, ii (hd3 : Int)), (4, ii place), (5, ii (vm w : Int)), (9, ii (q : Int)), (10, ii ((k : Nat) : Int))]) (S' := [ii (q : Int)]) dm_X12_amended_472 rfl rfl rfl rfl ?_
                          refine y_ret (r := some (ii (q : Int))) dm_X12_amended_474 rfl rfl rfl ?_
                          have hkw : k = vm w := by omega
                          rw [hkw] at hG
                          rw [amd_r (by unfold askP; rw [if_neg (by omega), if_neg (by omega)]) hwu hal (by omega) hAS, hKK.1 (by omega)]
                          exact ⟨_, rfl, rres_dup (rres_bk (vw3_pre hvw) (rres_rowv (kind := K) (n := vm v) (w := vrow K (vm v) (rwn v (amP w u))) hvw2 hqt hq3 hbt he0t hKw (by show ¬ K = 7; omega) (by show ¬ K = 6; omega) rfl rfl rfl (fun j hj => hG j hj) (by omega) (by omega)))⟩
                        · refine me1 (pc' := 464) (L' := [(0, .ref 102), (1, ii (hd : Int)), (2, ii (hd2 : Int)), (3, ii (hd3 : Int)), (4, ii place), (5, ii (vm w : Int)), (9, ii (q : Int)), (10, ii ((k : Nat) : Int))]) (S' := [.ref 102]) dm_X12_amended_463 rfl rfl rfl rfl ?_
                          refine me1 (pc' := 466) (L' := [(0, .ref 102), (1, ii (hd : Int)), (2, ii (hd2 : Int)), (3, ii (hd3 : Int)), (4, ii place), (5, ii (vm w : Int)), (9, ii (q : Int)), (10, ii ((k : Nat) : Int))]) (S' := [ii (q : Int), .ref 102]) dm_X12_amended_464 rfl rfl rfl rfl ?_
                          have hkw : k = vm w := by omega
                          rw [hkw] at hG
                          have hK5 : K = 5 := by omega
                          have hvZ : rv t2 (e + 1) q (vrow 5 (vm v) (rwn v (amP w u))) := rv_ext (vw3_pre hvw2).1 hq3 (by rw [hK5]; exact rv_rowS (kind := 5) (vw1_row (by omega) (by omega) (by omega)) (by show ¬ 5 = 7; omega) (by show ¬ 5 = 6; omega) rfl rfl rfl (fun j hj => hG j hj))
                          refine x_cv (pc' := 469) (rest := []) dm_X12_amended_466 rfl (q_inv (As := [ii (q : Int)]) (S := []) hm rfl rfl rfl) rfl rfl rfl (r_settled_ (s := t2) (fr0 := b) hm (by omega) hB2 hvZ hq2) ?_
                          rintro _ _ ⟨rfl, rfl⟩
                          refine me2 (pc' := 474) (S' := [ii (q : Int)]) dm_X12_amended_469 rfl rfl rfl ?_
                          refine y_ret (r := some (ii (q : Int))) dm_X12_amended_474 rfl rfl rfl ?_
                          have hvf := vform_le (m := vm v) (f := rwn v (amP w u))
                          rw [amd_r (by unfold askP; rw [if_neg (by omega), if_neg (by omega)]) hwu hal (by omega) hAS, hKK.2 hK5]
                          have hst := vw3_set (q := q) (b := b) (k := vform (vm v) (rwn v (amP w u))) (n := vm v) hvw2
                          rw [setS_row] at hst
                          exact ⟨_, rfl, rres_dup (rres_bk (vw3_pre hvw) (rres_rowv (kind := vform (vm v) (rwn v (amP w u))) (n := vm v) (w := vrow (vform (vm v) (rwn v (amP w u))) (vm v) (rwn v (amP w u))) hst hqt hq3 hbt he0t (vw1_row (by omega) (by omega) (by omega)) (by show ¬ vform _ _ = 7; omega) (by show ¬ vform _ _ = 6; omega) rfl rfl rfl (fun j hj => hG j hj) (by omega) (by omega)))⟩
                      · have hpl1 := alP_of hal (show k < vm w by omega)
                        have hplw : (vn w k).toInt = ((plw w k : Nat) : Int) := by unfold plw; omega
                        have hk1 := am_k1 hAS (show k < vm w by omega)
                        refine me1 (pc' := 413) (L' := [(0, .ref 102), (1, ii (hd : Int)), (2, ii (hd2 : Int)), (3, ii (hd3 : Int)), (4, ii place), (5, ii (vm w : Int)), (9, ii (q : Int)), (10, ii ((k : Nat) : Int))]) (S' := [.ref 102]) dm_X12_amended_412 rfl rfl rfl rfl ?_
                        refine me3 (pc' := 416) (S' := [.ref (102 + 1)]) dm_X12_amended_413 (q_getr hm rfl (fun m i l => rg_0 m i l)) rfl rfl rfl ?_
                        refine me1 (pc' := 417) (L' := [(0, .ref 102), (1, ii (hd : Int)), (2, ii (hd2 : Int)), (3, ii (hd3 : Int)), (4, ii place), (5, ii (vm w : Int)), (9, ii (q : Int)), (10, ii ((k : Nat) : Int))]) (S' := [.ref 102, .ref (102 + 1)]) dm_X12_amended_416 rfl rfl rfl rfl ?_
                        refine me3 (pc' := 420) (S' := [.ref (102 + 2), .ref (102 + 1)]) dm_X12_amended_417 (q_getr hm rfl (fun m i l => rg_1 m i l)) rfl rfl rfl ?_
                        refine me1 (pc' := 422) (L' := [(0, .ref 102), (1, ii (hd : Int)), (2, ii (hd2 : Int)), (3, ii (hd3 : Int)), (4, ii place), (5, ii (vm w : Int)), (9, ii (q : Int)), (10, ii ((k : Nat) : Int))]) (S' := [ii (q : Int), .ref (102 + 2), .ref (102 + 1)]) dm_X12_amended_420 rfl rfl rfl rfl ?_
                        refine me3 (pc' := 423) (S' := [ii ((t2.2.2.1 1) q), .ref (102 + 1)]) dm_X12_amended_422 (q_iald (v := (t2.2.2.1 1) q) (k := 1) (n := 310000) hm (fun m i l I J => rc_1 m i l I J) (by omega) (by omega) (by decide) rfl) rfl rfl rfl ?_
                        refine pg_st (S' := [ii (b : Int), .ref (102 + 1)]) (congrArg (fun z => ii z :: [.ref (102 + 1)]) (hq2)) ?_
                        refine me1 (pc' := 424) (L' := [(0, .ref 102), (1, ii (hd : Int)), (2, ii (hd2 : Int)), (3, ii (hd3 : Int)), (4, ii place), (5, ii (vm w : Int)), (9, ii (q : Int)), (10, ii ((k : Nat) : Int))]) (S' := [.ref 102, ii (b : Int), .ref (102 + 1)]) dm_X12_amended_423 rfl rfl rfl rfl ?_
                        refine me1 (pc' := 425) (L' := [(0, .ref 102), (1, ii (hd : Int)), (2, ii (hd2 : Int)), (3, ii (hd3 : Int)), (4, ii place), (5, ii (vm w : Int)), (9, ii (q : Int)), (10, ii ((k : Nat) : Int))]) (S' := [ii (hd2 : Int), .ref 102, ii (b : Int), .ref (102 + 1)]) dm_X12_amended_424 rfl rfl rfl rfl ?_
                        refine me1 (pc' := 427) (L' := [(0, .ref 102), (1, ii (hd : Int)), (2, ii (hd2 : Int)), (3, ii (hd3 : Int)), (4, ii place), (5, ii (vm w : Int)), (9, ii (q : Int)), (10, ii ((k : Nat) : Int))]) (S' := [ii ((k : Nat) : Int), ii (hd2 : Int), .ref 102, ii (b : Int), .ref (102 + 1)]) dm_X12_amended_425 rfl rfl rfl rfl ?_
                        refine x_cp (pc' := 430) (v := .long (vn w k)) (rest := [ii (b : Int), .ref (102 + 1)]) dm_X12_amended_427 rfl (q_inv (As := [ii (hd2 : Int), ii ((k : Nat) : Int)]) (S := [ii (b : Int), .ref (102 + 1)]) hm rfl rfl rfl) rfl rfl rfl (r_number_ (k := k) hm (by omega) hB2 hw2 (by omega) (by omega)) ?_
                        refine y_l2i (a := (vn w k).toInt) dm_X12_amended_430 (pc' := 431) rfl (n_l2i _ rfl) ?_
                        refine y_iadd (a := (b : Int)) (b := (vn w k).toInt) dm_X12_amended_431 (pc' := 432) rfl ?_
                        refine pg_st (S' := [ii ((b + plw w k : Nat) : Int), .ref (102 + 1)]) (congrArg (fun z => ii z :: [.ref (102 + 1)]) (by rw [hplw]; push_cast; rfl)) ?_
                        refine me1 (pc' := 433) (L' := [(0, .ref 102), (1, ii (hd : Int)), (2, ii (hd2 : Int)), (3, ii (hd3 : Int)), (4, ii place), (5, ii (vm w : Int)), (9, ii (q : Int)), (10, ii ((k : Nat) : Int))]) (S' := [.ref 102, ii ((b + plw w k : Nat) : Int), .ref (102 + 1)]) dm_X12_amended_432 rfl rfl rfl rfl ?_
                        refine me1 (pc' := 434) (L' := [(0, .ref 102), (1, ii (hd : Int)), (2, ii (hd2 : Int)), (3, ii (hd3 : Int)), (4, ii place), (5, ii (vm w : Int)), (9, ii (q : Int)), (10, ii ((k : Nat) : Int))]) (S' := [.ref 102, .ref 102, ii ((b + plw w k : Nat) : Int), .ref (102 + 1)]) dm_X12_amended_433 rfl rfl rfl rfl ?_
                        refine me1 (pc' := 435) (L' := [(0, .ref 102), (1, ii (hd : Int)), (2, ii (hd2 : Int)), (3, ii (hd3 : Int)), (4, ii place), (5, ii (vm w : Int)), (9, ii (q : Int)), (10, ii ((k : Nat) : Int))]) (S' := [ii (hd2 : Int), .ref 102, .ref 102, ii ((b + plw w k : Nat) : Int), .ref (102 + 1)]) dm_X12_amended_434 rfl rfl rfl rfl ?_
                        refine me1 (pc' := 436) (L' := [(0, .ref 102), (1, ii (hd : Int)), (2, ii (hd2 : Int)), (3, ii (hd3 : Int)), (4, ii place), (5, ii (vm w : Int)), (9, ii (q : Int)), (10, ii ((k : Nat) : Int))]) (S' := [ii (hd3 : Int), ii (hd2 : Int), .ref 102, .ref 102, ii ((b + plw w k : Nat) : Int), .ref (102 + 1)]) dm_X12_amended_435 rfl rfl rfl rfl ?_
                        refine me1 (pc' := 438) (L' := [(0, .ref 102), (1, ii (hd : Int)), (2, ii (hd2 : Int)), (3, ii (hd3 : Int)), (4, ii place), (5, ii (vm w : Int)), (9, ii (q : Int)), (10, ii ((k : Nat) : Int))]) (S' := [ii ((k : Nat) : Int), ii (hd3 : Int), ii (hd2 : Int), .ref 102, .ref 102, ii ((b + plw w k : Nat) : Int), .ref (102 + 1)]) dm_X12_amended_436 rfl rfl rfl rfl ?_
                        refine me0 (pc' := 439) (S' := [ii 0, ii ((k : Nat) : Int), ii (hd3 : Int), ii (hd2 : Int), .ref 102, .ref 102, ii ((b + plw w k : Nat) : Int), .ref (102 + 1)]) dm_X12_amended_438 rfl rfl rfl rfl ?_
                        refine x_cv (pc' := 442) (rest := [.ref 102, ii ((b + plw w k : Nat) : Int), .ref (102 + 1)]) dm_X12_amended_439 rfl (q_inv (As := [ii (hd2 : Int), ii (hd3 : Int), ii ((k : Nat) : Int), ii 0]) (S := [.ref 102, ii ((b + plw w k : Nat) : Int), .ref (102 + 1)]) hm rfl rfl rfl) rfl rfl rfl (r_given_ (s := t2) (k := k) hm (by omega) hB2 hw2 hu2 hh5 (by omega) (by omega)) ?_
                        rintro _ _ ⟨p1, s1, rfl, rfl, hg, hws1, hp1⟩
                        have hv1 := vw3_tr hvw2 (vw3_of (by decide) hws1)
                        have hBs1 : rB s1 := rB_vw (vw3_of (by decide) hws1) hB2
                        obtain ⟨fg, hfg, hshg, hltg, hclg, hgk, hgm, hgc, hgq, hgcl⟩ := rv_val hg
                        have hg1 : vk (gvF w u k) ≤ 1 → vq (gvF w u k) = 1 := vq_1 hg.1
                        refine me0 (pc' := 443) (S' := [ii 0, ii ((p1 : Nat) : Int), .ref 102, ii ((b + plw w k : Nat) : Int), .ref (102 + 1)]) dm_X12_amended_442 rfl rfl rfl rfl ?_
                        refine x_cp (pc' := 446) (v := .long (vn (gvF w u k) 0)) (rest := [ii ((b + plw w k : Nat) : Int), .ref (102 + 1)]) dm_X12_amended_443 rfl (q_inv (As := [ii ((p1 : Nat) : Int), ii 0]) (S := [ii ((b + plw w k : Nat) : Int), .ref (102 + 1)]) hm rfl rfl rfl) rfl rfl rfl (r_number_ (k := 0) hm (by omega) hBs1 hg (by omega) (by omega)) ?_
                        refine me3 (pc' := 447) (S' := []) (h1 := rI pre post s1.1 s1.2.1 s1.2.2.1 (va_up s1.2.2.2 0 (va_up (s1.2.2.2 0) (b + plw w k) (vn (gvF w u k) 0)))) dm_X12_amended_446 (q_last (j := ((b + plw w k : Nat) : Int)) (k := 0) (n := 820000) hm (fun m i l I J => rc_0 m i l I J) (fun m i l I J f => rs_0 m i l I J f) (by omega) (by omega) (by decide)) rfl rfl rfl ?_
                        obtain ⟨u2, hu1, hu2_, -⟩ := fill_vwg (pre := pre) (post := post) (j := plw w k) (x := vn (gvF w u k) 0) hv1 (by omega)
                        refine pg_cast (h2 := rS pre post u2) hu1 ?_
                        refine y_iinc (pc' := 450) (L' := [(10, ii (((k : Nat) : Int) + 1)), (0, .ref 102), (1, ii (hd : Int)), (2, ii (hd2 : Int)), (3, ii (hd3 : Int)), (4, ii place), (5, ii (vm w : Int)), (9, ii (q : Int))]) dm_X12_amended_447 (y_incp (a := ((k : Nat) : Int)) (c := 1) rfl rfl (by decide)) rfl ?_
                        refine me2 (pc' := 405) (S' := []) dm_X12_amended_450 rfl rfl rfl ?_
                        exact pg_sub (L := [(0, .ref 102), (1, ii (hd : Int)), (2, ii (hd2 : Int)), (3, ii (hd3 : Int)), (4, ii place), (5, ii (vm w : Int)), (9, ii (q : Int)), (10, ii (((k + 1) : Nat) : Int))]) rfl rfl rfl (ih405 (vm w - (k + 1)) (by omega) (k + 1) (va_up G (plw w k) (vn (gvF w u k) 0)) u2 rfl (by omega) (amR_s hG) hu2_)
                  refine pg_cast (h2 := rI pre post ((fillS (rowS t q b ((K : Nat) : Int) (vm v : Int)) b (vm v) (vn v)).1) ((fillS (rowS t q b ((K : Nat) : Int) (vm v : Int)) b (vm v) (vn v)).2.1) ((fillS (rowS t q b ((K : Nat) : Int) (vm v : Int)) b (vm v) (vn v)).2.2.1) ((fillS (rowS t q b ((K : Nat) : Int) (vm v : Int)) b (vm v) (vn v)).2.2.2)) (by rw [hkN]) ?_
                  exact pg_sub (L := [(0, .ref 102), (1, ii (hd : Int)), (2, ii (hd2 : Int)), (3, ii (hd3 : Int)), (4, ii place), (5, ii (vm w : Int)), (9, ii (q : Int)), (10, ii ((0 : Nat) : Int))]) rfl rfl rfl (lp405 _ 0 (vn v) (fillS (rowS t q b ((K : Nat) : Int) (vm v : Int)) b (vm v) (vn v)) rfl (Nat.zero_le _) amR_0 (vw3_rf _))
                · refine me1 (pc' := 375) (L' := [(0, .ref 102), (1, ii (hd : Int)), (2, ii (hd2 : Int)), (3, ii (hd3 : Int)), (4, ii place), (5, ii (vm w : Int)), (9, ii (q : Int)), (10, ii (k : Int))]) (S' := [.ref 102]) dm_X12_amended_374 rfl rfl rfl rfl ?_
                  refine me3 (pc' := 378) (S' := [.ref (102 + 1)]) dm_X12_amended_375 (q_getr hm rfl (fun m i l => rg_0 m i l)) rfl rfl rfl ?_
                  refine me1 (pc' := 379) (L' := [(0, .ref 102), (1, ii (hd : Int)), (2, ii (hd2 : Int)), (3, ii (hd3 : Int)), (4, ii place), (5, ii (vm w : Int)), (9, ii (q : Int)), (10, ii (k : Int))]) (S' := [.ref 102, .ref (102 + 1)]) dm_X12_amended_378 rfl rfl rfl rfl ?_
                  refine me3 (pc' := 382) (S' := [.ref (102 + 2), .ref (102 + 1)]) dm_X12_amended_379 (q_getr hm rfl (fun m i l => rg_1 m i l)) rfl rfl rfl ?_
                  refine me1 (pc' := 384) (L' := [(0, .ref 102), (1, ii (hd : Int)), (2, ii (hd2 : Int)), (3, ii (hd3 : Int)), (4, ii place), (5, ii (vm w : Int)), (9, ii (q : Int)), (10, ii (k : Int))]) (S' := [ii (q : Int), .ref (102 + 2), .ref (102 + 1)]) dm_X12_amended_382 rfl rfl rfl rfl ?_
                  refine me3 (pc' := 385) (S' := [ii ((((fillS (rowS t q b ((K : Nat) : Int) (vm v : Int)) b k (vn v)).2.2.1) 1) q), .ref (102 + 1)]) dm_X12_amended_384 (q_iald (v := (((fillS (rowS t q b ((K : Nat) : Int) (vm v : Int)) b k (vn v)).2.2.1) 1) q) (k := 1) (n := 310000) hm (fun m i l I J => rc_1 m i l I J) (by omega) (by omega) (by decide) rfl) rfl rfl rfl ?_
                  refine pg_st (S' := [ii (b : Int), .ref (102 + 1)]) (congrArg (fun z => ii z :: [.ref (102 + 1)]) (up_eq _ _ _)) ?_
                  refine me1 (pc' := 387) (L' := [(0, .ref 102), (1, ii (hd : Int)), (2, ii (hd2 : Int)), (3, ii (hd3 : Int)), (4, ii place), (5, ii (vm w : Int)), (9, ii (q : Int)), (10, ii (k : Int))]) (S' := [ii (k : Int), ii (b : Int), .ref (102 + 1)]) dm_X12_amended_385 rfl rfl rfl rfl ?_
                  refine y_iadd (a := (b : Int)) (b := (k : Int)) dm_X12_amended_387 (pc' := 388) rfl ?_
                  refine me1 (pc' := 389) (L' := [(0, .ref 102), (1, ii (hd : Int)), (2, ii (hd2 : Int)), (3, ii (hd3 : Int)), (4, ii place), (5, ii (vm w : Int)), (9, ii (q : Int)), (10, ii (k : Int))]) (S' := [.ref 102, ii ((b : Int) + (k : Int)), .ref (102 + 1)]) dm_X12_amended_388 rfl rfl rfl rfl ?_
                  refine me1 (pc' := 390) (L' := [(0, .ref 102), (1, ii (hd : Int)), (2, ii (hd2 : Int)), (3, ii (hd3 : Int)), (4, ii place), (5, ii (vm w : Int)), (9, ii (q : Int)), (10, ii (k : Int))]) (S' := [ii (hd : Int), .ref 102, ii ((b : Int) + (k : Int)), .ref (102 + 1)]) dm_X12_amended_389 rfl rfl rfl rfl ?_
                  refine me1 (pc' := 392) (L' := [(0, .ref 102), (1, ii (hd : Int)), (2, ii (hd2 : Int)), (3, ii (hd3 : Int)), (4, ii place), (5, ii (vm w : Int)), (9, ii (q : Int)), (10, ii (k : Int))]) (S' := [ii (k : Int), ii (hd : Int), .ref 102, ii ((b : Int) + (k : Int)), .ref (102 + 1)]) dm_X12_amended_390 rfl rfl rfl rfl ?_
                  refine x_cp (pc' := 395) (v := .long (vn v k)) (rest := [ii ((b : Int) + (k : Int)), .ref (102 + 1)]) dm_X12_amended_392 rfl (q_inv (As := [ii (hd : Int), ii (k : Int)]) (S := [ii ((b : Int) + (k : Int)), .ref (102 + 1)]) hm rfl rfl rfl) rfl rfl rfl (r_number_ (k := k) hm (by omega) hBT (hvT _ _) (by omega) (by omega)) ?_
                  refine me3 (pc' := 396) (S' := []) (h1 := rI pre post ((fillS (rowS t q b ((K : Nat) : Int) (vm v : Int)) b k (vn v)).1) ((fillS (rowS t q b ((K : Nat) : Int) (vm v : Int)) b k (vn v)).2.1) ((fillS (rowS t q b ((K : Nat) : Int) (vm v : Int)) b k (vn v)).2.2.1) (va_up ((fillS (rowS t q b ((K : Nat) : Int) (vm v : Int)) b k (vn v)).2.2.2) 0 (va_up (((fillS (rowS t q b ((K : Nat) : Int) (vm v : Int)) b k (vn v)).2.2.2) 0) (b + k) (vn v k)))) dm_X12_amended_395 (q_last (j := (b : Int) + (k : Int)) (k := 0) (n := 820000) hm (fun m i l I J => rc_0 m i l I J) (fun m i l I J f => rs_0 m i l I J f) (by omega) (by omega) (by decide)) rfl rfl rfl ?_
                  refine y_iinc (pc' := 399) (L' := [(10, ii ((k : Int) + 1)), (0, .ref 102), (1, ii (hd : Int)), (2, ii (hd2 : Int)), (3, ii (hd3 : Int)), (4, ii place), (5, ii (vm w : Int)), (9, ii (q : Int))]) dm_X12_amended_396 (y_incp (a := (k : Int)) (c := 1) rfl rfl (by decide)) rfl ?_
                  refine me2 (pc' := 364) (S' := []) dm_X12_amended_399 rfl rfl rfl ?_
                  refine pg_cast (h2 := rI pre post ((fillS (rowS t q b ((K : Nat) : Int) (vm v : Int)) b (k + 1) (vn v)).1) ((fillS (rowS t q b ((K : Nat) : Int) (vm v : Int)) b (k + 1) (vn v)).2.1) ((fillS (rowS t q b ((K : Nat) : Int) (vm v : Int)) b (k + 1) (vn v)).2.2.1) ((fillS (rowS t q b ((K : Nat) : Int) (vm v : Int)) b (k + 1) (vn v)).2.2.2)) (fill_s (rowS t q b ((K : Nat) : Int) (vm v : Int)) b k (vn v)) ?_
                  exact pg_sub (L := [(0, .ref 102), (1, ii (hd : Int)), (2, ii (hd2 : Int)), (3, ii (hd3 : Int)), (4, ii place), (5, ii (vm w : Int)), (9, ii (q : Int)), (10, ii ((k + 1) : Int))]) rfl rfl rfl (ih364 ((vm v) - (k + 1)) (by omega) (k + 1) rfl (by omega))
            refine pg_cast (h2 := rI pre post ((fillS (rowS t q b ((K : Nat) : Int) (vm v : Int)) b 0 (vn v)).1) ((fillS (rowS t q b ((K : Nat) : Int) (vm v : Int)) b 0 (vn v)).2.1) ((fillS (rowS t q b ((K : Nat) : Int) (vm v : Int)) b 0 (vn v)).2.2.1) ((fillS (rowS t q b ((K : Nat) : Int) (vm v : Int)) b 0 (vn v)).2.2.2)) (fill_0 (rowS t q b ((K : Nat) : Int) (vm v : Int)) b (vn v)) ?_
            exact pg_sub (L := [(0, .ref 102), (1, ii (hd : Int)), (2, ii (hd2 : Int)), (3, ii (hd3 : Int)), (4, ii place), (5, ii (vm w : Int)), (9, ii (q : Int)), (10, ii (0 : Int))]) rfl rfl rfl (lp364 _ 0 rfl (Nat.zero_le _))
          have jn331 : amS v w u (vm w) = true → pgE xt (d - 1) 12 11 false (Option.some Jvm.ClassFile.FieldType.int) (mj_dec prog_14_method_101_code) 331 [(0, .ref 102), (1, ii (hd : Int)), (2, ii (hd2 : Int)), (3, ii (hd3 : Int)), (4, ii place), (5, ii (vm w : Int)), (6, zz (nmF v w u k)), (7, zz (sgF v w u k)), (8, zz (btF v w u k))] [] (rI pre post t.1 t.2.1 t.2.2.1 t.2.2.2) (fun r h' => ∃ x, r = some x ∧ rres pre post s (e + 2) (d_amend v w u) place (vm v + vq v) (vm v + 1) x h') := by
            intro hAS
            refine me1 (pc' := 332) (L' := [(0, .ref 102), (1, ii (hd : Int)), (2, ii (hd2 : Int)), (3, ii (hd3 : Int)), (4, ii place), (5, ii (vm w : Int)), (6, zz (nmF v w u k)), (7, zz (sgF v w u k)), (8, zz (btF v w u k))]) (S' := [.ref 102]) dm_X12_amended_331 rfl rfl rfl rfl ?_
            refine me1 (pc' := 334) (L' := [(0, .ref 102), (1, ii (hd : Int)), (2, ii (hd2 : Int)), (3, ii (hd3 : Int)), (4, ii place), (5, ii (vm w : Int)), (6, zz (nmF v w u k)), (7, zz (sgF v w u k)), (8, zz (btF v w u k))]) (S' := [zz (sgF v w u k), .ref 102]) dm_X12_amended_332 rfl rfl rfl rfl ?_
            refine y_zeq (c := sgF v w u k) (t := 341) (pc' := 337) dm_X12_amended_334 rfl rfl (fun hb5 => ?_) (fun hb5 => ?_)
            · refine me1 (pc' := 343) (L' := [(0, .ref 102), (1, ii (hd : Int)), (2, ii (hd2 : Int)), (3, ii (hd3 : Int)), (4, ii place), (5, ii (vm w : Int)), (6, zz (nmF v w u k)), (7, zz (sgF v w u k)), (8, zz (btF v w u k))]) (S' := [zz (btF v w u k), .ref 102]) dm_X12_amended_341 rfl rfl rfl rfl ?_
              refine y_zeq (c := btF v w u k) (t := 350) (pc' := 346) dm_X12_amended_343 rfl rfl (fun hb6 => ?_) (fun hb6 => ?_)
              · refine me0 (pc' := 351) (S' := [ii 5, .ref 102]) dm_X12_amended_350 rfl rfl rfl rfl ?_
                exact pg_sub (L := [(0, .ref 102), (1, ii (hd : Int)), (2, ii (hd2 : Int)), (3, ii (hd3 : Int)), (4, ii place), (5, ii (vm w : Int))]) rfl rfl rfl (jn351 5 (amQ_5 hb5 hb6) hAS)
              · refine me0 (pc' := 347) (S' := [ii 2, .ref 102]) dm_X12_amended_346 rfl rfl rfl rfl ?_
                refine me2 (pc' := 351) (S' := [ii 2, .ref 102]) dm_X12_amended_347 rfl rfl rfl ?_
                exact pg_sub (L := [(0, .ref 102), (1, ii (hd : Int)), (2, ii (hd2 : Int)), (3, ii (hd3 : Int)), (4, ii place), (5, ii (vm w : Int))]) rfl rfl rfl (jn351 2 (amQ_2 hb5 hb6) hAS)
            · refine me0 (pc' := 338) (S' := [ii 3, .ref 102]) dm_X12_amended_337 rfl rfl rfl rfl ?_
              refine me2 (pc' := 351) (S' := [ii 3, .ref 102]) dm_X12_amended_338 rfl rfl rfl ?_
              exact pg_sub (L := [(0, .ref 102), (1, ii (hd : Int)), (2, ii (hd2 : Int)), (3, ii (hd3 : Int)), (4, ii place), (5, ii (vm w : Int))]) rfl rfl rfl (jn351 3 (amQ_3 hb5) hAS)
          refine me1 (pc' := 323) (L' := [(0, .ref 102), (1, ii (hd : Int)), (2, ii (hd2 : Int)), (3, ii (hd3 : Int)), (4, ii place), (5, ii (vm w : Int)), (6, zz (nmF v w u k)), (7, zz (sgF v w u k)), (8, zz (btF v w u k)), (9, ii ((k : Nat) : Int))]) (S' := [zz (nmF v w u k)]) dm_X12_amended_321 rfl rfl rfl rfl ?_
          refine y_zne (c := nmF v w u k) (t := 331) (pc' := 326) dm_X12_amended_323 rfl rfl (fun hb7 => ?_) (fun hb7 => ?_)
          · exact pg_sub (L := [(0, .ref 102), (1, ii (hd : Int)), (2, ii (hd2 : Int)), (3, ii (hd3 : Int)), (4, ii place), (5, ii (vm w : Int)), (6, zz (nmF v w u k)), (7, zz (sgF v w u k)), (8, zz (btF v w u k))]) rfl rfl rfl (jn331 (by rw [← hkn]; exact am_nm hb7))
          · refine me1 (pc' := 328) (L' := [(0, .ref 102), (1, ii (hd : Int)), (2, ii (hd2 : Int)), (3, ii (hd3 : Int)), (4, ii place), (5, ii (vm w : Int)), (6, zz (nmF v w u k)), (7, zz (sgF v w u k)), (8, zz (btF v w u k)), (9, ii ((k : Nat) : Int))]) (S' := [zz (sgF v w u k)]) dm_X12_amended_326 rfl rfl rfl rfl ?_
            refine y_zeq (c := sgF v w u k) (t := 475) (pc' := 331) dm_X12_amended_328 rfl rfl (fun hb8 => ?_) (fun hb8 => ?_)
            · have hAN : amS v w u (vm w) = false := by rw [← hkn]; exact am_no hb7 hb8
              refine me1 (pc' := 476) (L' := [(0, .ref 102), (1, ii (hd : Int)), (2, ii (hd2 : Int)), (3, ii (hd3 : Int)), (4, ii place), (5, ii (vm w : Int)), (6, zz (nmF v w u k)), (7, zz (sgF v w u k)), (8, zz (btF v w u k)), (9, ii ((k : Nat) : Int))]) (S' := [.ref 102]) dm_X12_amended_475 rfl rfl rfl rfl ?_
              refine me1 (pc' := 477) (L' := [(0, .ref 102), (1, ii (hd : Int)), (2, ii (hd2 : Int)), (3, ii (hd3 : Int)), (4, ii place), (5, ii (vm w : Int)), (6, zz (nmF v w u k)), (7, zz (sgF v w u k)), (8, zz (btF v w u k)), (9, ii ((k : Nat) : Int))]) (S' := [ii (hd : Int), .ref 102]) dm_X12_amended_476 rfl rfl rfl rfl ?_
              refine x_cp (pc' := 480) (v := ii (vm v : Int)) (rest := []) dm_X12_amended_477 rfl (q_inv (As := [ii (hd : Int)]) (S := []) hm rfl rfl rfl) rfl rfl rfl (r_many_ hm (by omega) hBt hvt) ?_
              refine me0 (pc' := 482) (S' := [ii 24, ii (vm v : Int)]) dm_X12_amended_480 rfl rfl rfl rfl ?_
              refine y_2le (a := (vm v : Int)) (b := 24) (t := 494) (pc' := 485) dm_X12_amended_482 rfl rfl (by omega) (fun hb9 => ?_) (fun hb9 => ?_)
              · refine me1 (pc' := 495) (L' := [(0, .ref 102), (1, ii (hd : Int)), (2, ii (hd2 : Int)), (3, ii (hd3 : Int)), (4, ii place), (5, ii (vm w : Int)), (6, zz (nmF v w u k)), (7, zz (sgF v w u k)), (8, zz (btF v w u k)), (9, ii ((k : Nat) : Int))]) (S' := [.ref 102]) dm_X12_amended_494 rfl rfl rfl rfl ?_
                refine me3 (pc' := 498) (S' := [ii (t.1 13)]) dm_X12_amended_495 (q_geti (v := t.1 13) hm rfl (fun m i l => rg_13 m i l) rfl) rfl rfl rfl ?_
                refine pg_st (S' := [ii ((base : Nat) : Int)]) (congrArg (fun z => ii z :: []) (ht13)) ?_
                refine me1 (pc' := 500) (L' := [(9, ii ((base : Nat) : Int)), (0, .ref 102), (1, ii (hd : Int)), (2, ii (hd2 : Int)), (3, ii (hd3 : Int)), (4, ii place), (5, ii (vm w : Int)), (6, zz (nmF v w u k)), (7, zz (sgF v w u k)), (8, zz (btF v w u k))]) (S' := []) dm_X12_amended_498 rfl rfl rfl rfl ?_
                refine me0 (pc' := 501) (S' := [ii 0]) dm_X12_amended_500 rfl rfl rfl rfl ?_
                refine me1 (pc' := 503) (L' := [(10, ii 0), (9, ii ((base : Nat) : Int)), (0, .ref 102), (1, ii (hd : Int)), (2, ii (hd2 : Int)), (3, ii (hd3 : Int)), (4, ii place), (5, ii (vm w : Int)), (6, zz (nmF v w u k)), (7, zz (sgF v w u k)), (8, zz (btF v w u k))]) (S' := []) dm_X12_amended_501 rfl rfl rfl rfl ?_
                have lp503 : ∀ (n503 : Nat) (k2 : Nat) (y : RS), vm v - k2 = n503 → (k2 ≤ vm v) → (rpw t y base k2 (e + 1) (fun j => vit v j)) → (y.1 3 = (b : Int)) → ((q : Int) ≤ y.1 4 ∧ y.1 4 ≤ (q : Int) + ((k2 : Nat) : Int)) → pgE xt (d - 1) 12 11 false (Option.some Jvm.ClassFile.FieldType.int) (mj_dec prog_14_method_101_code) 503 [(0, .ref 102), (1, ii (hd : Int)), (2, ii (hd2 : Int)), (3, ii (hd3 : Int)), (4, ii place), (5, ii (vm w : Int)), (9, ii ((base : Nat) : Int)), (10, ii ((k2 : Nat) : Int))] [] (rI pre post y.1 y.2.1 y.2.2.1 y.2.2.2) (fun r h' => ∃ x, r = some x ∧ rres pre post s (e + 2) (d_amend v w u) place (vm v + vq v) (vm v + 1) x h') := by
                  intro n503
                  induction n503 using Nat.strongRecOn with
                  | ind n503 ih503 =>
                    intro k2 y hm503 hk2 hpw hy3 hy4
                    obtain ⟨qt, hqt2⟩ : ∃ qt : Nat, y.1 4 = (qt : Int) := ⟨(y.1 4).toNat, by omega⟩
                    have hBy : rB y := ⟨by omega, by omega, by omega, by omega⟩
                    have he0y : y.1 5 = 0 := hpw.2.2.2.2.2.2.2.1.trans he0t
                    have h10y : y.1 10 = t.1 10 := hpw.2.1 10 (by decide) (by decide) (by decide) (by decide) (by decide) (by decide)
                    have hvy := rv_ext hpw.1 hh3 hvt
                    have hwy := rv_ext hpw.1 hh4 hwt
                    have huy := rv_ext hpw.1 hh5 hut
                    refine me1 (pc' := 505) (L' := [(0, .ref 102), (1, ii (hd : Int)), (2, ii (hd2 : Int)), (3, ii (hd3 : Int)), (4, ii place), (5, ii (vm w : Int)), (9, ii ((base : Nat) : Int)), (10, ii ((k2 : Nat) : Int))]) (S' := [ii ((k2 : Nat) : Int)]) dm_X12_amended_503 rfl rfl rfl rfl ?_
                    refine me1 (pc' := 506) (L' := [(0, .ref 102), (1, ii (hd : Int)), (2, ii (hd2 : Int)), (3, ii (hd3 : Int)), (4, ii place), (5, ii (vm w : Int)), (9, ii ((base : Nat) : Int)), (10, ii ((k2 : Nat) : Int))]) (S' := [.ref 102, ii ((k2 : Nat) : Int)]) dm_X12_amended_505 rfl rfl rfl rfl ?_
                    refine me1 (pc' := 507) (L' := [(0, .ref 102), (1, ii (hd : Int)), (2, ii (hd2 : Int)), (3, ii (hd3 : Int)), (4, ii place), (5, ii (vm w : Int)), (9, ii ((base : Nat) : Int)), (10, ii ((k2 : Nat) : Int))]) (S' := [ii (hd : Int), .ref 102, ii ((k2 : Nat) : Int)]) dm_X12_amended_506 rfl rfl rfl rfl ?_
                    refine x_cp (pc' := 510) (v := ii (vm v : Int)) (rest := [ii ((k2 : Nat) : Int)]) dm_X12_amended_507 rfl (q_inv (As := [ii (hd : Int)]) (S := [ii ((k2 : Nat) : Int)]) hm rfl rfl rfl) rfl rfl rfl (r_many_ hm (by omega) hBy hvy) ?_
                    refine y_2ge (a := ((k2 : Nat) : Int)) (b := (vm v : Int)) (t := 530) (pc' := 513) dm_X12_amended_510 rfl rfl (by omega) (fun hb10 => ?_) (fun hb10 => ?_)
                    · have hk2n : k2 = vm v := by omega
                      rw [hk2n] at hpw hy4
                      refine me0 (pc' := 531) (S' := [ii 0]) dm_X12_amended_530 rfl rfl rfl rfl ?_
                      refine me1 (pc' := 533) (L' := [(10, ii 0), (0, .ref 102), (1, ii (hd : Int)), (2, ii (hd2 : Int)), (3, ii (hd3 : Int)), (4, ii place), (5, ii (vm w : Int)), (9, ii ((base : Nat) : Int))]) (S' := []) dm_X12_amended_531 rfl rfl rfl rfl ?_
                      have lp533 : ∀ (n533 : Nat) (k3 : Nat) (y : RS), vm w - k3 = n533 → (k3 ≤ vm w) → (rpw t y base (vm v) (e + 1) (nsn v (amJ (plw w) (gvF w u) k3))) → (y.1 3 = (b : Int)) → ((q : Int) ≤ y.1 4 ∧ y.1 4 ≤ (q : Int) + ((vm v : Nat) : Int)) → pgE xt (d - 1) 12 11 false (Option.some Jvm.ClassFile.FieldType.int) (mj_dec prog_14_method_101_code) 533 [(0, .ref 102), (1, ii (hd : Int)), (2, ii (hd2 : Int)), (3, ii (hd3 : Int)), (4, ii place), (5, ii (vm w : Int)), (9, ii ((base : Nat) : Int)), (10, ii ((k3 : Nat) : Int))] [] (rI pre post y.1 y.2.1 y.2.2.1 y.2.2.2) (fun r h' => ∃ x, r = some x ∧ rres pre post s (e + 2) (d_amend v w u) place (vm v + vq v) (vm v + 1) x h') := by
                        intro n533
                        induction n533 using Nat.strongRecOn with
                        | ind n533 ih533 =>
                          intro k3 y hm533 hk3 hpw hy3 hy4
                          obtain ⟨qt, hqt2⟩ : ∃ qt : Nat, y.1 4 = (qt : Int) := ⟨(y.1 4).toNat, by omega⟩
                          have hBy : rB y := ⟨by omega, by omega, by omega, by omega⟩
                          have he0y : y.1 5 = 0 := hpw.2.2.2.2.2.2.2.1.trans he0t
                          have h10y : y.1 10 = t.1 10 := hpw.2.1 10 (by decide) (by decide) (by decide) (by decide) (by decide) (by decide)
                          have hvy := rv_ext hpw.1 hh3 hvt
                          have hwy := rv_ext hpw.1 hh4 hwt
                          have huy := rv_ext hpw.1 hh5 hut
                          refine me1 (pc' := 535) (L' := [(0, .ref 102), (1, ii (hd : Int)), (2, ii (hd2 : Int)), (3, ii (hd3 : Int)), (4, ii place), (5, ii (vm w : Int)), (9, ii ((base : Nat) : Int)), (10, ii ((k3 : Nat) : Int))]) (S' := [ii ((k3 : Nat) : Int)]) dm_X12_amended_533 rfl rfl rfl rfl ?_
                          refine me1 (pc' := 537) (L' := [(0, .ref 102), (1, ii (hd : Int)), (2, ii (hd2 : Int)), (3, ii (hd3 : Int)), (4, ii place), (5, ii (vm w : Int)), (9, ii ((base : Nat) : Int)), (10, ii ((k3 : Nat) : Int))]) (S' := [ii (vm w : Int), ii ((k3 : Nat) : Int)]) dm_X12_amended_535 rfl rfl rfl rfl ?_
                          refine y_2ge (a := ((k3 : Nat) : Int)) (b := (vm w : Int)) (t := 589) (pc' := 540) dm_X12_amended_537 rfl rfl (by omega) (fun hb11 => ?_) (fun hb11 => ?_)
                          · refine me1 (pc' := 590) (L' := [(0, .ref 102), (1, ii (hd : Int)), (2, ii (hd2 : Int)), (3, ii (hd3 : Int)), (4, ii place), (5, ii (vm w : Int)), (9, ii ((base : Nat) : Int)), (10, ii ((k3 : Nat) : Int))]) (S' := [.ref 102]) dm_X12_amended_589 rfl rfl rfl rfl ?_
                            refine me1 (pc' := 592) (L' := [(0, .ref 102), (1, ii (hd : Int)), (2, ii (hd2 : Int)), (3, ii (hd3 : Int)), (4, ii place), (5, ii (vm w : Int)), (9, ii ((base : Nat) : Int)), (10, ii ((k3 : Nat) : Int))]) (S' := [ii ((base : Nat) : Int), .ref 102]) dm_X12_amended_590 rfl rfl rfl rfl ?_
                            have hk3n : k3 = vm w := by omega
                            rw [hk3n] at hpw
                            refine x_cv (pc' := 595) (rest := []) dm_X12_amended_592 rfl (q_inv (As := [ii ((base : Nat) : Int)]) (S := []) hm rfl rfl rfl) rfl rfl rfl (r_nest_ (s := y) (q := qt) (b := b) (n := vm v) (base := base) hm (by omega) hqt2 hy3 (by omega) (by omega) he0y (by omega) (by omega) hpw.2.2.1 (by omega) (rpw_O hpw (by omega))) ?_
                            rintro _ _ ⟨rfl, rfl⟩
                            refine y_ret (r := some (ii (qt : Int))) dm_X12_amended_595 rfl rfl rfl ?_
                            rw [amd_n (by unfold askP; rw [if_neg (by omega), if_neg (by omega)]) hwu hal (by omega) hAN (by omega)]
                            exact ⟨_, rfl, rres_bk (vw3_pre hvw) (rpw_nest hpw ht13 he0t hqt2 (by omega) hy3 (by omega) (by omega) (by omega) (by push_cast; omega))⟩
                          · have hpl1 := alP_of hal (show k3 < vm w by omega)
                            have hplw : (vn w k3).toInt = ((plw w k3 : Nat) : Int) := by unfold plw; omega
                            refine me1 (pc' := 541) (L' := [(0, .ref 102), (1, ii (hd : Int)), (2, ii (hd2 : Int)), (3, ii (hd3 : Int)), (4, ii place), (5, ii (vm w : Int)), (9, ii ((base : Nat) : Int)), (10, ii ((k3 : Nat) : Int))]) (S' := [.ref 102]) dm_X12_amended_540 rfl rfl rfl rfl ?_
                            refine me3 (pc' := 544) (S' := [.ref (102 + 4)]) dm_X12_amended_541 (q_getr hm rfl (fun m i l => rg_12 m i l)) rfl rfl rfl ?_
                            refine me1 (pc' := 546) (L' := [(0, .ref 102), (1, ii (hd : Int)), (2, ii (hd2 : Int)), (3, ii (hd3 : Int)), (4, ii place), (5, ii (vm w : Int)), (9, ii ((base : Nat) : Int)), (10, ii ((k3 : Nat) : Int))]) (S' := [ii ((base : Nat) : Int), .ref (102 + 4)]) dm_X12_amended_544 rfl rfl rfl rfl ?_
                            refine me1 (pc' := 547) (L' := [(0, .ref 102), (1, ii (hd : Int)), (2, ii (hd2 : Int)), (3, ii (hd3 : Int)), (4, ii place), (5, ii (vm w : Int)), (9, ii ((base : Nat) : Int)), (10, ii ((k3 : Nat) : Int))]) (S' := [.ref 102, ii ((base : Nat) : Int), .ref (102 + 4)]) dm_X12_amended_546 rfl rfl rfl rfl ?_
                            refine me1 (pc' := 548) (L' := [(0, .ref 102), (1, ii (hd : Int)), (2, ii (hd2 : Int)), (3, ii (hd3 : Int)), (4, ii place), (5, ii (vm w : Int)), (9, ii ((base : Nat) : Int)), (10, ii ((k3 : Nat) : Int))]) (S' := [ii (hd2 : Int), .ref 102, ii ((base : Nat) : Int), .ref (102 + 4)]) dm_X12_amended_547 rfl rfl rfl rfl ?_
                            refine me1 (pc' := 550) (L' := [(0, .ref 102), (1, ii (hd : Int)), (2, ii (hd2 : Int)), (3, ii (hd3 : Int)), (4, ii place), (5, ii (vm w : Int)), (9, ii ((base : Nat) : Int)), (10, ii ((k3 : Nat) : Int))]) (S' := [ii ((k3 : Nat) : Int), ii (hd2 : Int), .ref 102, ii ((base : Nat) : Int), .ref (102 + 4)]) dm_X12_amended_548 rfl rfl rfl rfl ?_
                            refine x_cp (pc' := 553) (v := .long (vn w k3)) (rest := [ii ((base : Nat) : Int), .ref (102 + 4)]) dm_X12_amended_550 rfl (q_inv (As := [ii (hd2 : Int), ii ((k3 : Nat) : Int)]) (S := [ii ((base : Nat) : Int), .ref (102 + 4)]) hm rfl rfl rfl) rfl rfl rfl (r_number_ (k := k3) hm (by omega) hBy hwy (by omega) (by omega)) ?_
                            refine y_l2i (a := (vn w k3).toInt) dm_X12_amended_553 (pc' := 554) rfl (n_l2i _ rfl) ?_
                            refine y_iadd (a := ((base : Nat) : Int)) (b := (vn w k3).toInt) dm_X12_amended_554 (pc' := 555) rfl ?_
                            refine pg_st (S' := [ii ((base + plw w k3 : Nat) : Int), .ref (102 + 4)]) (congrArg (fun z => ii z :: [.ref (102 + 4)]) (by rw [hplw]; push_cast; rfl)) ?_
                            refine me1 (pc' := 556) (L' := [(0, .ref 102), (1, ii (hd : Int)), (2, ii (hd2 : Int)), (3, ii (hd3 : Int)), (4, ii place), (5, ii (vm w : Int)), (9, ii ((base : Nat) : Int)), (10, ii ((k3 : Nat) : Int))]) (S' := [.ref 102, ii ((base + plw w k3 : Nat) : Int), .ref (102 + 4)]) dm_X12_amended_555 rfl rfl rfl rfl ?_
                            refine me1 (pc' := 557) (L' := [(0, .ref 102), (1, ii (hd : Int)), (2, ii (hd2 : Int)), (3, ii (hd3 : Int)), (4, ii place), (5, ii (vm w : Int)), (9, ii ((base : Nat) : Int)), (10, ii ((k3 : Nat) : Int))]) (S' := [ii (hd2 : Int), .ref 102, ii ((base + plw w k3 : Nat) : Int), .ref (102 + 4)]) dm_X12_amended_556 rfl rfl rfl rfl ?_
                            refine x_cp (pc' := 560) (v := zz (decide (vk w ≤ 1))) (rest := [ii ((base + plw w k3 : Nat) : Int), .ref (102 + 4)]) dm_X12_amended_557 rfl (q_inv (As := [ii (hd2 : Int)]) (S := [ii ((base + plw w k3 : Nat) : Int), .ref (102 + 4)]) hm rfl rfl rfl) rfl rfl rfl (r_isOne_ hm (by omega) hBy hwy) ?_
                            refine y_zne (c := decide (vk w ≤ 1)) (t := 571) (pc' := 563) dm_X12_amended_560 rfl rfl (fun hb12 => ?_) (fun hb12 => ?_)
                            · replace hb12 := dT hb12
                              refine me1 (pc' := 572) (L' := [(0, .ref 102), (1, ii (hd : Int)), (2, ii (hd2 : Int)), (3, ii (hd3 : Int)), (4, ii place), (5, ii (vm w : Int)), (9, ii ((base : Nat) : Int)), (10, ii ((k3 : Nat) : Int))]) (S' := [ii (hd3 : Int), ii ((base + plw w k3 : Nat) : Int), .ref (102 + 4)]) dm_X12_amended_571 rfl rfl rfl rfl ?_
                              refine me2 (pc' := 582) (S' := [ii (hd3 : Int), ii ((base + plw w k3 : Nat) : Int), .ref (102 + 4)]) dm_X12_amended_572 rfl rfl rfl ?_
                              refine me3 (pc' := 583) (S' := []) (h1 := rI pre post y.1 y.2.1 (va_up y.2.2.1 12 (va_up (y.2.2.1 12) (base + plw w k3) (hd3 : Int))) y.2.2.2) dm_X12_amended_582 (q_iast (j := ((base + plw w k3 : Nat) : Int)) (k := 12) (n := 8192) hm (fun m i l I J => rc_12 m i l I J) (fun m i l I J f => rs_12 m i l I J f) (by omega) (by omega) (by decide)) rfl rfl rfl ?_
                              refine pg_cast (h2 := rI pre post ((wtS y (base + plw w k3) (hd3 : Int)).1) ((wtS y (base + plw w k3) (hd3 : Int)).2.1) ((wtS y (base + plw w k3) (hd3 : Int)).2.2.1) ((wtS y (base + plw w k3) (hd3 : Int)).2.2.2)) rfl ?_
                              refine y_iinc (pc' := 586) (L' := [(10, ii (((k3 : Nat) : Int) + 1)), (0, .ref 102), (1, ii (hd : Int)), (2, ii (hd2 : Int)), (3, ii (hd3 : Int)), (4, ii place), (5, ii (vm w : Int)), (9, ii ((base : Nat) : Int))]) dm_X12_amended_583 (y_incp (a := ((k3 : Nat) : Int)) (c := 1) rfl rfl (by decide)) rfl ?_
                              refine me2 (pc' := 533) (S' := []) dm_X12_amended_586 rfl rfl rfl ?_
                              exact pg_sub (L := [(0, .ref 102), (1, ii (hd : Int)), (2, ii (hd2 : Int)), (3, ii (hd3 : Int)), (4, ii place), (5, ii (vm w : Int)), (9, ii ((base : Nat) : Int)), (10, ii (((k3 + 1) : Nat) : Int))]) rfl rfl rfl (ih533 (vm w - (k3 + 1)) (by omega) (k3 + 1) (wtS y (base + plw w k3) (hd3 : Int)) rfl (by omega) (rpw_cg (rpw_set hpw (by omega) hh5 (by rw [gvF_1 (by omega)]; exact huy)) (fun j _ => nsn_st j)) (show y.1 3 = _ by omega) (show (q : Int) ≤ y.1 4 ∧ y.1 4 ≤ _ by omega))
                            · replace hb12 := dF hb12
                              refine me1 (pc' := 564) (L' := [(0, .ref 102), (1, ii (hd : Int)), (2, ii (hd2 : Int)), (3, ii (hd3 : Int)), (4, ii place), (5, ii (vm w : Int)), (9, ii ((base : Nat) : Int)), (10, ii ((k3 : Nat) : Int))]) (S' := [.ref 102, ii ((base + plw w k3 : Nat) : Int), .ref (102 + 4)]) dm_X12_amended_563 rfl rfl rfl rfl ?_
                              refine me1 (pc' := 565) (L' := [(0, .ref 102), (1, ii (hd : Int)), (2, ii (hd2 : Int)), (3, ii (hd3 : Int)), (4, ii place), (5, ii (vm w : Int)), (9, ii ((base : Nat) : Int)), (10, ii ((k3 : Nat) : Int))]) (S' := [ii (hd3 : Int), .ref 102, ii ((base + plw w k3 : Nat) : Int), .ref (102 + 4)]) dm_X12_amended_564 rfl rfl rfl rfl ?_
                              refine x_cp (pc' := 568) (v := zz (decide (vk u ≤ 1))) (rest := [ii ((base + plw w k3 : Nat) : Int), .ref (102 + 4)]) dm_X12_amended_565 rfl (q_inv (As := [ii (hd3 : Int)]) (S := [ii ((base + plw w k3 : Nat) : Int), .ref (102 + 4)]) hm rfl rfl rfl) rfl rfl rfl (r_isOne_ hm (by omega) hBy huy) ?_
                              refine y_zeq (c := decide (vk u ≤ 1)) (t := 575) (pc' := 571) dm_X12_amended_568 rfl rfl (fun hb13 => ?_) (fun hb13 => ?_)
                              · replace hb13 := dF hb13; exfalso; omega
                              · replace hb13 := dT hb13
                                refine me1 (pc' := 572) (L' := [(0, .ref 102), (1, ii (hd : Int)), (2, ii (hd2 : Int)), (3, ii (hd3 : Int)), (4, ii place), (5, ii (vm w : Int)), (9, ii ((base : Nat) : Int)), (10, ii ((k3 : Nat) : Int))]) (S' := [ii (hd3 : Int), ii ((base + plw w k3 : Nat) : Int), .ref (102 + 4)]) dm_X12_amended_571 rfl rfl rfl rfl ?_
                                refine me2 (pc' := 582) (S' := [ii (hd3 : Int), ii ((base + plw w k3 : Nat) : Int), .ref (102 + 4)]) dm_X12_amended_572 rfl rfl rfl ?_
                                refine me3 (pc' := 583) (S' := []) (h1 := rI pre post y.1 y.2.1 (va_up y.2.2.1 12 (va_up (y.2.2.1 12) (base + plw w k3) (hd3 : Int))) y.2.2.2) dm_X12_amended_582 (q_iast (j := ((base + plw w k3 : Nat) : Int)) (k := 12) (n := 8192) hm (fun m i l I J => rc_12 m i l I J) (fun m i l I J f => rs_12 m i l I J f) (by omega) (by omega) (by decide)) rfl rfl rfl ?_
                                refine pg_cast (h2 := rI pre post ((wtS y (base + plw w k3) (hd3 : Int)).1) ((wtS y (base + plw w k3) (hd3 : Int)).2.1) ((wtS y (base + plw w k3) (hd3 : Int)).2.2.1) ((wtS y (base + plw w k3) (hd3 : Int)).2.2.2)) rfl ?_
                                refine y_iinc (pc' := 586) (L' := [(10, ii (((k3 : Nat) : Int) + 1)), (0, .ref 102), (1, ii (hd : Int)), (2, ii (hd2 : Int)), (3, ii (hd3 : Int)), (4, ii place), (5, ii (vm w : Int)), (9, ii ((base : Nat) : Int))]) dm_X12_amended_583 (y_incp (a := ((k3 : Nat) : Int)) (c := 1) rfl rfl (by decide)) rfl ?_
                                refine me2 (pc' := 533) (S' := []) dm_X12_amended_586 rfl rfl rfl ?_
                                exact pg_sub (L := [(0, .ref 102), (1, ii (hd : Int)), (2, ii (hd2 : Int)), (3, ii (hd3 : Int)), (4, ii place), (5, ii (vm w : Int)), (9, ii ((base : Nat) : Int)), (10, ii (((k3 + 1) : Nat) : Int))]) rfl rfl rfl (ih533 (vm w - (k3 + 1)) (by omega) (k3 + 1) (wtS y (base + plw w k3) (hd3 : Int)) rfl (by omega) (rpw_cg (rpw_set hpw (by omega) hh5 (by rw [gvF_1 (by omega)]; exact huy)) (fun j _ => nsn_st j)) (show y.1 3 = _ by omega) (show (q : Int) ≤ y.1 4 ∧ y.1 4 ≤ _ by omega))
                      exact pg_sub (L := [(0, .ref 102), (1, ii (hd : Int)), (2, ii (hd2 : Int)), (3, ii (hd3 : Int)), (4, ii place), (5, ii (vm w : Int)), (9, ii ((base : Nat) : Int)), (10, ii ((0 : Nat) : Int))]) rfl rfl rfl (lp533 _ 0 y rfl (Nat.zero_le _) (rpw_cg hpw (fun j _ => nsn_0 j)) hy3 (by omega))
                    · refine me1 (pc' := 514) (L' := [(0, .ref 102), (1, ii (hd : Int)), (2, ii (hd2 : Int)), (3, ii (hd3 : Int)), (4, ii place), (5, ii (vm w : Int)), (9, ii ((base : Nat) : Int)), (10, ii ((k2 : Nat) : Int))]) (S' := [.ref 102]) dm_X12_amended_513 rfl rfl rfl rfl ?_
                      refine me1 (pc' := 515) (L' := [(0, .ref 102), (1, ii (hd : Int)), (2, ii (hd2 : Int)), (3, ii (hd3 : Int)), (4, ii place), (5, ii (vm w : Int)), (9, ii ((base : Nat) : Int)), (10, ii ((k2 : Nat) : Int))]) (S' := [.ref 102, .ref 102]) dm_X12_amended_514 rfl rfl rfl rfl ?_
                      refine me1 (pc' := 516) (L' := [(0, .ref 102), (1, ii (hd : Int)), (2, ii (hd2 : Int)), (3, ii (hd3 : Int)), (4, ii place), (5, ii (vm w : Int)), (9, ii ((base : Nat) : Int)), (10, ii ((k2 : Nat) : Int))]) (S' := [ii (hd : Int), .ref 102, .ref 102]) dm_X12_amended_515 rfl rfl rfl rfl ?_
                      refine me1 (pc' := 518) (L' := [(0, .ref 102), (1, ii (hd : Int)), (2, ii (hd2 : Int)), (3, ii (hd3 : Int)), (4, ii place), (5, ii (vm w : Int)), (9, ii ((base : Nat) : Int)), (10, ii ((k2 : Nat) : Int))]) (S' := [ii ((k2 : Nat) : Int), ii (hd : Int), .ref 102, .ref 102]) dm_X12_amended_516 rfl rfl rfl rfl ?_
                      refine x_cv (pc' := 521) (rest := [.ref 102]) dm_X12_amended_518 rfl (q_inv (As := [ii (hd : Int), ii ((k2 : Nat) : Int)]) (S := [.ref 102]) hm rfl rfl rfl) rfl rfl rfl (r_itemOfO_ (s := y) (q := qt) (b := b) (place := place) (k := k2) hm (by omega) hBy hvy hh3 hqt2 hy3 (by omega) (by omega) he0y (by rw [h10y]; exact hcat) hC (Or.inr (by omega)) (by omega)) ?_
                      rintro _ _ ⟨t1, rfl, r1, r2, r3, r4, r5, r6, r9, p1, r7, rfl, r8⟩
                      refine x_cn (pc' := 524) (rest := []) dm_X12_amended_521 rfl (q_inv (As := [ii (p1 : Int)]) (S := []) hm rfl rfl rfl) rfl rfl rfl (r_push_ (s := t1) (n := base + k2) hm (by omega) ((r2.1 13 (by decide) (by decide) (by decide) (by decide) (by decide)).trans hpw.2.2.1) (by omega)) ?_
                      rintro _ rfl
                      refine y_iinc (pc' := 527) (L' := [(10, ii (((k2 : Nat) : Int) + 1)), (0, .ref 102), (1, ii (hd : Int)), (2, ii (hd2 : Int)), (3, ii (hd3 : Int)), (4, ii place), (5, ii (vm w : Int)), (9, ii ((base : Nat) : Int))]) dm_X12_amended_524 (y_incp (a := ((k2 : Nat) : Int)) (c := 1) rfl rfl (by decide)) rfl ?_
                      refine me2 (pc' := 503) (S' := []) dm_X12_amended_527 rfl rfl rfl ?_
                      exact pg_sub (L := [(0, .ref 102), (1, ii (hd : Int)), (2, ii (hd2 : Int)), (3, ii (hd3 : Int)), (4, ii place), (5, ii (vm w : Int)), (9, ii ((base : Nat) : Int)), (10, ii (((k2 + 1) : Nat) : Int))]) rfl rfl rfl (ih503 (vm v - (k2 + 1)) (by omega) (k2 + 1) (pushS t1 (base + k2) (p1 : Int)) rfl (by omega) (rpw_push (rpw_fr hpw r1 r2 (r5.trans he0y.symm) r6) r7 r8) (show t1.1 3 = _ by omega) (show (q : Int) ≤ t1.1 4 ∧ t1.1 4 ≤ _ by have := r1.1; omega))
                exact pg_sub (L := [(0, .ref 102), (1, ii (hd : Int)), (2, ii (hd2 : Int)), (3, ii (hd3 : Int)), (4, ii place), (5, ii (vm w : Int)), (9, ii ((base : Nat) : Int)), (10, ii ((0 : Nat) : Int))]) rfl rfl rfl (lp503 _ 0 t rfl (Nat.zero_le _) (rpw_0 ht13) hbt (by omega))
              · refine me1 (pc' := 486) (L' := [(0, .ref 102), (1, ii (hd : Int)), (2, ii (hd2 : Int)), (3, ii (hd3 : Int)), (4, ii place), (5, ii (vm w : Int)), (6, zz (nmF v w u k)), (7, zz (sgF v w u k)), (8, zz (btF v w u k)), (9, ii ((k : Nat) : Int))]) (S' := [.ref 102]) dm_X12_amended_485 rfl rfl rfl rfl ?_
                refine me0 (pc' := 488) (S' := [ii 8, .ref 102]) dm_X12_amended_486 rfl rfl rfl rfl ?_
                refine me1 (pc' := 490) (L' := [(0, .ref 102), (1, ii (hd : Int)), (2, ii (hd2 : Int)), (3, ii (hd3 : Int)), (4, ii place), (5, ii (vm w : Int)), (6, zz (nmF v w u k)), (7, zz (sgF v w u k)), (8, zz (btF v w u k)), (9, ii ((k : Nat) : Int))]) (S' := [ii place, ii 8, .ref 102]) dm_X12_amended_488 rfl rfl rfl rfl ?_
                refine x_cv (pc' := 493) (rest := []) dm_X12_amended_490 rfl (q_inv (As := [ii 8, ii place]) (S := []) hm rfl rfl rfl) rfl rfl rfl (r_fail_ (s := t) hm (by omega) he0t hcat.1 hcat.2) ?_
                rintro _ _ ⟨rfl, rfl⟩
                refine y_ret (r := some (ii (-1))) dm_X12_amended_493 rfl rfl rfl ?_
                rw [amd_8 (by unfold askP; rw [if_neg (by omega), if_neg (by omega)]) hwu hal (by omega) hAN (by omega)]
                exact ⟨_, rfl, rres_fail (vw3_pre hvw) he0⟩
            · exact pg_sub (L := [(0, .ref 102), (1, ii (hd : Int)), (2, ii (hd2 : Int)), (3, ii (hd3 : Int)), (4, ii place), (5, ii (vm w : Int)), (6, zz (nmF v w u k)), (7, zz (sgF v w u k)), (8, zz (btF v w u k))]) rfl rfl rfl (jn331 (by rw [← hkn]; exact am_sg hb8))
        · refine me1 (pc' := 217) (L' := [(0, .ref 102), (1, ii (hd : Int)), (2, ii (hd2 : Int)), (3, ii (hd3 : Int)), (4, ii place), (5, ii (vm w : Int)), (6, zz (nmF v w u k)), (7, zz (sgF v w u k)), (8, zz (btF v w u k)), (9, ii ((k : Nat) : Int))]) (S' := [.ref 102]) dm_X12_amended_216 rfl rfl rfl rfl ?_
          refine me1 (pc' := 218) (L' := [(0, .ref 102), (1, ii (hd : Int)), (2, ii (hd2 : Int)), (3, ii (hd3 : Int)), (4, ii place), (5, ii (vm w : Int)), (6, zz (nmF v w u k)), (7, zz (sgF v w u k)), (8, zz (btF v w u k)), (9, ii ((k : Nat) : Int))]) (S' := [ii (hd2 : Int), .ref 102]) dm_X12_amended_217 rfl rfl rfl rfl ?_
          refine me1 (pc' := 219) (L' := [(0, .ref 102), (1, ii (hd : Int)), (2, ii (hd2 : Int)), (3, ii (hd3 : Int)), (4, ii place), (5, ii (vm w : Int)), (6, zz (nmF v w u k)), (7, zz (sgF v w u k)), (8, zz (btF v w u k)), (9, ii ((k : Nat) : Int))]) (S' := [ii (hd3 : Int), ii (hd2 : Int), .ref 102]) dm_X12_amended_218 rfl rfl rfl rfl ?_
          refine me1 (pc' := 221) (L' := [(0, .ref 102), (1, ii (hd : Int)), (2, ii (hd2 : Int)), (3, ii (hd3 : Int)), (4, ii place), (5, ii (vm w : Int)), (6, zz (nmF v w u k)), (7, zz (sgF v w u k)), (8, zz (btF v w u k)), (9, ii ((k : Nat) : Int))]) (S' := [ii ((k : Nat) : Int), ii (hd3 : Int), ii (hd2 : Int), .ref 102]) dm_X12_amended_219 rfl rfl rfl rfl ?_
          refine me0 (pc' := 222) (S' := [ii 0, ii ((k : Nat) : Int), ii (hd3 : Int), ii (hd2 : Int), .ref 102]) dm_X12_amended_221 rfl rfl rfl rfl ?_
          refine x_cv (pc' := 225) (rest := []) dm_X12_amended_222 rfl (q_inv (As := [ii (hd2 : Int), ii (hd3 : Int), ii ((k : Nat) : Int), ii 0]) (S := []) hm rfl rfl rfl) rfl rfl rfl (r_given_ (s := t) (k := k) hm (by omega) hBt hwt hut hh5 (by omega) (by omega)) ?_
          rintro _ _ ⟨p1, s1, rfl, rfl, hg, hws1, hp1⟩
          have hv1 := vw3_tr hvw (vw3_of (by decide) hws1)
          have hBs1 : rB s1 := rB_vw (vw3_of (by decide) hws1) hBt
          obtain ⟨fg, hfg, hshg, hltg, hclg, hgk, hgm, hgc, hgq, hgcl⟩ := rv_val hg
          have hg1 : vk (gvF w u k) ≤ 1 → vq (gvF w u k) = 1 := vq_1 hg.1
          refine me1 (pc' := 227) (L' := [(10, ii ((p1 : Nat) : Int)), (0, .ref 102), (1, ii (hd : Int)), (2, ii (hd2 : Int)), (3, ii (hd3 : Int)), (4, ii place), (5, ii (vm w : Int)), (6, zz (nmF v w u k)), (7, zz (sgF v w u k)), (8, zz (btF v w u k)), (9, ii ((k : Nat) : Int))]) (S' := []) dm_X12_amended_225 rfl rfl rfl rfl ?_
          have jn270 : pgE xt (d - 1) 12 11 false (Option.some Jvm.ClassFile.FieldType.int) (mj_dec prog_14_method_101_code) 270 [(0, .ref 102), (1, ii (hd : Int)), (2, ii (hd2 : Int)), (3, ii (hd3 : Int)), (4, ii place), (5, ii (vm w : Int)), (6, zz (nmF v w u (k + 1))), (7, zz (sgF v w u (k + 1))), (8, zz (btF v w u k)), (9, ii ((k : Nat) : Int)), (10, ii ((p1 : Nat) : Int))] [] (rI pre post s1.1 s1.2.1 s1.2.2.1 s1.2.2.2) (fun r h' => ∃ x, r = some x ∧ rres pre post s (e + 2) (d_amend v w u) place (vm v + vq v) (vm v + 1) x h') := by
            refine me1 (pc' := 272) (L' := [(0, .ref 102), (1, ii (hd : Int)), (2, ii (hd2 : Int)), (3, ii (hd3 : Int)), (4, ii place), (5, ii (vm w : Int)), (6, zz (nmF v w u (k + 1))), (7, zz (sgF v w u (k + 1))), (8, zz (btF v w u k)), (9, ii ((k : Nat) : Int)), (10, ii ((p1 : Nat) : Int))]) (S' := [zz (btF v w u k)]) dm_X12_amended_270 rfl rfl rfl rfl ?_
            refine y_zeq (c := btF v w u k) (t := 312) (pc' := 275) dm_X12_amended_272 rfl rfl (fun hb14 => ?_) (fun hb14 => ?_)
            · refine me0 (pc' := 313) (S' := [ii 0]) dm_X12_amended_312 rfl rfl rfl rfl ?_
              refine pg_st (S' := [zz (btF v w u (k + 1))]) (congrArg (fun z => z :: []) (zz_f (fl_f (Or.inl hb14)))) ?_
              refine me1 (pc' := 315) (L' := [(8, zz (btF v w u (k + 1))), (0, .ref 102), (1, ii (hd : Int)), (2, ii (hd2 : Int)), (3, ii (hd3 : Int)), (4, ii place), (5, ii (vm w : Int)), (6, zz (nmF v w u (k + 1))), (7, zz (sgF v w u (k + 1))), (9, ii ((k : Nat) : Int)), (10, ii ((p1 : Nat) : Int))]) (S' := []) dm_X12_amended_313 rfl rfl rfl rfl ?_
              refine y_iinc (pc' := 318) (L' := [(9, ii (((k : Nat) : Int) + 1)), (8, zz (btF v w u (k + 1))), (0, .ref 102), (1, ii (hd : Int)), (2, ii (hd2 : Int)), (3, ii (hd3 : Int)), (4, ii place), (5, ii (vm w : Int)), (6, zz (nmF v w u (k + 1))), (7, zz (sgF v w u (k + 1))), (10, ii ((p1 : Nat) : Int))]) dm_X12_amended_315 (y_incp (a := ((k : Nat) : Int)) (c := 1) rfl rfl (by decide)) rfl ?_
              refine me2 (pc' := 209) (S' := []) dm_X12_amended_318 rfl rfl rfl ?_
              exact pg_sub (L := [(0, .ref 102), (1, ii (hd : Int)), (2, ii (hd2 : Int)), (3, ii (hd3 : Int)), (4, ii place), (5, ii (vm w : Int)), (6, zz (nmF v w u (k + 1))), (7, zz (sgF v w u (k + 1))), (8, zz (btF v w u (k + 1))), (9, ii (((k + 1) : Nat) : Int))]) rfl rfl rfl (ih209 (vm w - (k + 1)) (by omega) (k + 1) s1 rfl (by omega) hv1)
            · refine me1 (pc' := 276) (L' := [(0, .ref 102), (1, ii (hd : Int)), (2, ii (hd2 : Int)), (3, ii (hd3 : Int)), (4, ii place), (5, ii (vm w : Int)), (6, zz (nmF v w u (k + 1))), (7, zz (sgF v w u (k + 1))), (8, zz (btF v w u k)), (9, ii ((k : Nat) : Int)), (10, ii ((p1 : Nat) : Int))]) (S' := [.ref 102]) dm_X12_amended_275 rfl rfl rfl rfl ?_
              refine me1 (pc' := 278) (L' := [(0, .ref 102), (1, ii (hd : Int)), (2, ii (hd2 : Int)), (3, ii (hd3 : Int)), (4, ii place), (5, ii (vm w : Int)), (6, zz (nmF v w u (k + 1))), (7, zz (sgF v w u (k + 1))), (8, zz (btF v w u k)), (9, ii ((k : Nat) : Int)), (10, ii ((p1 : Nat) : Int))]) (S' := [ii ((p1 : Nat) : Int), .ref 102]) dm_X12_amended_276 rfl rfl rfl rfl ?_
              refine x_cp (pc' := 281) (v := ii (vk (gvF w u k) : Int)) (rest := []) dm_X12_amended_278 rfl (q_inv (As := [ii ((p1 : Nat) : Int)]) (S := []) hm rfl rfl rfl) rfl rfl rfl (r_kindOf_ hm (by omega) hBs1 hg) ?_
              refine y_1ne (a := (vk (gvF w u k) : Int)) (t := 312) (pc' := 284) dm_X12_amended_281 rfl rfl (by omega) (fun hb15 => ?_) (fun hb15 => ?_)
              · refine me0 (pc' := 313) (S' := [ii 0]) dm_X12_amended_312 rfl rfl rfl rfl ?_
                refine pg_st (S' := [zz (btF v w u (k + 1))]) (congrArg (fun z => z :: []) (zz_f (fl_f (Or.inr (decide_eq_false (by omega)))))) ?_
                refine me1 (pc' := 315) (L' := [(8, zz (btF v w u (k + 1))), (0, .ref 102), (1, ii (hd : Int)), (2, ii (hd2 : Int)), (3, ii (hd3 : Int)), (4, ii place), (5, ii (vm w : Int)), (6, zz (nmF v w u (k + 1))), (7, zz (sgF v w u (k + 1))), (9, ii ((k : Nat) : Int)), (10, ii ((p1 : Nat) : Int))]) (S' := []) dm_X12_amended_313 rfl rfl rfl rfl ?_
                refine y_iinc (pc' := 318) (L' := [(9, ii (((k : Nat) : Int) + 1)), (8, zz (btF v w u (k + 1))), (0, .ref 102), (1, ii (hd : Int)), (2, ii (hd2 : Int)), (3, ii (hd3 : Int)), (4, ii place), (5, ii (vm w : Int)), (6, zz (nmF v w u (k + 1))), (7, zz (sgF v w u (k + 1))), (10, ii ((p1 : Nat) : Int))]) dm_X12_amended_315 (y_incp (a := ((k : Nat) : Int)) (c := 1) rfl rfl (by decide)) rfl ?_
                refine me2 (pc' := 209) (S' := []) dm_X12_amended_318 rfl rfl rfl ?_
                exact pg_sub (L := [(0, .ref 102), (1, ii (hd : Int)), (2, ii (hd2 : Int)), (3, ii (hd3 : Int)), (4, ii place), (5, ii (vm w : Int)), (6, zz (nmF v w u (k + 1))), (7, zz (sgF v w u (k + 1))), (8, zz (btF v w u (k + 1))), (9, ii (((k + 1) : Nat) : Int))]) rfl rfl rfl (ih209 (vm w - (k + 1)) (by omega) (k + 1) s1 rfl (by omega) hv1)
              · refine me1 (pc' := 285) (L' := [(0, .ref 102), (1, ii (hd : Int)), (2, ii (hd2 : Int)), (3, ii (hd3 : Int)), (4, ii place), (5, ii (vm w : Int)), (6, zz (nmF v w u (k + 1))), (7, zz (sgF v w u (k + 1))), (8, zz (btF v w u k)), (9, ii ((k : Nat) : Int)), (10, ii ((p1 : Nat) : Int))]) (S' := [.ref 102]) dm_X12_amended_284 rfl rfl rfl rfl ?_
                refine me1 (pc' := 287) (L' := [(0, .ref 102), (1, ii (hd : Int)), (2, ii (hd2 : Int)), (3, ii (hd3 : Int)), (4, ii place), (5, ii (vm w : Int)), (6, zz (nmF v w u (k + 1))), (7, zz (sgF v w u (k + 1))), (8, zz (btF v w u k)), (9, ii ((k : Nat) : Int)), (10, ii ((p1 : Nat) : Int))]) (S' := [ii ((p1 : Nat) : Int), .ref 102]) dm_X12_amended_285 rfl rfl rfl rfl ?_
                refine me0 (pc' := 288) (S' := [ii 0, ii ((p1 : Nat) : Int), .ref 102]) dm_X12_amended_287 rfl rfl rfl rfl ?_
                refine x_cp (pc' := 291) (v := .long (vn (gvF w u k) 0)) (rest := []) dm_X12_amended_288 rfl (q_inv (As := [ii ((p1 : Nat) : Int), ii 0]) (S := []) hm rfl rfl rfl) rfl rfl rfl (r_number_ (k := 0) hm (by omega) hBs1 hg (by omega) (by omega)) ?_
                refine me0 (pc' := 292) (S' := [.long (Int64.ofInt 0), .long (vn (gvF w u k) 0)]) dm_X12_amended_291 rfl rfl rfl rfl ?_
                refine y_llt (x := vn (gvF w u k) 0) (y := Int64.ofInt 0) (t := 312) (pc1 := 293) (pc' := 296) dm_X12_amended_292 rfl dm_X12_amended_293 rfl rfl (fun hb16 => ?_) (fun hb16 => ?_)
                · rw [h0] at hb16
                  refine me0 (pc' := 313) (S' := [ii 0]) dm_X12_amended_312 rfl rfl rfl rfl ?_
                  refine pg_st (S' := [zz (btF v w u (k + 1))]) (congrArg (fun z => z :: []) (zz_f (fl_f (Or.inr (decide_eq_false (by omega)))))) ?_
                  refine me1 (pc' := 315) (L' := [(8, zz (btF v w u (k + 1))), (0, .ref 102), (1, ii (hd : Int)), (2, ii (hd2 : Int)), (3, ii (hd3 : Int)), (4, ii place), (5, ii (vm w : Int)), (6, zz (nmF v w u (k + 1))), (7, zz (sgF v w u (k + 1))), (9, ii ((k : Nat) : Int)), (10, ii ((p1 : Nat) : Int))]) (S' := []) dm_X12_amended_313 rfl rfl rfl rfl ?_
                  refine y_iinc (pc' := 318) (L' := [(9, ii (((k : Nat) : Int) + 1)), (8, zz (btF v w u (k + 1))), (0, .ref 102), (1, ii (hd : Int)), (2, ii (hd2 : Int)), (3, ii (hd3 : Int)), (4, ii place), (5, ii (vm w : Int)), (6, zz (nmF v w u (k + 1))), (7, zz (sgF v w u (k + 1))), (10, ii ((p1 : Nat) : Int))]) dm_X12_amended_315 (y_incp (a := ((k : Nat) : Int)) (c := 1) rfl rfl (by decide)) rfl ?_
                  refine me2 (pc' := 209) (S' := []) dm_X12_amended_318 rfl rfl rfl ?_
                  exact pg_sub (L := [(0, .ref 102), (1, ii (hd : Int)), (2, ii (hd2 : Int)), (3, ii (hd3 : Int)), (4, ii place), (5, ii (vm w : Int)), (6, zz (nmF v w u (k + 1))), (7, zz (sgF v w u (k + 1))), (8, zz (btF v w u (k + 1))), (9, ii (((k + 1) : Nat) : Int))]) rfl rfl rfl (ih209 (vm w - (k + 1)) (by omega) (k + 1) s1 rfl (by omega) hv1)
                · rw [h0] at hb16
                  refine me1 (pc' := 297) (L' := [(0, .ref 102), (1, ii (hd : Int)), (2, ii (hd2 : Int)), (3, ii (hd3 : Int)), (4, ii place), (5, ii (vm w : Int)), (6, zz (nmF v w u (k + 1))), (7, zz (sgF v w u (k + 1))), (8, zz (btF v w u k)), (9, ii ((k : Nat) : Int)), (10, ii ((p1 : Nat) : Int))]) (S' := [.ref 102]) dm_X12_amended_296 rfl rfl rfl rfl ?_
                  refine me1 (pc' := 299) (L' := [(0, .ref 102), (1, ii (hd : Int)), (2, ii (hd2 : Int)), (3, ii (hd3 : Int)), (4, ii place), (5, ii (vm w : Int)), (6, zz (nmF v w u (k + 1))), (7, zz (sgF v w u (k + 1))), (8, zz (btF v w u k)), (9, ii ((k : Nat) : Int)), (10, ii ((p1 : Nat) : Int))]) (S' := [ii ((p1 : Nat) : Int), .ref 102]) dm_X12_amended_297 rfl rfl rfl rfl ?_
                  refine me0 (pc' := 300) (S' := [ii 0, ii ((p1 : Nat) : Int), .ref 102]) dm_X12_amended_299 rfl rfl rfl rfl ?_
                  refine x_cp (pc' := 303) (v := .long (vn (gvF w u k) 0)) (rest := []) dm_X12_amended_300 rfl (q_inv (As := [ii ((p1 : Nat) : Int), ii 0]) (S := []) hm rfl rfl rfl) rfl rfl rfl (r_number_ (k := 0) hm (by omega) hBs1 hg (by omega) (by omega)) ?_
                  refine me0 (pc' := 304) (S' := [.long (Int64.ofInt 1), .long (vn (gvF w u k) 0)]) dm_X12_amended_303 rfl rfl rfl rfl ?_
                  refine y_lgt (x := vn (gvF w u k) 0) (y := Int64.ofInt 1) (t := 312) (pc1 := 305) (pc' := 308) dm_X12_amended_304 rfl dm_X12_amended_305 rfl rfl (fun hb17 => ?_) (fun hb17 => ?_)
                  · rw [h1] at hb17
                    refine me0 (pc' := 313) (S' := [ii 0]) dm_X12_amended_312 rfl rfl rfl rfl ?_
                    refine pg_st (S' := [zz (btF v w u (k + 1))]) (congrArg (fun z => z :: []) (zz_f (fl_f (Or.inr (decide_eq_false (by omega)))))) ?_
                    refine me1 (pc' := 315) (L' := [(8, zz (btF v w u (k + 1))), (0, .ref 102), (1, ii (hd : Int)), (2, ii (hd2 : Int)), (3, ii (hd3 : Int)), (4, ii place), (5, ii (vm w : Int)), (6, zz (nmF v w u (k + 1))), (7, zz (sgF v w u (k + 1))), (9, ii ((k : Nat) : Int)), (10, ii ((p1 : Nat) : Int))]) (S' := []) dm_X12_amended_313 rfl rfl rfl rfl ?_
                    refine y_iinc (pc' := 318) (L' := [(9, ii (((k : Nat) : Int) + 1)), (8, zz (btF v w u (k + 1))), (0, .ref 102), (1, ii (hd : Int)), (2, ii (hd2 : Int)), (3, ii (hd3 : Int)), (4, ii place), (5, ii (vm w : Int)), (6, zz (nmF v w u (k + 1))), (7, zz (sgF v w u (k + 1))), (10, ii ((p1 : Nat) : Int))]) dm_X12_amended_315 (y_incp (a := ((k : Nat) : Int)) (c := 1) rfl rfl (by decide)) rfl ?_
                    refine me2 (pc' := 209) (S' := []) dm_X12_amended_318 rfl rfl rfl ?_
                    exact pg_sub (L := [(0, .ref 102), (1, ii (hd : Int)), (2, ii (hd2 : Int)), (3, ii (hd3 : Int)), (4, ii place), (5, ii (vm w : Int)), (6, zz (nmF v w u (k + 1))), (7, zz (sgF v w u (k + 1))), (8, zz (btF v w u (k + 1))), (9, ii (((k + 1) : Nat) : Int))]) rfl rfl rfl (ih209 (vm w - (k + 1)) (by omega) (k + 1) s1 rfl (by omega) hv1)
                  · rw [h1] at hb17
                    refine me0 (pc' := 309) (S' := [ii 1]) dm_X12_amended_308 rfl rfl rfl rfl ?_
                    refine me2 (pc' := 313) (S' := [ii 1]) dm_X12_amended_309 rfl rfl rfl ?_
                    refine pg_st (S' := [zz (btF v w u (k + 1))]) (congrArg (fun z => z :: []) (zz_t (fl_t hb14 (decide_eq_true (by omega))))) ?_
                    refine me1 (pc' := 315) (L' := [(8, zz (btF v w u (k + 1))), (0, .ref 102), (1, ii (hd : Int)), (2, ii (hd2 : Int)), (3, ii (hd3 : Int)), (4, ii place), (5, ii (vm w : Int)), (6, zz (nmF v w u (k + 1))), (7, zz (sgF v w u (k + 1))), (9, ii ((k : Nat) : Int)), (10, ii ((p1 : Nat) : Int))]) (S' := []) dm_X12_amended_313 rfl rfl rfl rfl ?_
                    refine y_iinc (pc' := 318) (L' := [(9, ii (((k : Nat) : Int) + 1)), (8, zz (btF v w u (k + 1))), (0, .ref 102), (1, ii (hd : Int)), (2, ii (hd2 : Int)), (3, ii (hd3 : Int)), (4, ii place), (5, ii (vm w : Int)), (6, zz (nmF v w u (k + 1))), (7, zz (sgF v w u (k + 1))), (10, ii ((p1 : Nat) : Int))]) dm_X12_amended_315 (y_incp (a := ((k : Nat) : Int)) (c := 1) rfl rfl (by decide)) rfl ?_
                    refine me2 (pc' := 209) (S' := []) dm_X12_amended_318 rfl rfl rfl ?_
                    exact pg_sub (L := [(0, .ref 102), (1, ii (hd : Int)), (2, ii (hd2 : Int)), (3, ii (hd3 : Int)), (4, ii place), (5, ii (vm w : Int)), (6, zz (nmF v w u (k + 1))), (7, zz (sgF v w u (k + 1))), (8, zz (btF v w u (k + 1))), (9, ii (((k + 1) : Nat) : Int))]) rfl rfl rfl (ih209 (vm w - (k + 1)) (by omega) (k + 1) s1 rfl (by omega) hv1)
          have jn248 : pgE xt (d - 1) 12 11 false (Option.some Jvm.ClassFile.FieldType.int) (mj_dec prog_14_method_101_code) 248 [(0, .ref 102), (1, ii (hd : Int)), (2, ii (hd2 : Int)), (3, ii (hd3 : Int)), (4, ii place), (5, ii (vm w : Int)), (6, zz (nmF v w u (k + 1))), (7, zz (sgF v w u k)), (8, zz (btF v w u k)), (9, ii ((k : Nat) : Int)), (10, ii ((p1 : Nat) : Int))] [] (rI pre post s1.1 s1.2.1 s1.2.2.1 s1.2.2.2) (fun r h' => ∃ x, r = some x ∧ rres pre post s (e + 2) (d_amend v w u) place (vm v + vq v) (vm v + 1) x h') := by
            refine me1 (pc' := 250) (L' := [(0, .ref 102), (1, ii (hd : Int)), (2, ii (hd2 : Int)), (3, ii (hd3 : Int)), (4, ii place), (5, ii (vm w : Int)), (6, zz (nmF v w u (k + 1))), (7, zz (sgF v w u k)), (8, zz (btF v w u k)), (9, ii ((k : Nat) : Int)), (10, ii ((p1 : Nat) : Int))]) (S' := [zz (sgF v w u k)]) dm_X12_amended_248 rfl rfl rfl rfl ?_
            refine y_zeq (c := sgF v w u k) (t := 267) (pc' := 253) dm_X12_amended_250 rfl rfl (fun hb18 => ?_) (fun hb18 => ?_)
            · refine me0 (pc' := 268) (S' := [ii 0]) dm_X12_amended_267 rfl rfl rfl rfl ?_
              refine pg_st (S' := [zz (sgF v w u (k + 1))]) (congrArg (fun z => z :: []) (zz_f (fl_f (Or.inl hb18)))) ?_
              refine me1 (pc' := 270) (L' := [(7, zz (sgF v w u (k + 1))), (0, .ref 102), (1, ii (hd : Int)), (2, ii (hd2 : Int)), (3, ii (hd3 : Int)), (4, ii place), (5, ii (vm w : Int)), (6, zz (nmF v w u (k + 1))), (8, zz (btF v w u k)), (9, ii ((k : Nat) : Int)), (10, ii ((p1 : Nat) : Int))]) (S' := []) dm_X12_amended_268 rfl rfl rfl rfl ?_
              exact pg_sub (L := [(0, .ref 102), (1, ii (hd : Int)), (2, ii (hd2 : Int)), (3, ii (hd3 : Int)), (4, ii place), (5, ii (vm w : Int)), (6, zz (nmF v w u (k + 1))), (7, zz (sgF v w u (k + 1))), (8, zz (btF v w u k)), (9, ii ((k : Nat) : Int)), (10, ii ((p1 : Nat) : Int))]) rfl rfl rfl jn270
            · refine me1 (pc' := 254) (L' := [(0, .ref 102), (1, ii (hd : Int)), (2, ii (hd2 : Int)), (3, ii (hd3 : Int)), (4, ii place), (5, ii (vm w : Int)), (6, zz (nmF v w u (k + 1))), (7, zz (sgF v w u k)), (8, zz (btF v w u k)), (9, ii ((k : Nat) : Int)), (10, ii ((p1 : Nat) : Int))]) (S' := [.ref 102]) dm_X12_amended_253 rfl rfl rfl rfl ?_
              refine me1 (pc' := 256) (L' := [(0, .ref 102), (1, ii (hd : Int)), (2, ii (hd2 : Int)), (3, ii (hd3 : Int)), (4, ii place), (5, ii (vm w : Int)), (6, zz (nmF v w u (k + 1))), (7, zz (sgF v w u k)), (8, zz (btF v w u k)), (9, ii ((k : Nat) : Int)), (10, ii ((p1 : Nat) : Int))]) (S' := [ii ((p1 : Nat) : Int), .ref 102]) dm_X12_amended_254 rfl rfl rfl rfl ?_
              refine x_cp (pc' := 259) (v := ii (vk (gvF w u k) : Int)) (rest := []) dm_X12_amended_256 rfl (q_inv (As := [ii ((p1 : Nat) : Int)]) (S := []) hm rfl rfl rfl) rfl rfl rfl (r_kindOf_ hm (by omega) hBs1 hg) ?_
              refine me0 (pc' := 260) (S' := [ii 1, ii (vk (gvF w u k) : Int)]) dm_X12_amended_259 rfl rfl rfl rfl ?_
              refine y_2ne (a := (vk (gvF w u k) : Int)) (b := 1) (t := 267) (pc' := 263) dm_X12_amended_260 rfl rfl (by omega) (fun hb19 => ?_) (fun hb19 => ?_)
              · refine me0 (pc' := 268) (S' := [ii 0]) dm_X12_amended_267 rfl rfl rfl rfl ?_
                refine pg_st (S' := [zz (sgF v w u (k + 1))]) (congrArg (fun z => z :: []) (zz_f (fl_f (Or.inr (decide_eq_false (by omega)))))) ?_
                refine me1 (pc' := 270) (L' := [(7, zz (sgF v w u (k + 1))), (0, .ref 102), (1, ii (hd : Int)), (2, ii (hd2 : Int)), (3, ii (hd3 : Int)), (4, ii place), (5, ii (vm w : Int)), (6, zz (nmF v w u (k + 1))), (8, zz (btF v w u k)), (9, ii ((k : Nat) : Int)), (10, ii ((p1 : Nat) : Int))]) (S' := []) dm_X12_amended_268 rfl rfl rfl rfl ?_
                exact pg_sub (L := [(0, .ref 102), (1, ii (hd : Int)), (2, ii (hd2 : Int)), (3, ii (hd3 : Int)), (4, ii place), (5, ii (vm w : Int)), (6, zz (nmF v w u (k + 1))), (7, zz (sgF v w u (k + 1))), (8, zz (btF v w u k)), (9, ii ((k : Nat) : Int)), (10, ii ((p1 : Nat) : Int))]) rfl rfl rfl jn270
              · refine me0 (pc' := 264) (S' := [ii 1]) dm_X12_amended_263 rfl rfl rfl rfl ?_
                refine me2 (pc' := 268) (S' := [ii 1]) dm_X12_amended_264 rfl rfl rfl ?_
                refine pg_st (S' := [zz (sgF v w u (k + 1))]) (congrArg (fun z => z :: []) (zz_t (fl_t hb18 (decide_eq_true (by omega))))) ?_
                refine me1 (pc' := 270) (L' := [(7, zz (sgF v w u (k + 1))), (0, .ref 102), (1, ii (hd : Int)), (2, ii (hd2 : Int)), (3, ii (hd3 : Int)), (4, ii place), (5, ii (vm w : Int)), (6, zz (nmF v w u (k + 1))), (8, zz (btF v w u k)), (9, ii ((k : Nat) : Int)), (10, ii ((p1 : Nat) : Int))]) (S' := []) dm_X12_amended_268 rfl rfl rfl rfl ?_
                exact pg_sub (L := [(0, .ref 102), (1, ii (hd : Int)), (2, ii (hd2 : Int)), (3, ii (hd3 : Int)), (4, ii place), (5, ii (vm w : Int)), (6, zz (nmF v w u (k + 1))), (7, zz (sgF v w u (k + 1))), (8, zz (btF v w u k)), (9, ii ((k : Nat) : Int)), (10, ii ((p1 : Nat) : Int))]) rfl rfl rfl jn270
          refine me1 (pc' := 229) (L' := [(10, ii ((p1 : Nat) : Int)), (0, .ref 102), (1, ii (hd : Int)), (2, ii (hd2 : Int)), (3, ii (hd3 : Int)), (4, ii place), (5, ii (vm w : Int)), (6, zz (nmF v w u k)), (7, zz (sgF v w u k)), (8, zz (btF v w u k)), (9, ii ((k : Nat) : Int))]) (S' := [zz (nmF v w u k)]) dm_X12_amended_227 rfl rfl rfl rfl ?_
          refine y_zeq (c := nmF v w u k) (t := 245) (pc' := 232) dm_X12_amended_229 rfl rfl (fun hb20 => ?_) (fun hb20 => ?_)
          · refine me0 (pc' := 246) (S' := [ii 0]) dm_X12_amended_245 rfl rfl rfl rfl ?_
            refine pg_st (S' := [zz (nmF v w u (k + 1))]) (congrArg (fun z => z :: []) (zz_f (fl_f (Or.inl hb20)))) ?_
            refine me1 (pc' := 248) (L' := [(6, zz (nmF v w u (k + 1))), (10, ii ((p1 : Nat) : Int)), (0, .ref 102), (1, ii (hd : Int)), (2, ii (hd2 : Int)), (3, ii (hd3 : Int)), (4, ii place), (5, ii (vm w : Int)), (7, zz (sgF v w u k)), (8, zz (btF v w u k)), (9, ii ((k : Nat) : Int))]) (S' := []) dm_X12_amended_246 rfl rfl rfl rfl ?_
            exact pg_sub (L := [(0, .ref 102), (1, ii (hd : Int)), (2, ii (hd2 : Int)), (3, ii (hd3 : Int)), (4, ii place), (5, ii (vm w : Int)), (6, zz (nmF v w u (k + 1))), (7, zz (sgF v w u k)), (8, zz (btF v w u k)), (9, ii ((k : Nat) : Int)), (10, ii ((p1 : Nat) : Int))]) rfl rfl rfl jn248
          · refine me1 (pc' := 233) (L' := [(10, ii ((p1 : Nat) : Int)), (0, .ref 102), (1, ii (hd : Int)), (2, ii (hd2 : Int)), (3, ii (hd3 : Int)), (4, ii place), (5, ii (vm w : Int)), (6, zz (nmF v w u k)), (7, zz (sgF v w u k)), (8, zz (btF v w u k)), (9, ii ((k : Nat) : Int))]) (S' := [.ref 102]) dm_X12_amended_232 rfl rfl rfl rfl ?_
            refine me1 (pc' := 235) (L' := [(10, ii ((p1 : Nat) : Int)), (0, .ref 102), (1, ii (hd : Int)), (2, ii (hd2 : Int)), (3, ii (hd3 : Int)), (4, ii place), (5, ii (vm w : Int)), (6, zz (nmF v w u k)), (7, zz (sgF v w u k)), (8, zz (btF v w u k)), (9, ii ((k : Nat) : Int))]) (S' := [ii ((p1 : Nat) : Int), .ref 102]) dm_X12_amended_233 rfl rfl rfl rfl ?_
            refine x_cp (pc' := 238) (v := ii (vk (gvF w u k) : Int)) (rest := []) dm_X12_amended_235 rfl (q_inv (As := [ii ((p1 : Nat) : Int)]) (S := []) hm rfl rfl rfl) rfl rfl rfl (r_kindOf_ hm (by omega) hBs1 hg) ?_
            refine y_1ne (a := (vk (gvF w u k) : Int)) (t := 245) (pc' := 241) dm_X12_amended_238 rfl rfl (by omega) (fun hb21 => ?_) (fun hb21 => ?_)
            · refine me0 (pc' := 246) (S' := [ii 0]) dm_X12_amended_245 rfl rfl rfl rfl ?_
              refine pg_st (S' := [zz (nmF v w u (k + 1))]) (congrArg (fun z => z :: []) (zz_f (fl_f (Or.inr (decide_eq_false (by omega)))))) ?_
              refine me1 (pc' := 248) (L' := [(6, zz (nmF v w u (k + 1))), (10, ii ((p1 : Nat) : Int)), (0, .ref 102), (1, ii (hd : Int)), (2, ii (hd2 : Int)), (3, ii (hd3 : Int)), (4, ii place), (5, ii (vm w : Int)), (7, zz (sgF v w u k)), (8, zz (btF v w u k)), (9, ii ((k : Nat) : Int))]) (S' := []) dm_X12_amended_246 rfl rfl rfl rfl ?_
              exact pg_sub (L := [(0, .ref 102), (1, ii (hd : Int)), (2, ii (hd2 : Int)), (3, ii (hd3 : Int)), (4, ii place), (5, ii (vm w : Int)), (6, zz (nmF v w u (k + 1))), (7, zz (sgF v w u k)), (8, zz (btF v w u k)), (9, ii ((k : Nat) : Int)), (10, ii ((p1 : Nat) : Int))]) rfl rfl rfl jn248
            · refine me0 (pc' := 242) (S' := [ii 1]) dm_X12_amended_241 rfl rfl rfl rfl ?_
              refine me2 (pc' := 246) (S' := [ii 1]) dm_X12_amended_242 rfl rfl rfl ?_
              refine pg_st (S' := [zz (nmF v w u (k + 1))]) (congrArg (fun z => z :: []) (zz_t (fl_t hb20 (decide_eq_true (by omega))))) ?_
              refine me1 (pc' := 248) (L' := [(6, zz (nmF v w u (k + 1))), (10, ii ((p1 : Nat) : Int)), (0, .ref 102), (1, ii (hd : Int)), (2, ii (hd2 : Int)), (3, ii (hd3 : Int)), (4, ii place), (5, ii (vm w : Int)), (7, zz (sgF v w u k)), (8, zz (btF v w u k)), (9, ii ((k : Nat) : Int))]) (S' := []) dm_X12_amended_246 rfl rfl rfl rfl ?_
              exact pg_sub (L := [(0, .ref 102), (1, ii (hd : Int)), (2, ii (hd2 : Int)), (3, ii (hd3 : Int)), (4, ii place), (5, ii (vm w : Int)), (6, zz (nmF v w u (k + 1))), (7, zz (sgF v w u k)), (8, zz (btF v w u k)), (9, ii ((k : Nat) : Int)), (10, ii ((p1 : Nat) : Int))]) rfl rfl rfl jn248
    exact pg_sub (L := [(0, .ref 102), (1, ii (hd : Int)), (2, ii (hd2 : Int)), (3, ii (hd3 : Int)), (4, ii place), (5, ii (vm w : Int)), (6, zz (nmF v w u 0)), (7, zz (sgF v w u 0)), (8, zz (btF v w u 0)), (9, ii ((0 : Nat) : Int))]) rfl rfl rfl (lp209 _ 0 s rfl (Nat.zero_le _) (vw3_rf s))
  have cut190 : (2 ≤ vk v) → (vk w ≤ 5) → (vk w ≠ 1) → (vk w ≠ 3) → ((vk w ≤ 1 ∨ vk u ≤ 1) ∨ vm w = vm u) → (allP v w = true) → (vk v ≠ 6) → pgE xt (d - 1) 12 11 false (Option.some Jvm.ClassFile.FieldType.int) (mj_dec prog_14_method_101_code) 190 [(0, .ref 102), (1, ii (hd : Int)), (2, ii (hd2 : Int)), (3, ii (hd3 : Int)), (4, ii place), (5, ii (vm w : Int)), (6, zz (decide (vk v = 2 ∨ vk v = 4 ∨ vk v = 5))), (7, zz (decide (vk v = 3)))] [] (rI pre post s.1 s.2.1 s.2.2.1 s.2.2.2) (fun r h' => ∃ x, r = some x ∧ rres pre post s (e + 2) (d_amend v w u) place (vm v + vq v) (vm v + 1) x h') := by
    intro h2v hw5 hw1 hw3 hwu hal h6v
    refine me1 (pc' := 191) (L' := [(0, .ref 102), (1, ii (hd : Int)), (2, ii (hd2 : Int)), (3, ii (hd3 : Int)), (4, ii place), (5, ii (vm w : Int)), (6, zz (decide (vk v = 2 ∨ vk v = 4 ∨ vk v = 5))), (7, zz (decide (vk v = 3)))]) (S' := [.ref 102]) dm_X12_amended_190 rfl rfl rfl rfl ?_
    refine me1 (pc' := 192) (L' := [(0, .ref 102), (1, ii (hd : Int)), (2, ii (hd2 : Int)), (3, ii (hd3 : Int)), (4, ii place), (5, ii (vm w : Int)), (6, zz (decide (vk v = 2 ∨ vk v = 4 ∨ vk v = 5))), (7, zz (decide (vk v = 3)))]) (S' := [ii (hd : Int), .ref 102]) dm_X12_amended_191 rfl rfl rfl rfl ?_
    refine x_cp (pc' := 195) (v := ii (vk v : Int)) (rest := []) dm_X12_amended_192 rfl (q_inv (As := [ii (hd : Int)]) (S := []) hm rfl rfl rfl) rfl rfl rfl (r_kindOf_ hm (by omega) hB0 hv) ?_
    refine me0 (pc' := 196) (S' := [ii 2, ii (vk v : Int)]) dm_X12_amended_195 rfl rfl rfl rfl ?_
    refine y_2ne (a := (vk v : Int)) (b := 2) (t := 203) (pc' := 199) dm_X12_amended_196 rfl rfl (by omega) (fun hb22 => ?_) (fun hb22 => ?_)
    · refine me0 (pc' := 204) (S' := [ii 0]) dm_X12_amended_203 rfl rfl rfl rfl ?_
      refine pg_st (S' := [zz (decide (vk v = 2))]) (congrArg (fun z => z :: []) (zf (by omega))) ?_
      refine me1 (pc' := 206) (L' := [(8, zz (decide (vk v = 2))), (0, .ref 102), (1, ii (hd : Int)), (2, ii (hd2 : Int)), (3, ii (hd3 : Int)), (4, ii place), (5, ii (vm w : Int)), (6, zz (decide (vk v = 2 ∨ vk v = 4 ∨ vk v = 5))), (7, zz (decide (vk v = 3)))]) (S' := []) dm_X12_amended_204 rfl rfl rfl rfl ?_
      exact pg_sub (L := [(0, .ref 102), (1, ii (hd : Int)), (2, ii (hd2 : Int)), (3, ii (hd3 : Int)), (4, ii place), (5, ii (vm w : Int)), (6, zz (decide (vk v = 2 ∨ vk v = 4 ∨ vk v = 5))), (7, zz (decide (vk v = 3))), (8, zz (decide (vk v = 2)))]) rfl rfl rfl (cut206 h2v hw5 hw1 hw3 hwu hal (by omega))
    · refine me0 (pc' := 200) (S' := [ii 1]) dm_X12_amended_199 rfl rfl rfl rfl ?_
      refine me2 (pc' := 204) (S' := [ii 1]) dm_X12_amended_200 rfl rfl rfl ?_
      refine pg_st (S' := [zz (decide (vk v = 2))]) (congrArg (fun z => z :: []) (zt (by omega))) ?_
      refine me1 (pc' := 206) (L' := [(8, zz (decide (vk v = 2))), (0, .ref 102), (1, ii (hd : Int)), (2, ii (hd2 : Int)), (3, ii (hd3 : Int)), (4, ii place), (5, ii (vm w : Int)), (6, zz (decide (vk v = 2 ∨ vk v = 4 ∨ vk v = 5))), (7, zz (decide (vk v = 3)))]) (S' := []) dm_X12_amended_204 rfl rfl rfl rfl ?_
      exact pg_sub (L := [(0, .ref 102), (1, ii (hd : Int)), (2, ii (hd2 : Int)), (3, ii (hd3 : Int)), (4, ii place), (5, ii (vm w : Int)), (6, zz (decide (vk v = 2 ∨ vk v = 4 ∨ vk v = 5))), (7, zz (decide (vk v = 3))), (8, zz (decide (vk v = 2)))]) rfl rfl rfl (cut206 h2v hw5 hw1 hw3 hwu hal (by omega))
  have cut93 : (2 ≤ vk v) → (vk w ≤ 5) → (vk w ≠ 1) → (vk w ≠ 3) → ((vk w ≤ 1 ∨ vk u ≤ 1) ∨ vm w = vm u) → pgE xt (d - 1) 12 11 false (Option.some Jvm.ClassFile.FieldType.int) (mj_dec prog_14_method_101_code) 93 [(0, .ref 102), (1, ii (hd : Int)), (2, ii (hd2 : Int)), (3, ii (hd3 : Int)), (4, ii place), (5, ii (vm w : Int))] [] (rI pre post s.1 s.2.1 s.2.2.1 s.2.2.2) (fun r h' => ∃ x, r = some x ∧ rres pre post s (e + 2) (d_amend v w u) place (vm v + vq v) (vm v + 1) x h') := by
    intro h2v hw5 hw1 hw3 hwu
    refine me0 (pc' := 94) (S' := [ii 0]) dm_X12_amended_93 rfl rfl rfl rfl ?_
    refine me1 (pc' := 96) (L' := [(6, ii 0), (0, .ref 102), (1, ii (hd : Int)), (2, ii (hd2 : Int)), (3, ii (hd3 : Int)), (4, ii place), (5, ii (vm w : Int))]) (S' := []) dm_X12_amended_94 rfl rfl rfl rfl ?_
    have lp96 : ∀ (n96 : Nat) (k : Nat), vm w - k = n96 → (k ≤ vm w) → (alP v w k) → pgE xt (d - 1) 12 11 false (Option.some Jvm.ClassFile.FieldType.int) (mj_dec prog_14_method_101_code) 96 [(0, .ref 102), (1, ii (hd : Int)), (2, ii (hd2 : Int)), (3, ii (hd3 : Int)), (4, ii place), (5, ii (vm w : Int)), (6, ii ((k : Nat) : Int))] [] (rI pre post s.1 s.2.1 s.2.2.1 s.2.2.2) (fun r h' => ∃ x, r = some x ∧ rres pre post s (e + 2) (d_amend v w u) place (vm v + vq v) (vm v + 1) x h') := by
      intro n96
      induction n96 using Nat.strongRecOn with
      | ind n96 ih96 =>
        intro k hm96 hk hpl
        refine me1 (pc' := 98) (L' := [(0, .ref 102), (1, ii (hd : Int)), (2, ii (hd2 : Int)), (3, ii (hd3 : Int)), (4, ii place), (5, ii (vm w : Int)), (6, ii ((k : Nat) : Int))]) (S' := [ii ((k : Nat) : Int)]) dm_X12_amended_96 rfl rfl rfl rfl ?_
        refine me1 (pc' := 100) (L' := [(0, .ref 102), (1, ii (hd : Int)), (2, ii (hd2 : Int)), (3, ii (hd3 : Int)), (4, ii place), (5, ii (vm w : Int)), (6, ii ((k : Nat) : Int))]) (S' := [ii (vm w : Int), ii ((k : Nat) : Int)]) dm_X12_amended_98 rfl rfl rfl rfl ?_
        refine y_2ge (a := ((k : Nat) : Int)) (b := (vm w : Int)) (t := 147) (pc' := 103) dm_X12_amended_100 rfl rfl (by omega) (fun hb23 => ?_) (fun hb23 => ?_)
        · have hkw : k = vm w := by omega
          rw [hkw] at hpl
          have hal := alP_t hpl
          refine me1 (pc' := 148) (L' := [(0, .ref 102), (1, ii (hd : Int)), (2, ii (hd2 : Int)), (3, ii (hd3 : Int)), (4, ii place), (5, ii (vm w : Int)), (6, ii ((k : Nat) : Int))]) (S' := [.ref 102]) dm_X12_amended_147 rfl rfl rfl rfl ?_
          refine me1 (pc' := 149) (L' := [(0, .ref 102), (1, ii (hd : Int)), (2, ii (hd2 : Int)), (3, ii (hd3 : Int)), (4, ii place), (5, ii (vm w : Int)), (6, ii ((k : Nat) : Int))]) (S' := [ii (hd : Int), .ref 102]) dm_X12_amended_148 rfl rfl rfl rfl ?_
          refine x_cp (pc' := 152) (v := ii (vk v : Int)) (rest := []) dm_X12_amended_149 rfl (q_inv (As := [ii (hd : Int)]) (S := []) hm rfl rfl rfl) rfl rfl rfl (r_kindOf_ hm (by omega) hB0 hv) ?_
          refine me0 (pc' := 154) (S' := [ii 6, ii (vk v : Int)]) dm_X12_amended_152 rfl rfl rfl rfl ?_
          refine y_2ne (a := (vk v : Int)) (b := 6) (t := 167) (pc' := 157) dm_X12_amended_154 rfl rfl (by omega) (fun hb24 => ?_) (fun hb24 => ?_)
          · refine me1 (pc' := 168) (L' := [(0, .ref 102), (1, ii (hd : Int)), (2, ii (hd2 : Int)), (3, ii (hd3 : Int)), (4, ii place), (5, ii (vm w : Int)), (6, ii ((k : Nat) : Int))]) (S' := [.ref 102]) dm_X12_amended_167 rfl rfl rfl rfl ?_
            refine me1 (pc' := 169) (L' := [(0, .ref 102), (1, ii (hd : Int)), (2, ii (hd2 : Int)), (3, ii (hd3 : Int)), (4, ii place), (5, ii (vm w : Int)), (6, ii ((k : Nat) : Int))]) (S' := [ii (hd : Int), .ref 102]) dm_X12_amended_168 rfl rfl rfl rfl ?_
            refine x_cp (pc' := 172) (v := zz (decide (vk v = 2 ∨ vk v = 4 ∨ vk v = 5))) (rest := []) dm_X12_amended_169 rfl (q_inv (As := [ii (hd : Int)]) (S := []) hm rfl rfl rfl) rfl rfl rfl (r_isNumbers_ hm (by omega) hB0 hv) ?_
            refine me1 (pc' := 174) (L' := [(6, zz (decide (vk v = 2 ∨ vk v = 4 ∨ vk v = 5))), (0, .ref 102), (1, ii (hd : Int)), (2, ii (hd2 : Int)), (3, ii (hd3 : Int)), (4, ii place), (5, ii (vm w : Int))]) (S' := []) dm_X12_amended_172 rfl rfl rfl rfl ?_
            refine me1 (pc' := 175) (L' := [(6, zz (decide (vk v = 2 ∨ vk v = 4 ∨ vk v = 5))), (0, .ref 102), (1, ii (hd : Int)), (2, ii (hd2 : Int)), (3, ii (hd3 : Int)), (4, ii place), (5, ii (vm w : Int))]) (S' := [.ref 102]) dm_X12_amended_174 rfl rfl rfl rfl ?_
            refine me1 (pc' := 176) (L' := [(6, zz (decide (vk v = 2 ∨ vk v = 4 ∨ vk v = 5))), (0, .ref 102), (1, ii (hd : Int)), (2, ii (hd2 : Int)), (3, ii (hd3 : Int)), (4, ii place), (5, ii (vm w : Int))]) (S' := [ii (hd : Int), .ref 102]) dm_X12_amended_175 rfl rfl rfl rfl ?_
            refine x_cp (pc' := 179) (v := ii (vk v : Int)) (rest := []) dm_X12_amended_176 rfl (q_inv (As := [ii (hd : Int)]) (S := []) hm rfl rfl rfl) rfl rfl rfl (r_kindOf_ hm (by omega) hB0 hv) ?_
            refine me0 (pc' := 180) (S' := [ii 3, ii (vk v : Int)]) dm_X12_amended_179 rfl rfl rfl rfl ?_
            refine y_2ne (a := (vk v : Int)) (b := 3) (t := 187) (pc' := 183) dm_X12_amended_180 rfl rfl (by omega) (fun hb25 => ?_) (fun hb25 => ?_)
            · refine me0 (pc' := 188) (S' := [ii 0]) dm_X12_amended_187 rfl rfl rfl rfl ?_
              refine pg_st (S' := [zz (decide (vk v = 3))]) (congrArg (fun z => z :: []) (zf (by omega))) ?_
              refine me1 (pc' := 190) (L' := [(7, zz (decide (vk v = 3))), (6, zz (decide (vk v = 2 ∨ vk v = 4 ∨ vk v = 5))), (0, .ref 102), (1, ii (hd : Int)), (2, ii (hd2 : Int)), (3, ii (hd3 : Int)), (4, ii place), (5, ii (vm w : Int))]) (S' := []) dm_X12_amended_188 rfl rfl rfl rfl ?_
              exact pg_sub (L := [(0, .ref 102), (1, ii (hd : Int)), (2, ii (hd2 : Int)), (3, ii (hd3 : Int)), (4, ii place), (5, ii (vm w : Int)), (6, zz (decide (vk v = 2 ∨ vk v = 4 ∨ vk v = 5))), (7, zz (decide (vk v = 3)))]) rfl rfl rfl (cut190 h2v hw5 hw1 hw3 hwu hal (by omega))
            · refine me0 (pc' := 184) (S' := [ii 1]) dm_X12_amended_183 rfl rfl rfl rfl ?_
              refine me2 (pc' := 188) (S' := [ii 1]) dm_X12_amended_184 rfl rfl rfl ?_
              refine pg_st (S' := [zz (decide (vk v = 3))]) (congrArg (fun z => z :: []) (zt (by omega))) ?_
              refine me1 (pc' := 190) (L' := [(7, zz (decide (vk v = 3))), (6, zz (decide (vk v = 2 ∨ vk v = 4 ∨ vk v = 5))), (0, .ref 102), (1, ii (hd : Int)), (2, ii (hd2 : Int)), (3, ii (hd3 : Int)), (4, ii place), (5, ii (vm w : Int))]) (S' := []) dm_X12_amended_188 rfl rfl rfl rfl ?_
              exact pg_sub (L := [(0, .ref 102), (1, ii (hd : Int)), (2, ii (hd2 : Int)), (3, ii (hd3 : Int)), (4, ii place), (5, ii (vm w : Int)), (6, zz (decide (vk v = 2 ∨ vk v = 4 ∨ vk v = 5))), (7, zz (decide (vk v = 3)))]) rfl rfl rfl (cut190 h2v hw5 hw1 hw3 hwu hal (by omega))
          · refine me1 (pc' := 158) (L' := [(0, .ref 102), (1, ii (hd : Int)), (2, ii (hd2 : Int)), (3, ii (hd3 : Int)), (4, ii place), (5, ii (vm w : Int)), (6, ii ((k : Nat) : Int))]) (S' := [.ref 102]) dm_X12_amended_157 rfl rfl rfl rfl ?_
            refine me1 (pc' := 159) (L' := [(0, .ref 102), (1, ii (hd : Int)), (2, ii (hd2 : Int)), (3, ii (hd3 : Int)), (4, ii place), (5, ii (vm w : Int)), (6, ii ((k : Nat) : Int))]) (S' := [ii (hd : Int), .ref 102]) dm_X12_amended_158 rfl rfl rfl rfl ?_
            refine me1 (pc' := 160) (L' := [(0, .ref 102), (1, ii (hd : Int)), (2, ii (hd2 : Int)), (3, ii (hd3 : Int)), (4, ii place), (5, ii (vm w : Int)), (6, ii ((k : Nat) : Int))]) (S' := [ii (hd2 : Int), ii (hd : Int), .ref 102]) dm_X12_amended_159 rfl rfl rfl rfl ?_
            refine me1 (pc' := 161) (L' := [(0, .ref 102), (1, ii (hd : Int)), (2, ii (hd2 : Int)), (3, ii (hd3 : Int)), (4, ii place), (5, ii (vm w : Int)), (6, ii ((k : Nat) : Int))]) (S' := [ii (hd3 : Int), ii (hd2 : Int), ii (hd : Int), .ref 102]) dm_X12_amended_160 rfl rfl rfl rfl ?_
            refine me1 (pc' := 163) (L' := [(0, .ref 102), (1, ii (hd : Int)), (2, ii (hd2 : Int)), (3, ii (hd3 : Int)), (4, ii place), (5, ii (vm w : Int)), (6, ii ((k : Nat) : Int))]) (S' := [ii place, ii (hd3 : Int), ii (hd2 : Int), ii (hd : Int), .ref 102]) dm_X12_amended_161 rfl rfl rfl rfl ?_
            refine x_cv (pc' := 166) (rest := []) dm_X12_amended_163 rfl (q_inv (As := [ii (hd : Int), ii (hd2 : Int), ii (hd3 : Int), ii place]) (S := []) hm rfl rfl rfl) rfl rfl rfl (r_amendedTable_ (place := place) hm (by omega) hB0 hv hh3 hw hh4 hq hb hq3 hV2 he0 hca hC hu hh5 (by omega) (by omega) hal hwu) ?_
            rintro x9 h9 hres
            obtain ⟨z9, rfl⟩ := rres_ii hres
            refine y_ret (r := some (ii z9)) dm_X12_amended_166 rfl rfl rfl ?_
            rw [amd_t (by unfold askP; rw [if_neg (by omega), if_neg (by omega)]) hwu hal (by omega)]
            exact ⟨_, rfl, rres_dup (rres_up hres (by omega) (by omega))⟩
        · refine me1 (pc' := 104) (L' := [(0, .ref 102), (1, ii (hd : Int)), (2, ii (hd2 : Int)), (3, ii (hd3 : Int)), (4, ii place), (5, ii (vm w : Int)), (6, ii ((k : Nat) : Int))]) (S' := [.ref 102]) dm_X12_amended_103 rfl rfl rfl rfl ?_
          refine me1 (pc' := 105) (L' := [(0, .ref 102), (1, ii (hd : Int)), (2, ii (hd2 : Int)), (3, ii (hd3 : Int)), (4, ii place), (5, ii (vm w : Int)), (6, ii ((k : Nat) : Int))]) (S' := [ii (hd2 : Int), .ref 102]) dm_X12_amended_104 rfl rfl rfl rfl ?_
          refine me1 (pc' := 107) (L' := [(0, .ref 102), (1, ii (hd : Int)), (2, ii (hd2 : Int)), (3, ii (hd3 : Int)), (4, ii place), (5, ii (vm w : Int)), (6, ii ((k : Nat) : Int))]) (S' := [ii ((k : Nat) : Int), ii (hd2 : Int), .ref 102]) dm_X12_amended_105 rfl rfl rfl rfl ?_
          refine x_cp (pc' := 110) (v := .long (vn w k)) (rest := []) dm_X12_amended_107 rfl (q_inv (As := [ii (hd2 : Int), ii ((k : Nat) : Int)]) (S := []) hm rfl rfl rfl) rfl rfl rfl (r_number_ (k := k) hm (by omega) hB0 hw (by omega) (by omega)) ?_
          refine me0 (pc' := 111) (S' := [.long (Int64.ofInt 0), .long (vn w k)]) dm_X12_amended_110 rfl rfl rfl rfl ?_
          refine y_llt (x := vn w k) (y := Int64.ofInt 0) (t := 132) (pc1 := 112) (pc' := 115) dm_X12_amended_111 rfl dm_X12_amended_112 rfl rfl (fun hb26 => ?_) (fun hb26 => ?_)
          · rw [h0] at hb26
            refine me1 (pc' := 133) (L' := [(0, .ref 102), (1, ii (hd : Int)), (2, ii (hd2 : Int)), (3, ii (hd3 : Int)), (4, ii place), (5, ii (vm w : Int)), (6, ii ((k : Nat) : Int))]) (S' := [.ref 102]) dm_X12_amended_132 rfl rfl rfl rfl ?_
            refine me0 (pc' := 135) (S' := [ii 7, .ref 102]) dm_X12_amended_133 rfl rfl rfl rfl ?_
            refine me1 (pc' := 137) (L' := [(0, .ref 102), (1, ii (hd : Int)), (2, ii (hd2 : Int)), (3, ii (hd3 : Int)), (4, ii place), (5, ii (vm w : Int)), (6, ii ((k : Nat) : Int))]) (S' := [ii place, ii 7, .ref 102]) dm_X12_amended_135 rfl rfl rfl rfl ?_
            refine x_cv (pc' := 140) (rest := []) dm_X12_amended_137 rfl (q_inv (As := [ii 7, ii place]) (S := []) hm rfl rfl rfl) rfl rfl rfl (r_fail_ (s := s) hm (by omega) he0 hca.1 hca.2) ?_
            rintro _ _ ⟨rfl, rfl⟩
            refine y_ret (r := some (ii (-1))) dm_X12_amended_140 rfl rfl rfl ?_
            rw [amd_7 (by unfold askP; rw [if_neg (by omega), if_neg (by omega)]) hwu (alP_f (k := k) (by omega) (by omega))]
            exact ⟨_, rfl, rres_fail (rpre_rf s) he0⟩
          · rw [h0] at hb26
            refine me1 (pc' := 116) (L' := [(0, .ref 102), (1, ii (hd : Int)), (2, ii (hd2 : Int)), (3, ii (hd3 : Int)), (4, ii place), (5, ii (vm w : Int)), (6, ii ((k : Nat) : Int))]) (S' := [.ref 102]) dm_X12_amended_115 rfl rfl rfl rfl ?_
            refine me1 (pc' := 117) (L' := [(0, .ref 102), (1, ii (hd : Int)), (2, ii (hd2 : Int)), (3, ii (hd3 : Int)), (4, ii place), (5, ii (vm w : Int)), (6, ii ((k : Nat) : Int))]) (S' := [ii (hd2 : Int), .ref 102]) dm_X12_amended_116 rfl rfl rfl rfl ?_
            refine me1 (pc' := 119) (L' := [(0, .ref 102), (1, ii (hd : Int)), (2, ii (hd2 : Int)), (3, ii (hd3 : Int)), (4, ii place), (5, ii (vm w : Int)), (6, ii ((k : Nat) : Int))]) (S' := [ii ((k : Nat) : Int), ii (hd2 : Int), .ref 102]) dm_X12_amended_117 rfl rfl rfl rfl ?_
            refine x_cp (pc' := 122) (v := .long (vn w k)) (rest := []) dm_X12_amended_119 rfl (q_inv (As := [ii (hd2 : Int), ii ((k : Nat) : Int)]) (S := []) hm rfl rfl rfl) rfl rfl rfl (r_number_ (k := k) hm (by omega) hB0 hw (by omega) (by omega)) ?_
            refine me1 (pc' := 123) (L' := [(0, .ref 102), (1, ii (hd : Int)), (2, ii (hd2 : Int)), (3, ii (hd3 : Int)), (4, ii place), (5, ii (vm w : Int)), (6, ii ((k : Nat) : Int))]) (S' := [.ref 102, .long (vn w k)]) dm_X12_amended_122 rfl rfl rfl rfl ?_
            refine me1 (pc' := 124) (L' := [(0, .ref 102), (1, ii (hd : Int)), (2, ii (hd2 : Int)), (3, ii (hd3 : Int)), (4, ii place), (5, ii (vm w : Int)), (6, ii ((k : Nat) : Int))]) (S' := [ii (hd : Int), .ref 102, .long (vn w k)]) dm_X12_amended_123 rfl rfl rfl rfl ?_
            refine x_cp (pc' := 127) (v := ii (vm v : Int)) (rest := [.long (vn w k)]) dm_X12_amended_124 rfl (q_inv (As := [ii (hd : Int)]) (S := [.long (vn w k)]) hm rfl rfl rfl) rfl rfl rfl (r_many_ hm (by omega) hB0 hv) ?_
            refine y_i2l (a := (vm v : Int)) dm_X12_amended_127 (pc' := 128) rfl (by omega) (by omega) ?_
            refine y_llt (x := vn w k) (y := Int64.ofInt (vm v : Int)) (t := 141) (pc1 := 129) (pc' := 132) dm_X12_amended_128 rfl dm_X12_amended_129 rfl rfl (fun hb27 => ?_) (fun hb27 => ?_)
            · rw [n_toL (by omega) (by omega)] at hb27
              refine y_iinc (pc' := 144) (L' := [(6, ii (((k : Nat) : Int) + 1)), (0, .ref 102), (1, ii (hd : Int)), (2, ii (hd2 : Int)), (3, ii (hd3 : Int)), (4, ii place), (5, ii (vm w : Int))]) dm_X12_amended_141 (y_incp (a := ((k : Nat) : Int)) (c := 1) rfl rfl (by decide)) rfl ?_
              refine me2 (pc' := 96) (S' := []) dm_X12_amended_144 rfl rfl rfl ?_
              exact pg_sub (L := [(0, .ref 102), (1, ii (hd : Int)), (2, ii (hd2 : Int)), (3, ii (hd3 : Int)), (4, ii place), (5, ii (vm w : Int)), (6, ii (((k + 1) : Nat) : Int))]) rfl rfl rfl (ih96 (vm w - (k + 1)) (by omega) (k + 1) rfl (by omega) (fun j hj => by by_cases z : j = k; (rw [z]; omega); exact hpl j (by omega)))
            · rw [n_toL (by omega) (by omega)] at hb27
              refine me1 (pc' := 133) (L' := [(0, .ref 102), (1, ii (hd : Int)), (2, ii (hd2 : Int)), (3, ii (hd3 : Int)), (4, ii place), (5, ii (vm w : Int)), (6, ii ((k : Nat) : Int))]) (S' := [.ref 102]) dm_X12_amended_132 rfl rfl rfl rfl ?_
              refine me0 (pc' := 135) (S' := [ii 7, .ref 102]) dm_X12_amended_133 rfl rfl rfl rfl ?_
              refine me1 (pc' := 137) (L' := [(0, .ref 102), (1, ii (hd : Int)), (2, ii (hd2 : Int)), (3, ii (hd3 : Int)), (4, ii place), (5, ii (vm w : Int)), (6, ii ((k : Nat) : Int))]) (S' := [ii place, ii 7, .ref 102]) dm_X12_amended_135 rfl rfl rfl rfl ?_
              refine x_cv (pc' := 140) (rest := []) dm_X12_amended_137 rfl (q_inv (As := [ii 7, ii place]) (S := []) hm rfl rfl rfl) rfl rfl rfl (r_fail_ (s := s) hm (by omega) he0 hca.1 hca.2) ?_
              rintro _ _ ⟨rfl, rfl⟩
              refine y_ret (r := some (ii (-1))) dm_X12_amended_140 rfl rfl rfl ?_
              rw [amd_7 (by unfold askP; rw [if_neg (by omega), if_neg (by omega)]) hwu (alP_f (k := k) (by omega) (by omega))]
              exact ⟨_, rfl, rres_fail (rpre_rf s) he0⟩
    exact pg_sub (L := [(0, .ref 102), (1, ii (hd : Int)), (2, ii (hd2 : Int)), (3, ii (hd3 : Int)), (4, ii place), (5, ii (vm w : Int)), (6, ii ((0 : Nat) : Int))]) rfl rfl rfl (lp96 _ 0 rfl (Nat.zero_le _) (fun j hj => absurd hj (Nat.not_lt_zero j)))
  refine me1 (pc' := 1) (L' := [(0, .ref 102), (1, ii (hd : Int)), (2, ii (hd2 : Int)), (3, ii (hd3 : Int)), (4, ii place)]) (S' := [.ref 102]) dm_X12_amended_0 rfl rfl rfl rfl ?_
  refine me1 (pc' := 2) (L' := [(0, .ref 102), (1, ii (hd : Int)), (2, ii (hd2 : Int)), (3, ii (hd3 : Int)), (4, ii place)]) (S' := [ii (hd : Int), .ref 102]) dm_X12_amended_1 rfl rfl rfl rfl ?_
  refine x_cp (pc' := 5) (v := zz (decide (vk v ≤ 1))) (rest := []) dm_X12_amended_2 rfl (q_inv (As := [ii (hd : Int)]) (S := []) hm rfl rfl rfl) rfl rfl rfl (r_isOne_ hm (by omega) hB0 hv) ?_
  refine y_zne (c := decide (vk v ≤ 1)) (t := 18) (pc' := 8) dm_X12_amended_5 rfl rfl (fun hb28 => ?_) (fun hb28 => ?_)
  · replace hb28 := dT hb28
    refine me1 (pc' := 19) (L' := [(0, .ref 102), (1, ii (hd : Int)), (2, ii (hd2 : Int)), (3, ii (hd3 : Int)), (4, ii place)]) (S' := [.ref 102]) dm_X12_amended_18 rfl rfl rfl rfl ?_
    refine me0 (pc' := 20) (S' := [ii 3, .ref 102]) dm_X12_amended_19 rfl rfl rfl rfl ?_
    refine me1 (pc' := 22) (L' := [(0, .ref 102), (1, ii (hd : Int)), (2, ii (hd2 : Int)), (3, ii (hd3 : Int)), (4, ii place)]) (S' := [ii place, ii 3, .ref 102]) dm_X12_amended_20 rfl rfl rfl rfl ?_
    refine x_cv (pc' := 25) (rest := []) dm_X12_amended_22 rfl (q_inv (As := [ii 3, ii place]) (S := []) hm rfl rfl rfl) rfl rfl rfl (r_fail_ (s := s) hm (by omega) he0 hca.1 hca.2) ?_
    rintro _ _ ⟨rfl, rfl⟩
    refine y_ret (r := some (ii (-1))) dm_X12_amended_25 rfl rfl rfl ?_
    rw [amd_a (n := 3) (by unfold askP; rw [if_pos (by omega)]) (by decide)]
    exact ⟨_, rfl, rres_fail (rpre_rf s) he0⟩
  · replace hb28 := dF hb28
    refine me1 (pc' := 9) (L' := [(0, .ref 102), (1, ii (hd : Int)), (2, ii (hd2 : Int)), (3, ii (hd3 : Int)), (4, ii place)]) (S' := [.ref 102]) dm_X12_amended_8 rfl rfl rfl rfl ?_
    refine me1 (pc' := 10) (L' := [(0, .ref 102), (1, ii (hd : Int)), (2, ii (hd2 : Int)), (3, ii (hd3 : Int)), (4, ii place)]) (S' := [ii (hd2 : Int), .ref 102]) dm_X12_amended_9 rfl rfl rfl rfl ?_
    refine x_cp (pc' := 13) (v := ii (vk w : Int)) (rest := []) dm_X12_amended_10 rfl (q_inv (As := [ii (hd2 : Int)]) (S := []) hm rfl rfl rfl) rfl rfl rfl (r_kindOf_ hm (by omega) hB0 hw) ?_
    refine me0 (pc' := 15) (S' := [ii 6, ii (vk w : Int)]) dm_X12_amended_13 rfl rfl rfl rfl ?_
    refine y_2lt (a := (vk w : Int)) (b := 6) (t := 26) (pc' := 18) dm_X12_amended_15 rfl rfl (by omega) (fun hb29 => ?_) (fun hb29 => ?_)
    · refine me1 (pc' := 27) (L' := [(0, .ref 102), (1, ii (hd : Int)), (2, ii (hd2 : Int)), (3, ii (hd3 : Int)), (4, ii place)]) (S' := [.ref 102]) dm_X12_amended_26 rfl rfl rfl rfl ?_
      refine me1 (pc' := 28) (L' := [(0, .ref 102), (1, ii (hd : Int)), (2, ii (hd2 : Int)), (3, ii (hd3 : Int)), (4, ii place)]) (S' := [ii (hd2 : Int), .ref 102]) dm_X12_amended_27 rfl rfl rfl rfl ?_
      refine x_cp (pc' := 31) (v := ii (vk w : Int)) (rest := []) dm_X12_amended_28 rfl (q_inv (As := [ii (hd2 : Int)]) (S := []) hm rfl rfl rfl) rfl rfl rfl (r_kindOf_ hm (by omega) hB0 hw) ?_
      refine me0 (pc' := 32) (S' := [ii 1, ii (vk w : Int)]) dm_X12_amended_31 rfl rfl rfl rfl ?_
      refine y_2eq (a := (vk w : Int)) (b := 1) (t := 44) (pc' := 35) dm_X12_amended_32 rfl rfl (by omega) (fun hb30 => ?_) (fun hb30 => ?_)
      · refine me1 (pc' := 45) (L' := [(0, .ref 102), (1, ii (hd : Int)), (2, ii (hd2 : Int)), (3, ii (hd3 : Int)), (4, ii place)]) (S' := [.ref 102]) dm_X12_amended_44 rfl rfl rfl rfl ?_
        refine me0 (pc' := 46) (S' := [ii 5, .ref 102]) dm_X12_amended_45 rfl rfl rfl rfl ?_
        refine me1 (pc' := 48) (L' := [(0, .ref 102), (1, ii (hd : Int)), (2, ii (hd2 : Int)), (3, ii (hd3 : Int)), (4, ii place)]) (S' := [ii place, ii 5, .ref 102]) dm_X12_amended_46 rfl rfl rfl rfl ?_
        refine x_cv (pc' := 51) (rest := []) dm_X12_amended_48 rfl (q_inv (As := [ii 5, ii place]) (S := []) hm rfl rfl rfl) rfl rfl rfl (r_fail_ (s := s) hm (by omega) he0 hca.1 hca.2) ?_
        rintro _ _ ⟨rfl, rfl⟩
        refine y_ret (r := some (ii (-1))) dm_X12_amended_51 rfl rfl rfl ?_
        rw [amd_a (n := 5) (by unfold askP; rw [if_neg (by omega), if_pos (by omega)]) (by decide)]
        exact ⟨_, rfl, rres_fail (rpre_rf s) he0⟩
      · refine me1 (pc' := 36) (L' := [(0, .ref 102), (1, ii (hd : Int)), (2, ii (hd2 : Int)), (3, ii (hd3 : Int)), (4, ii place)]) (S' := [.ref 102]) dm_X12_amended_35 rfl rfl rfl rfl ?_
        refine me1 (pc' := 37) (L' := [(0, .ref 102), (1, ii (hd : Int)), (2, ii (hd2 : Int)), (3, ii (hd3 : Int)), (4, ii place)]) (S' := [ii (hd2 : Int), .ref 102]) dm_X12_amended_36 rfl rfl rfl rfl ?_
        refine x_cp (pc' := 40) (v := ii (vk w : Int)) (rest := []) dm_X12_amended_37 rfl (q_inv (As := [ii (hd2 : Int)]) (S := []) hm rfl rfl rfl) rfl rfl rfl (r_kindOf_ hm (by omega) hB0 hw) ?_
        refine me0 (pc' := 41) (S' := [ii 3, ii (vk w : Int)]) dm_X12_amended_40 rfl rfl rfl rfl ?_
        refine y_2ne (a := (vk w : Int)) (b := 3) (t := 52) (pc' := 44) dm_X12_amended_41 rfl rfl (by omega) (fun hb31 => ?_) (fun hb31 => ?_)
        · refine me1 (pc' := 53) (L' := [(0, .ref 102), (1, ii (hd : Int)), (2, ii (hd2 : Int)), (3, ii (hd3 : Int)), (4, ii place)]) (S' := [.ref 102]) dm_X12_amended_52 rfl rfl rfl rfl ?_
          refine me1 (pc' := 54) (L' := [(0, .ref 102), (1, ii (hd : Int)), (2, ii (hd2 : Int)), (3, ii (hd3 : Int)), (4, ii place)]) (S' := [ii (hd2 : Int), .ref 102]) dm_X12_amended_53 rfl rfl rfl rfl ?_
          refine x_cp (pc' := 57) (v := ii (vm w : Int)) (rest := []) dm_X12_amended_54 rfl (q_inv (As := [ii (hd2 : Int)]) (S := []) hm rfl rfl rfl) rfl rfl rfl (r_many_ hm (by omega) hB0 hw) ?_
          refine me1 (pc' := 59) (L' := [(5, ii (vm w : Int)), (0, .ref 102), (1, ii (hd : Int)), (2, ii (hd2 : Int)), (3, ii (hd3 : Int)), (4, ii place)]) (S' := []) dm_X12_amended_57 rfl rfl rfl rfl ?_
          refine me1 (pc' := 60) (L' := [(5, ii (vm w : Int)), (0, .ref 102), (1, ii (hd : Int)), (2, ii (hd2 : Int)), (3, ii (hd3 : Int)), (4, ii place)]) (S' := [.ref 102]) dm_X12_amended_59 rfl rfl rfl rfl ?_
          refine me1 (pc' := 61) (L' := [(5, ii (vm w : Int)), (0, .ref 102), (1, ii (hd : Int)), (2, ii (hd2 : Int)), (3, ii (hd3 : Int)), (4, ii place)]) (S' := [ii (hd2 : Int), .ref 102]) dm_X12_amended_60 rfl rfl rfl rfl ?_
          refine x_cp (pc' := 64) (v := zz (decide (vk w ≤ 1))) (rest := []) dm_X12_amended_61 rfl (q_inv (As := [ii (hd2 : Int)]) (S := []) hm rfl rfl rfl) rfl rfl rfl (r_isOne_ hm (by omega) hB0 hw) ?_
          refine y_zne (c := decide (vk w ≤ 1)) (t := 93) (pc' := 67) dm_X12_amended_64 rfl rfl (fun hb32 => ?_) (fun hb32 => ?_)
          · replace hb32 := dT hb32
            exact pg_sub (L := [(0, .ref 102), (1, ii (hd : Int)), (2, ii (hd2 : Int)), (3, ii (hd3 : Int)), (4, ii place), (5, ii (vm w : Int))]) rfl rfl rfl (cut93 (by omega) (by omega) (by omega) (by omega) (by omega))
          · replace hb32 := dF hb32
            refine me1 (pc' := 68) (L' := [(5, ii (vm w : Int)), (0, .ref 102), (1, ii (hd : Int)), (2, ii (hd2 : Int)), (3, ii (hd3 : Int)), (4, ii place)]) (S' := [.ref 102]) dm_X12_amended_67 rfl rfl rfl rfl ?_
            refine me1 (pc' := 69) (L' := [(5, ii (vm w : Int)), (0, .ref 102), (1, ii (hd : Int)), (2, ii (hd2 : Int)), (3, ii (hd3 : Int)), (4, ii place)]) (S' := [ii (hd3 : Int), .ref 102]) dm_X12_amended_68 rfl rfl rfl rfl ?_
            refine x_cp (pc' := 72) (v := zz (decide (vk u ≤ 1))) (rest := []) dm_X12_amended_69 rfl (q_inv (As := [ii (hd3 : Int)]) (S := []) hm rfl rfl rfl) rfl rfl rfl (r_isOne_ hm (by omega) hB0 hu) ?_
            refine y_zne (c := decide (vk u ≤ 1)) (t := 93) (pc' := 75) dm_X12_amended_72 rfl rfl (fun hb33 => ?_) (fun hb33 => ?_)
            · replace hb33 := dT hb33
              exact pg_sub (L := [(0, .ref 102), (1, ii (hd : Int)), (2, ii (hd2 : Int)), (3, ii (hd3 : Int)), (4, ii place), (5, ii (vm w : Int))]) rfl rfl rfl (cut93 (by omega) (by omega) (by omega) (by omega) (by omega))
            · replace hb33 := dF hb33
              refine me1 (pc' := 76) (L' := [(5, ii (vm w : Int)), (0, .ref 102), (1, ii (hd : Int)), (2, ii (hd2 : Int)), (3, ii (hd3 : Int)), (4, ii place)]) (S' := [.ref 102]) dm_X12_amended_75 rfl rfl rfl rfl ?_
              refine me1 (pc' := 77) (L' := [(5, ii (vm w : Int)), (0, .ref 102), (1, ii (hd : Int)), (2, ii (hd2 : Int)), (3, ii (hd3 : Int)), (4, ii place)]) (S' := [ii (hd3 : Int), .ref 102]) dm_X12_amended_76 rfl rfl rfl rfl ?_
              refine x_cp (pc' := 80) (v := ii (vm u : Int)) (rest := []) dm_X12_amended_77 rfl (q_inv (As := [ii (hd3 : Int)]) (S := []) hm rfl rfl rfl) rfl rfl rfl (r_many_ hm (by omega) hB0 hu) ?_
              refine me1 (pc' := 82) (L' := [(5, ii (vm w : Int)), (0, .ref 102), (1, ii (hd : Int)), (2, ii (hd2 : Int)), (3, ii (hd3 : Int)), (4, ii place)]) (S' := [ii (vm w : Int), ii (vm u : Int)]) dm_X12_amended_80 rfl rfl rfl rfl ?_
              refine y_2eq (a := (vm u : Int)) (b := (vm w : Int)) (t := 93) (pc' := 85) dm_X12_amended_82 rfl rfl (by omega) (fun hb34 => ?_) (fun hb34 => ?_)
              · exact pg_sub (L := [(0, .ref 102), (1, ii (hd : Int)), (2, ii (hd2 : Int)), (3, ii (hd3 : Int)), (4, ii place), (5, ii (vm w : Int))]) rfl rfl rfl (cut93 (by omega) (by omega) (by omega) (by omega) (by omega))
              · refine me1 (pc' := 86) (L' := [(5, ii (vm w : Int)), (0, .ref 102), (1, ii (hd : Int)), (2, ii (hd2 : Int)), (3, ii (hd3 : Int)), (4, ii place)]) (S' := [.ref 102]) dm_X12_amended_85 rfl rfl rfl rfl ?_
                refine me0 (pc' := 87) (S' := [ii 4, .ref 102]) dm_X12_amended_86 rfl rfl rfl rfl ?_
                refine me1 (pc' := 89) (L' := [(5, ii (vm w : Int)), (0, .ref 102), (1, ii (hd : Int)), (2, ii (hd2 : Int)), (3, ii (hd3 : Int)), (4, ii place)]) (S' := [ii place, ii 4, .ref 102]) dm_X12_amended_87 rfl rfl rfl rfl ?_
                refine x_cv (pc' := 92) (rest := []) dm_X12_amended_89 rfl (q_inv (As := [ii 4, ii place]) (S := []) hm rfl rfl rfl) rfl rfl rfl (r_fail_ (s := s) hm (by omega) he0 hca.1 hca.2) ?_
                rintro _ _ ⟨rfl, rfl⟩
                refine y_ret (r := some (ii (-1))) dm_X12_amended_92 rfl rfl rfl ?_
                rw [amd_4 (by unfold askP; rw [if_neg (by omega), if_neg (by omega)]) (by omega)]
                exact ⟨_, rfl, rres_fail (rpre_rf s) he0⟩
        · refine me1 (pc' := 45) (L' := [(0, .ref 102), (1, ii (hd : Int)), (2, ii (hd2 : Int)), (3, ii (hd3 : Int)), (4, ii place)]) (S' := [.ref 102]) dm_X12_amended_44 rfl rfl rfl rfl ?_
          refine me0 (pc' := 46) (S' := [ii 5, .ref 102]) dm_X12_amended_45 rfl rfl rfl rfl ?_
          refine me1 (pc' := 48) (L' := [(0, .ref 102), (1, ii (hd : Int)), (2, ii (hd2 : Int)), (3, ii (hd3 : Int)), (4, ii place)]) (S' := [ii place, ii 5, .ref 102]) dm_X12_amended_46 rfl rfl rfl rfl ?_
          refine x_cv (pc' := 51) (rest := []) dm_X12_amended_48 rfl (q_inv (As := [ii 5, ii place]) (S := []) hm rfl rfl rfl) rfl rfl rfl (r_fail_ (s := s) hm (by omega) he0 hca.1 hca.2) ?_
          rintro _ _ ⟨rfl, rfl⟩
          refine y_ret (r := some (ii (-1))) dm_X12_amended_51 rfl rfl rfl ?_
          rw [amd_a (n := 5) (by unfold askP; rw [if_neg (by omega), if_pos (by omega)]) (by decide)]
          exact ⟨_, rfl, rres_fail (rpre_rf s) he0⟩
    · refine me1 (pc' := 19) (L' := [(0, .ref 102), (1, ii (hd : Int)), (2, ii (hd2 : Int)), (3, ii (hd3 : Int)), (4, ii place)]) (S' := [.ref 102]) dm_X12_amended_18 rfl rfl rfl rfl ?_
      refine me0 (pc' := 20) (S' := [ii 3, .ref 102]) dm_X12_amended_19 rfl rfl rfl rfl ?_
      refine me1 (pc' := 22) (L' := [(0, .ref 102), (1, ii (hd : Int)), (2, ii (hd2 : Int)), (3, ii (hd3 : Int)), (4, ii place)]) (S' := [ii place, ii 3, .ref 102]) dm_X12_amended_20 rfl rfl rfl rfl ?_
      refine x_cv (pc' := 25) (rest := []) dm_X12_amended_22 rfl (q_inv (As := [ii 3, ii place]) (S := []) hm rfl rfl rfl) rfl rfl rfl (r_fail_ (s := s) hm (by omega) he0 hca.1 hca.2) ?_
      rintro _ _ ⟨rfl, rfl⟩
      refine y_ret (r := some (ii (-1))) dm_X12_amended_25 rfl rfl rfl ?_
      rw [amd_a (n := 3) (by unfold askP; rw [if_pos (by omega)]) (by decide)]
      exact ⟨_, rfl, rres_fail (rpre_rf s) he0⟩
