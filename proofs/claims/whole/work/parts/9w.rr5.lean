/-! the reference: what a line is -/
theorem aoB_2 {T : Nat → Tok} (h : isMk T 2 40) : aoB T 200 2 0 = aoB T (202 - (2 + 1)) (2 + 1) 1 := by
  have := h.1
  exact aoB_s (i := 2) (o := 0) (o1 := 1) (by decide) (by omega) (by unfold opD; rw [if_pos (Or.inl h)]; rfl) (by decide)
theorem isAm_f {T : Nat → Tok} (h : ¬ (tqS (T 1) = 5 ∧ tqD (T 1) = 64 ∧ isMk T 2 40)) : isAm T = false := by unfold isAm; rw [decide_eq_false h]; rfl
theorem isAm_t {T : Nat → Tok} {b : Bool} (h : tqS (T 1) = 5 ∧ tqD (T 1) = 64 ∧ isMk T 2 40) (hb : aoB T 200 2 0 = b) : isAm T = b := by unfold isAm; rw [decide_eq_true h, hb]; cases b <;> rfl
set_option maxRecDepth 20000 in
theorem pm_X12_isNaming : mj_mmof pg_ms 215 = some ((⟨"ArrayCalculatorModel", "isNaming", "(I)Z"⟩, prog_14_method_91_code, 3, (Option.some Jvm.ClassFile.FieldType.boolean)), 12, false, mj_dec prog_14_method_91_code) := rfl
theorem dm_X12_isNaming_0 : mj_dec prog_14_method_91_code 0 = some (.aload_n 0, 1) := by decide +kernel
theorem dm_X12_isNaming_1 : mj_dec prog_14_method_91_code 1 = some (.getfield 380, 3) := by decide +kernel
theorem dm_X12_isNaming_4 : mj_dec prog_14_method_91_code 4 = some (.iconst 3, 1) := by decide +kernel
theorem dm_X12_isNaming_5 : mj_dec prog_14_method_91_code 5 = some (.if_icmp .eq 11, 3) := by decide +kernel
theorem dm_X12_isNaming_8 : mj_dec prog_14_method_91_code 8 = some (.aload_n 0, 1) := by decide +kernel
theorem dm_X12_isNaming_9 : mj_dec prog_14_method_91_code 9 = some (.getfield 380, 3) := by decide +kernel
theorem dm_X12_isNaming_12 : mj_dec prog_14_method_91_code 12 = some (.iconst 4, 1) := by decide +kernel
theorem dm_X12_isNaming_13 : mj_dec prog_14_method_91_code 13 = some (.if_icmp .ne 7, 3) := by decide +kernel
theorem dm_X12_isNaming_16 : mj_dec prog_14_method_91_code 16 = some (.iconst 1, 1) := by decide +kernel
theorem dm_X12_isNaming_17 : mj_dec prog_14_method_91_code 17 = some (.goto 4, 3) := by decide +kernel
theorem dm_X12_isNaming_20 : mj_dec prog_14_method_91_code 20 = some (.iconst 0, 1) := by decide +kernel
theorem dm_X12_isNaming_21 : mj_dec prog_14_method_91_code 21 = some (.istore_n 2, 1) := by decide +kernel
theorem dm_X12_isNaming_22 : mj_dec prog_14_method_91_code 22 = some (.aload_n 0, 1) := by decide +kernel
theorem dm_X12_isNaming_23 : mj_dec prog_14_method_91_code 23 = some (.invokevirtual 437, 3) := by decide +kernel
theorem dm_X12_isNaming_26 : mj_dec prog_14_method_91_code 26 = some (.iload_n 2, 1) := by decide +kernel
theorem dm_X12_isNaming_27 : mj_dec prog_14_method_91_code 27 = some (.ifCond .eq 16, 3) := by decide +kernel
theorem dm_X12_isNaming_30 : mj_dec prog_14_method_91_code 30 = some (.aload_n 0, 1) := by decide +kernel
theorem dm_X12_isNaming_31 : mj_dec prog_14_method_91_code 31 = some (.bipush 58, 2) := by decide +kernel
theorem dm_X12_isNaming_33 : mj_dec prog_14_method_91_code 33 = some (.invokevirtual 440, 3) := by decide +kernel
theorem dm_X12_isNaming_36 : mj_dec prog_14_method_91_code 36 = some (.ifCond .eq 7, 3) := by decide +kernel
theorem dm_X12_isNaming_39 : mj_dec prog_14_method_91_code 39 = some (.iconst 1, 1) := by decide +kernel
theorem dm_X12_isNaming_40 : mj_dec prog_14_method_91_code 40 = some (.goto 4, 3) := by decide +kernel
theorem dm_X12_isNaming_43 : mj_dec prog_14_method_91_code 43 = some (.iconst 0, 1) := by decide +kernel
theorem dm_X12_isNaming_44 : mj_dec prog_14_method_91_code 44 = some (.istore_n 2, 1) := by decide +kernel
theorem dm_X12_isNaming_45 : mj_dec prog_14_method_91_code 45 = some (.aload_n 0, 1) := by decide +kernel
theorem dm_X12_isNaming_46 : mj_dec prog_14_method_91_code 46 = some (.iload_n 1, 1) := by decide +kernel
theorem dm_X12_isNaming_47 : mj_dec prog_14_method_91_code 47 = some (.invokevirtual 475, 3) := by decide +kernel
theorem dm_X12_isNaming_50 : mj_dec prog_14_method_91_code 50 = some (.iload_n 2, 1) := by decide +kernel
theorem dm_X12_isNaming_51 : mj_dec prog_14_method_91_code 51 = some (.ireturn, 1) := by decide +kernel
theorem r_isNaming_ {xt : mj_X} {d : Nat} {pre post : mj_H} {s : RS} {bf : Nat → Int} {ln n m hi hi2 mk : Nat} {F : Nat → Int → Bool} {T : Nat → Tok} (hm : pre.length = 102) (hd : 6 ≤ d) (hT : T = tkI bf ln F) (hK : TOKS T mk ln) (hTN : TN bf ln n m s) (hR : RD bf ln F n m hi2 s 0) (hFN : ∀ j, j ≤ hi → FNp bf ln (F j) (beS s) m) (hh2 : 1 ≤ hi2) : pgV xt d 215 [.ref 102, ii (ln : Int)] (rS pre post s) (fun x h' => x = zz (decide ((tqS (T 0) = 3 ∨ tqS (T 0) = 4) ∧ isMk T 1 58)) ∧ ∃ t, h' = rS pre post t ∧ BG bf ln F n m hi s t) := by
  obtain ⟨h38, h8, h40⟩ := RD_s hT hK hR
  have h40r : ¬ (tqS (T 0) = 5 ∨ tqS (T 0) = 6 ∨ tqS (T 0) = 7) ∨ (s.1 40 = tqD (T 0) ∧ 1 ≤ tqD (T 0) ∧ tqD (T 0) ≤ 126) := by
    by_cases z : tqS (T 0) = 5 ∨ tqS (T 0) = 6 ∨ tqS (T 0) = 7
    · exact Or.inr (h40 z)
    · exact Or.inl z
  clear h40
  have hln := hK.2.1
  refine x_enter pm_X12_isNaming (L0 := [(0, .ref 102), (1, ii (ln : Int))]) rfl (Nat.le_of_ble_eq_true rfl) (by omega) ?_
  refine me1 (pc' := 1) (L' := [(0, .ref 102), (1, ii (ln : Int))]) (S' := [.ref 102]) dm_X12_isNaming_0 rfl rfl rfl rfl ?_
  refine me3 (pc' := 4) (S' := [ii (s.1 38)]) dm_X12_isNaming_1 (q_geti (v := s.1 38) hm rfl (fun m i l => rg_38 m i l) rfl) rfl rfl rfl ?_
  refine me0 (pc' := 5) (S' := [ii 3, ii (s.1 38)]) dm_X12_isNaming_4 rfl rfl rfl rfl ?_
  refine y_2eq (a := s.1 38) (b := 3) (t := 16) (pc' := 8) dm_X12_isNaming_5 rfl rfl (by omega) (fun hb1 => ?_) (fun hb1 => ?_)
  · refine me0 (pc' := 17) (S' := [ii 1]) dm_X12_isNaming_16 rfl rfl rfl rfl ?_
    refine me2 (pc' := 21) (S' := [ii 1]) dm_X12_isNaming_17 rfl rfl rfl ?_
    refine me1 (pc' := 22) (L' := [(2, ii 1), (0, .ref 102), (1, ii (ln : Int))]) (S' := []) dm_X12_isNaming_21 rfl rfl rfl rfl ?_
    refine me1 (pc' := 23) (L' := [(2, ii 1), (0, .ref 102), (1, ii (ln : Int))]) (S' := [.ref 102]) dm_X12_isNaming_22 rfl rfl rfl rfl ?_
    refine x_cn (pc' := 26) (rest := []) dm_X12_isNaming_23 rfl (q_inv (As := []) (S := []) hm rfl rfl rfl) rfl rfl rfl (r_nxt (s := s) (i := 0) hm (by omega) hR (by omega)) ?_
    rintro _ ⟨t1, rfl, hk1, t1D⟩
    replace hk1 := rbF_tk hk1
    refine me1 (pc' := 27) (L' := [(2, ii 1), (0, .ref 102), (1, ii (ln : Int))]) (S' := [ii 1]) dm_X12_isNaming_26 rfl rfl rfl rfl ?_
    refine me_1f (pc' := 30) dm_X12_isNaming_27 rfl (by decide) rfl ?_
    refine me1 (pc' := 31) (L' := [(2, ii 1), (0, .ref 102), (1, ii (ln : Int))]) (S' := [.ref 102]) dm_X12_isNaming_30 rfl rfl rfl rfl ?_
    refine me0 (pc' := 33) (S' := [ii 58, .ref 102]) dm_X12_isNaming_31 rfl rfl rfl rfl ?_
    refine x_cp (pc' := 36) (v := zz (decide (isMk T 1 58))) (rest := []) dm_X12_isNaming_33 rfl (q_inv (As := [ii 58]) (S := []) hm rfl rfl rfl) rfl rfl rfl (r_mkd_ (i := 1) hm (by omega) hT hK t1D (by omega)) ?_
    refine y_zeq (c := decide (isMk T 1 58)) (t := 43) (pc' := 39) dm_X12_isNaming_36 rfl rfl (fun hb2 => ?_) (fun hb2 => ?_)
    · replace hb2 := dF hb2
      refine me0 (pc' := 44) (S' := [ii 0]) dm_X12_isNaming_43 rfl rfl rfl rfl ?_
      refine me1 (pc' := 45) (L' := [(2, ii 0), (0, .ref 102), (1, ii (ln : Int))]) (S' := []) dm_X12_isNaming_44 rfl rfl rfl rfl ?_
      refine me1 (pc' := 46) (L' := [(2, ii 0), (0, .ref 102), (1, ii (ln : Int))]) (S' := [.ref 102]) dm_X12_isNaming_45 rfl rfl rfl rfl ?_
      refine me1 (pc' := 47) (L' := [(2, ii 0), (0, .ref 102), (1, ii (ln : Int))]) (S' := [ii (ln : Int), .ref 102]) dm_X12_isNaming_46 rfl rfl rfl rfl ?_
      refine x_cn (pc' := 50) (rest := []) dm_X12_isNaming_47 rfl (q_inv (As := [ii (ln : Int)]) (S := []) hm rfl rfl rfl) rfl rfl rfl (r_begin_ (s := t1) (hi := hi) hm (by omega) (TN_k hk1 hTN) (fun j hj => FNp_k (s := beS s) (by rw [show (beS t1).2.2.2 20 = t1.2.2.2 20 from rfl, hk1.1]; rfl) rfl (hFN j hj))) ?_
      rintro _ ⟨t2, rfl, hBG⟩
      refine me1 (pc' := 51) (L' := [(2, ii 0), (0, .ref 102), (1, ii (ln : Int))]) (S' := [ii 0]) dm_X12_isNaming_50 rfl rfl rfl rfl ?_
      refine y_ret (r := some (ii 0)) dm_X12_isNaming_51 rfl rfl rfl ?_
      exact ⟨_, rfl, zf (by omega), t2, rfl, hBG.1, hBG.2.1, hBG.2.2.1, hBG.2.2.2.1, rbF_tr hk1 hBG.2.2.2.2⟩
    · replace hb2 := dT hb2
      refine me0 (pc' := 40) (S' := [ii 1]) dm_X12_isNaming_39 rfl rfl rfl rfl ?_
      refine me2 (pc' := 44) (S' := [ii 1]) dm_X12_isNaming_40 rfl rfl rfl ?_
      refine me1 (pc' := 45) (L' := [(2, ii 1), (0, .ref 102), (1, ii (ln : Int))]) (S' := []) dm_X12_isNaming_44 rfl rfl rfl rfl ?_
      refine me1 (pc' := 46) (L' := [(2, ii 1), (0, .ref 102), (1, ii (ln : Int))]) (S' := [.ref 102]) dm_X12_isNaming_45 rfl rfl rfl rfl ?_
      refine me1 (pc' := 47) (L' := [(2, ii 1), (0, .ref 102), (1, ii (ln : Int))]) (S' := [ii (ln : Int), .ref 102]) dm_X12_isNaming_46 rfl rfl rfl rfl ?_
      refine x_cn (pc' := 50) (rest := []) dm_X12_isNaming_47 rfl (q_inv (As := [ii (ln : Int)]) (S := []) hm rfl rfl rfl) rfl rfl rfl (r_begin_ (s := t1) (hi := hi) hm (by omega) (TN_k hk1 hTN) (fun j hj => FNp_k (s := beS s) (by rw [show (beS t1).2.2.2 20 = t1.2.2.2 20 from rfl, hk1.1]; rfl) rfl (hFN j hj))) ?_
      rintro _ ⟨t2, rfl, hBG⟩
      refine me1 (pc' := 51) (L' := [(2, ii 1), (0, .ref 102), (1, ii (ln : Int))]) (S' := [ii 1]) dm_X12_isNaming_50 rfl rfl rfl rfl ?_
      refine y_ret (r := some (ii 1)) dm_X12_isNaming_51 rfl rfl rfl ?_
      exact ⟨_, rfl, zt (by omega), t2, rfl, hBG.1, hBG.2.1, hBG.2.2.1, hBG.2.2.2.1, rbF_tr hk1 hBG.2.2.2.2⟩
  · refine me1 (pc' := 9) (L' := [(0, .ref 102), (1, ii (ln : Int))]) (S' := [.ref 102]) dm_X12_isNaming_8 rfl rfl rfl rfl ?_
    refine me3 (pc' := 12) (S' := [ii (s.1 38)]) dm_X12_isNaming_9 (q_geti (v := s.1 38) hm rfl (fun m i l => rg_38 m i l) rfl) rfl rfl rfl ?_
    refine me0 (pc' := 13) (S' := [ii 4, ii (s.1 38)]) dm_X12_isNaming_12 rfl rfl rfl rfl ?_
    refine y_2ne (a := s.1 38) (b := 4) (t := 20) (pc' := 16) dm_X12_isNaming_13 rfl rfl (by omega) (fun hb3 => ?_) (fun hb3 => ?_)
    · refine me0 (pc' := 21) (S' := [ii 0]) dm_X12_isNaming_20 rfl rfl rfl rfl ?_
      refine me1 (pc' := 22) (L' := [(2, ii 0), (0, .ref 102), (1, ii (ln : Int))]) (S' := []) dm_X12_isNaming_21 rfl rfl rfl rfl ?_
      refine me1 (pc' := 23) (L' := [(2, ii 0), (0, .ref 102), (1, ii (ln : Int))]) (S' := [.ref 102]) dm_X12_isNaming_22 rfl rfl rfl rfl ?_
      refine x_cn (pc' := 26) (rest := []) dm_X12_isNaming_23 rfl (q_inv (As := []) (S := []) hm rfl rfl rfl) rfl rfl rfl (r_nxt (s := s) (i := 0) hm (by omega) hR (by omega)) ?_
      rintro _ ⟨t1, rfl, hk1, t1D⟩
      replace hk1 := rbF_tk hk1
      refine me1 (pc' := 27) (L' := [(2, ii 0), (0, .ref 102), (1, ii (ln : Int))]) (S' := [ii 0]) dm_X12_isNaming_26 rfl rfl rfl rfl ?_
      refine me_1t (pc' := 43) dm_X12_isNaming_27 rfl (by decide) ?_
      refine me0 (pc' := 44) (S' := [ii 0]) dm_X12_isNaming_43 rfl rfl rfl rfl ?_
      refine me1 (pc' := 45) (L' := [(2, ii 0), (0, .ref 102), (1, ii (ln : Int))]) (S' := []) dm_X12_isNaming_44 rfl rfl rfl rfl ?_
      refine me1 (pc' := 46) (L' := [(2, ii 0), (0, .ref 102), (1, ii (ln : Int))]) (S' := [.ref 102]) dm_X12_isNaming_45 rfl rfl rfl rfl ?_
      refine me1 (pc' := 47) (L' := [(2, ii 0), (0, .ref 102), (1, ii (ln : Int))]) (S' := [ii (ln : Int), .ref 102]) dm_X12_isNaming_46 rfl rfl rfl rfl ?_
      refine x_cn (pc' := 50) (rest := []) dm_X12_isNaming_47 rfl (q_inv (As := [ii (ln : Int)]) (S := []) hm rfl rfl rfl) rfl rfl rfl (r_begin_ (s := t1) (hi := hi) hm (by omega) (TN_k hk1 hTN) (fun j hj => FNp_k (s := beS s) (by rw [show (beS t1).2.2.2 20 = t1.2.2.2 20 from rfl, hk1.1]; rfl) rfl (hFN j hj))) ?_
      rintro _ ⟨t2, rfl, hBG⟩
      refine me1 (pc' := 51) (L' := [(2, ii 0), (0, .ref 102), (1, ii (ln : Int))]) (S' := [ii 0]) dm_X12_isNaming_50 rfl rfl rfl rfl ?_
      refine y_ret (r := some (ii 0)) dm_X12_isNaming_51 rfl rfl rfl ?_
      exact ⟨_, rfl, zf (by omega), t2, rfl, hBG.1, hBG.2.1, hBG.2.2.1, hBG.2.2.2.1, rbF_tr hk1 hBG.2.2.2.2⟩
    · refine me0 (pc' := 17) (S' := [ii 1]) dm_X12_isNaming_16 rfl rfl rfl rfl ?_
      refine me2 (pc' := 21) (S' := [ii 1]) dm_X12_isNaming_17 rfl rfl rfl ?_
      refine me1 (pc' := 22) (L' := [(2, ii 1), (0, .ref 102), (1, ii (ln : Int))]) (S' := []) dm_X12_isNaming_21 rfl rfl rfl rfl ?_
      refine me1 (pc' := 23) (L' := [(2, ii 1), (0, .ref 102), (1, ii (ln : Int))]) (S' := [.ref 102]) dm_X12_isNaming_22 rfl rfl rfl rfl ?_
      refine x_cn (pc' := 26) (rest := []) dm_X12_isNaming_23 rfl (q_inv (As := []) (S := []) hm rfl rfl rfl) rfl rfl rfl (r_nxt (s := s) (i := 0) hm (by omega) hR (by omega)) ?_
      rintro _ ⟨t1, rfl, hk1, t1D⟩
      replace hk1 := rbF_tk hk1
      refine me1 (pc' := 27) (L' := [(2, ii 1), (0, .ref 102), (1, ii (ln : Int))]) (S' := [ii 1]) dm_X12_isNaming_26 rfl rfl rfl rfl ?_
      refine me_1f (pc' := 30) dm_X12_isNaming_27 rfl (by decide) rfl ?_
      refine me1 (pc' := 31) (L' := [(2, ii 1), (0, .ref 102), (1, ii (ln : Int))]) (S' := [.ref 102]) dm_X12_isNaming_30 rfl rfl rfl rfl ?_
      refine me0 (pc' := 33) (S' := [ii 58, .ref 102]) dm_X12_isNaming_31 rfl rfl rfl rfl ?_
      refine x_cp (pc' := 36) (v := zz (decide (isMk T 1 58))) (rest := []) dm_X12_isNaming_33 rfl (q_inv (As := [ii 58]) (S := []) hm rfl rfl rfl) rfl rfl rfl (r_mkd_ (i := 1) hm (by omega) hT hK t1D (by omega)) ?_
      refine y_zeq (c := decide (isMk T 1 58)) (t := 43) (pc' := 39) dm_X12_isNaming_36 rfl rfl (fun hb4 => ?_) (fun hb4 => ?_)
      · replace hb4 := dF hb4
        refine me0 (pc' := 44) (S' := [ii 0]) dm_X12_isNaming_43 rfl rfl rfl rfl ?_
        refine me1 (pc' := 45) (L' := [(2, ii 0), (0, .ref 102), (1, ii (ln : Int))]) (S' := []) dm_X12_isNaming_44 rfl rfl rfl rfl ?_
        refine me1 (pc' := 46) (L' := [(2, ii 0), (0, .ref 102), (1, ii (ln : Int))]) (S' := [.ref 102]) dm_X12_isNaming_45 rfl rfl rfl rfl ?_
        refine me1 (pc' := 47) (L' := [(2, ii 0), (0, .ref 102), (1, ii (ln : Int))]) (S' := [ii (ln : Int), .ref 102]) dm_X12_isNaming_46 rfl rfl rfl rfl ?_
        refine x_cn (pc' := 50) (rest := []) dm_X12_isNaming_47 rfl (q_inv (As := [ii (ln : Int)]) (S := []) hm rfl rfl rfl) rfl rfl rfl (r_begin_ (s := t1) (hi := hi) hm (by omega) (TN_k hk1 hTN) (fun j hj => FNp_k (s := beS s) (by rw [show (beS t1).2.2.2 20 = t1.2.2.2 20 from rfl, hk1.1]; rfl) rfl (hFN j hj))) ?_
        rintro _ ⟨t2, rfl, hBG⟩
        refine me1 (pc' := 51) (L' := [(2, ii 0), (0, .ref 102), (1, ii (ln : Int))]) (S' := [ii 0]) dm_X12_isNaming_50 rfl rfl rfl rfl ?_
        refine y_ret (r := some (ii 0)) dm_X12_isNaming_51 rfl rfl rfl ?_
        exact ⟨_, rfl, zf (by omega), t2, rfl, hBG.1, hBG.2.1, hBG.2.2.1, hBG.2.2.2.1, rbF_tr hk1 hBG.2.2.2.2⟩
      · replace hb4 := dT hb4
        refine me0 (pc' := 40) (S' := [ii 1]) dm_X12_isNaming_39 rfl rfl rfl rfl ?_
        refine me2 (pc' := 44) (S' := [ii 1]) dm_X12_isNaming_40 rfl rfl rfl ?_
        refine me1 (pc' := 45) (L' := [(2, ii 1), (0, .ref 102), (1, ii (ln : Int))]) (S' := []) dm_X12_isNaming_44 rfl rfl rfl rfl ?_
        refine me1 (pc' := 46) (L' := [(2, ii 1), (0, .ref 102), (1, ii (ln : Int))]) (S' := [.ref 102]) dm_X12_isNaming_45 rfl rfl rfl rfl ?_
        refine me1 (pc' := 47) (L' := [(2, ii 1), (0, .ref 102), (1, ii (ln : Int))]) (S' := [ii (ln : Int), .ref 102]) dm_X12_isNaming_46 rfl rfl rfl rfl ?_
        refine x_cn (pc' := 50) (rest := []) dm_X12_isNaming_47 rfl (q_inv (As := [ii (ln : Int)]) (S := []) hm rfl rfl rfl) rfl rfl rfl (r_begin_ (s := t1) (hi := hi) hm (by omega) (TN_k hk1 hTN) (fun j hj => FNp_k (s := beS s) (by rw [show (beS t1).2.2.2 20 = t1.2.2.2 20 from rfl, hk1.1]; rfl) rfl (hFN j hj))) ?_
        rintro _ ⟨t2, rfl, hBG⟩
        refine me1 (pc' := 51) (L' := [(2, ii 1), (0, .ref 102), (1, ii (ln : Int))]) (S' := [ii 1]) dm_X12_isNaming_50 rfl rfl rfl rfl ?_
        refine y_ret (r := some (ii 1)) dm_X12_isNaming_51 rfl rfl rfl ?_
        exact ⟨_, rfl, zt (by omega), t2, rfl, hBG.1, hBG.2.1, hBG.2.2.1, hBG.2.2.2.1, rbF_tr hk1 hBG.2.2.2.2⟩
set_option maxRecDepth 20000 in
theorem pm_X12_isAmending : mj_mmof pg_ms 217 = some ((⟨"ArrayCalculatorModel", "isAmending", "(I)Z"⟩, prog_14_method_90_code, 4, (Option.some Jvm.ClassFile.FieldType.boolean)), 12, false, mj_dec prog_14_method_90_code) := rfl
theorem dm_X12_isAmending_0 : mj_dec prog_14_method_90_code 0 = some (.aload_n 0, 1) := by decide +kernel
theorem dm_X12_isAmending_1 : mj_dec prog_14_method_90_code 1 = some (.getfield 380, 3) := by decide +kernel
theorem dm_X12_isAmending_4 : mj_dec prog_14_method_90_code 4 = some (.iconst 3, 1) := by decide +kernel
theorem dm_X12_isAmending_5 : mj_dec prog_14_method_90_code 5 = some (.if_icmp .eq 11, 3) := by decide +kernel
theorem dm_X12_isAmending_8 : mj_dec prog_14_method_90_code 8 = some (.aload_n 0, 1) := by decide +kernel
theorem dm_X12_isAmending_9 : mj_dec prog_14_method_90_code 9 = some (.getfield 380, 3) := by decide +kernel
theorem dm_X12_isAmending_12 : mj_dec prog_14_method_90_code 12 = some (.iconst 4, 1) := by decide +kernel
theorem dm_X12_isAmending_13 : mj_dec prog_14_method_90_code 13 = some (.if_icmp .ne 7, 3) := by decide +kernel
theorem dm_X12_isAmending_16 : mj_dec prog_14_method_90_code 16 = some (.iconst 1, 1) := by decide +kernel
theorem dm_X12_isAmending_17 : mj_dec prog_14_method_90_code 17 = some (.goto 4, 3) := by decide +kernel
theorem dm_X12_isAmending_20 : mj_dec prog_14_method_90_code 20 = some (.iconst 0, 1) := by decide +kernel
theorem dm_X12_isAmending_21 : mj_dec prog_14_method_90_code 21 = some (.istore_n 2, 1) := by decide +kernel
theorem dm_X12_isAmending_22 : mj_dec prog_14_method_90_code 22 = some (.aload_n 0, 1) := by decide +kernel
theorem dm_X12_isAmending_23 : mj_dec prog_14_method_90_code 23 = some (.invokevirtual 437, 3) := by decide +kernel
theorem dm_X12_isAmending_26 : mj_dec prog_14_method_90_code 26 = some (.iload_n 2, 1) := by decide +kernel
theorem dm_X12_isAmending_27 : mj_dec prog_14_method_90_code 27 = some (.ifCond .eq 16, 3) := by decide +kernel
theorem dm_X12_isAmending_30 : mj_dec prog_14_method_90_code 30 = some (.aload_n 0, 1) := by decide +kernel
theorem dm_X12_isAmending_31 : mj_dec prog_14_method_90_code 31 = some (.bipush 64, 2) := by decide +kernel
theorem dm_X12_isAmending_33 : mj_dec prog_14_method_90_code 33 = some (.invokevirtual 469, 3) := by decide +kernel
theorem dm_X12_isAmending_36 : mj_dec prog_14_method_90_code 36 = some (.ifCond .eq 7, 3) := by decide +kernel
theorem dm_X12_isAmending_39 : mj_dec prog_14_method_90_code 39 = some (.iconst 1, 1) := by decide +kernel
theorem dm_X12_isAmending_40 : mj_dec prog_14_method_90_code 40 = some (.goto 4, 3) := by decide +kernel
theorem dm_X12_isAmending_43 : mj_dec prog_14_method_90_code 43 = some (.iconst 0, 1) := by decide +kernel
theorem dm_X12_isAmending_44 : mj_dec prog_14_method_90_code 44 = some (.istore_n 2, 1) := by decide +kernel
theorem dm_X12_isAmending_45 : mj_dec prog_14_method_90_code 45 = some (.aload_n 0, 1) := by decide +kernel
theorem dm_X12_isAmending_46 : mj_dec prog_14_method_90_code 46 = some (.invokevirtual 437, 3) := by decide +kernel
theorem dm_X12_isAmending_49 : mj_dec prog_14_method_90_code 49 = some (.iload_n 2, 1) := by decide +kernel
theorem dm_X12_isAmending_50 : mj_dec prog_14_method_90_code 50 = some (.ifCond .eq 16, 3) := by decide +kernel
theorem dm_X12_isAmending_53 : mj_dec prog_14_method_90_code 53 = some (.aload_n 0, 1) := by decide +kernel
theorem dm_X12_isAmending_54 : mj_dec prog_14_method_90_code 54 = some (.bipush 40, 2) := by decide +kernel
theorem dm_X12_isAmending_56 : mj_dec prog_14_method_90_code 56 = some (.invokevirtual 440, 3) := by decide +kernel
theorem dm_X12_isAmending_59 : mj_dec prog_14_method_90_code 59 = some (.ifCond .eq 7, 3) := by decide +kernel
theorem dm_X12_isAmending_62 : mj_dec prog_14_method_90_code 62 = some (.iconst 1, 1) := by decide +kernel
theorem dm_X12_isAmending_63 : mj_dec prog_14_method_90_code 63 = some (.goto 4, 3) := by decide +kernel
theorem dm_X12_isAmending_66 : mj_dec prog_14_method_90_code 66 = some (.iconst 0, 1) := by decide +kernel
theorem dm_X12_isAmending_67 : mj_dec prog_14_method_90_code 67 = some (.istore_n 2, 1) := by decide +kernel
theorem dm_X12_isAmending_68 : mj_dec prog_14_method_90_code 68 = some (.iload_n 2, 1) := by decide +kernel
theorem dm_X12_isAmending_69 : mj_dec prog_14_method_90_code 69 = some (.ifCond .eq 7, 3) := by decide +kernel
theorem dm_X12_isAmending_72 : mj_dec prog_14_method_90_code 72 = some (.iconst 1, 1) := by decide +kernel
theorem dm_X12_isAmending_73 : mj_dec prog_14_method_90_code 73 = some (.goto 4, 3) := by decide +kernel
theorem dm_X12_isAmending_76 : mj_dec prog_14_method_90_code 76 = some (.iconst 0, 1) := by decide +kernel
theorem dm_X12_isAmending_77 : mj_dec prog_14_method_90_code 77 = some (.istore_n 3, 1) := by decide +kernel
theorem dm_X12_isAmending_78 : mj_dec prog_14_method_90_code 78 = some (.iload_n 3, 1) := by decide +kernel
theorem dm_X12_isAmending_79 : mj_dec prog_14_method_90_code 79 = some (.ifCond .le 94, 3) := by decide +kernel
theorem dm_X12_isAmending_82 : mj_dec prog_14_method_90_code 82 = some (.aload_n 0, 1) := by decide +kernel
theorem dm_X12_isAmending_83 : mj_dec prog_14_method_90_code 83 = some (.invokevirtual 437, 3) := by decide +kernel
theorem dm_X12_isAmending_86 : mj_dec prog_14_method_90_code 86 = some (.aload_n 0, 1) := by decide +kernel
theorem dm_X12_isAmending_87 : mj_dec prog_14_method_90_code 87 = some (.getfield 380, 3) := by decide +kernel
theorem dm_X12_isAmending_90 : mj_dec prog_14_method_90_code 90 = some (.ifCond .eq 12, 3) := by decide +kernel
theorem dm_X12_isAmending_93 : mj_dec prog_14_method_90_code 93 = some (.aload_n 0, 1) := by decide +kernel
theorem dm_X12_isAmending_94 : mj_dec prog_14_method_90_code 94 = some (.getfield 380, 3) := by decide +kernel
theorem dm_X12_isAmending_97 : mj_dec prog_14_method_90_code 97 = some (.bipush 8, 2) := by decide +kernel
theorem dm_X12_isAmending_99 : mj_dec prog_14_method_90_code 99 = some (.if_icmp .ne 8, 3) := by decide +kernel
theorem dm_X12_isAmending_102 : mj_dec prog_14_method_90_code 102 = some (.iconst (-1), 1) := by decide +kernel
theorem dm_X12_isAmending_103 : mj_dec prog_14_method_90_code 103 = some (.istore_n 3, 1) := by decide +kernel
theorem dm_X12_isAmending_104 : mj_dec prog_14_method_90_code 104 = some (.goto (-26), 3) := by decide +kernel
theorem dm_X12_isAmending_107 : mj_dec prog_14_method_90_code 107 = some (.aload_n 0, 1) := by decide +kernel
theorem dm_X12_isAmending_108 : mj_dec prog_14_method_90_code 108 = some (.bipush 40, 2) := by decide +kernel
theorem dm_X12_isAmending_110 : mj_dec prog_14_method_90_code 110 = some (.invokevirtual 440, 3) := by decide +kernel
theorem dm_X12_isAmending_113 : mj_dec prog_14_method_90_code 113 = some (.ifCond .ne 21, 3) := by decide +kernel
theorem dm_X12_isAmending_116 : mj_dec prog_14_method_90_code 116 = some (.aload_n 0, 1) := by decide +kernel
theorem dm_X12_isAmending_117 : mj_dec prog_14_method_90_code 117 = some (.bipush 91, 2) := by decide +kernel
theorem dm_X12_isAmending_119 : mj_dec prog_14_method_90_code 119 = some (.invokevirtual 440, 3) := by decide +kernel
theorem dm_X12_isAmending_122 : mj_dec prog_14_method_90_code 122 = some (.ifCond .ne 12, 3) := by decide +kernel
theorem dm_X12_isAmending_125 : mj_dec prog_14_method_90_code 125 = some (.aload_n 0, 1) := by decide +kernel
theorem dm_X12_isAmending_126 : mj_dec prog_14_method_90_code 126 = some (.bipush 123, 2) := by decide +kernel
theorem dm_X12_isAmending_128 : mj_dec prog_14_method_90_code 128 = some (.invokevirtual 440, 3) := by decide +kernel
theorem dm_X12_isAmending_131 : mj_dec prog_14_method_90_code 131 = some (.ifCond .eq 9, 3) := by decide +kernel
theorem dm_X12_isAmending_134 : mj_dec prog_14_method_90_code 134 = some (.iinc 3 1, 3) := by decide +kernel
theorem dm_X12_isAmending_137 : mj_dec prog_14_method_90_code 137 = some (.goto (-59), 3) := by decide +kernel
theorem dm_X12_isAmending_140 : mj_dec prog_14_method_90_code 140 = some (.aload_n 0, 1) := by decide +kernel
theorem dm_X12_isAmending_141 : mj_dec prog_14_method_90_code 141 = some (.bipush 41, 2) := by decide +kernel
theorem dm_X12_isAmending_143 : mj_dec prog_14_method_90_code 143 = some (.invokevirtual 440, 3) := by decide +kernel
theorem dm_X12_isAmending_146 : mj_dec prog_14_method_90_code 146 = some (.ifCond .ne 21, 3) := by decide +kernel
theorem dm_X12_isAmending_149 : mj_dec prog_14_method_90_code 149 = some (.aload_n 0, 1) := by decide +kernel
theorem dm_X12_isAmending_150 : mj_dec prog_14_method_90_code 150 = some (.bipush 93, 2) := by decide +kernel
theorem dm_X12_isAmending_152 : mj_dec prog_14_method_90_code 152 = some (.invokevirtual 440, 3) := by decide +kernel
theorem dm_X12_isAmending_155 : mj_dec prog_14_method_90_code 155 = some (.ifCond .ne 12, 3) := by decide +kernel
theorem dm_X12_isAmending_158 : mj_dec prog_14_method_90_code 158 = some (.aload_n 0, 1) := by decide +kernel
theorem dm_X12_isAmending_159 : mj_dec prog_14_method_90_code 159 = some (.bipush 125, 2) := by decide +kernel
theorem dm_X12_isAmending_161 : mj_dec prog_14_method_90_code 161 = some (.invokevirtual 440, 3) := by decide +kernel
theorem dm_X12_isAmending_164 : mj_dec prog_14_method_90_code 164 = some (.ifCond .eq (-86), 3) := by decide +kernel
theorem dm_X12_isAmending_167 : mj_dec prog_14_method_90_code 167 = some (.iinc 3 (-1), 3) := by decide +kernel
theorem dm_X12_isAmending_170 : mj_dec prog_14_method_90_code 170 = some (.goto (-92), 3) := by decide +kernel
theorem dm_X12_isAmending_173 : mj_dec prog_14_method_90_code 173 = some (.iload_n 2, 1) := by decide +kernel
theorem dm_X12_isAmending_174 : mj_dec prog_14_method_90_code 174 = some (.ifCond .eq 11, 3) := by decide +kernel
theorem dm_X12_isAmending_177 : mj_dec prog_14_method_90_code 177 = some (.iload_n 3, 1) := by decide +kernel
theorem dm_X12_isAmending_178 : mj_dec prog_14_method_90_code 178 = some (.ifCond .ne 7, 3) := by decide +kernel
theorem dm_X12_isAmending_181 : mj_dec prog_14_method_90_code 181 = some (.aload_n 0, 1) := by decide +kernel
theorem dm_X12_isAmending_182 : mj_dec prog_14_method_90_code 182 = some (.invokevirtual 437, 3) := by decide +kernel
theorem dm_X12_isAmending_185 : mj_dec prog_14_method_90_code 185 = some (.iload_n 2, 1) := by decide +kernel
theorem dm_X12_isAmending_186 : mj_dec prog_14_method_90_code 186 = some (.ifCond .eq 20, 3) := by decide +kernel
theorem dm_X12_isAmending_189 : mj_dec prog_14_method_90_code 189 = some (.iload_n 3, 1) := by decide +kernel
theorem dm_X12_isAmending_190 : mj_dec prog_14_method_90_code 190 = some (.ifCond .ne 16, 3) := by decide +kernel
theorem dm_X12_isAmending_193 : mj_dec prog_14_method_90_code 193 = some (.aload_n 0, 1) := by decide +kernel
theorem dm_X12_isAmending_194 : mj_dec prog_14_method_90_code 194 = some (.bipush 58, 2) := by decide +kernel
theorem dm_X12_isAmending_196 : mj_dec prog_14_method_90_code 196 = some (.invokevirtual 440, 3) := by decide +kernel
theorem dm_X12_isAmending_199 : mj_dec prog_14_method_90_code 199 = some (.ifCond .eq 7, 3) := by decide +kernel
theorem dm_X12_isAmending_202 : mj_dec prog_14_method_90_code 202 = some (.iconst 1, 1) := by decide +kernel
theorem dm_X12_isAmending_203 : mj_dec prog_14_method_90_code 203 = some (.goto 4, 3) := by decide +kernel
theorem dm_X12_isAmending_206 : mj_dec prog_14_method_90_code 206 = some (.iconst 0, 1) := by decide +kernel
theorem dm_X12_isAmending_207 : mj_dec prog_14_method_90_code 207 = some (.istore_n 2, 1) := by decide +kernel
theorem dm_X12_isAmending_208 : mj_dec prog_14_method_90_code 208 = some (.aload_n 0, 1) := by decide +kernel
theorem dm_X12_isAmending_209 : mj_dec prog_14_method_90_code 209 = some (.iload_n 1, 1) := by decide +kernel
theorem dm_X12_isAmending_210 : mj_dec prog_14_method_90_code 210 = some (.invokevirtual 475, 3) := by decide +kernel
theorem dm_X12_isAmending_213 : mj_dec prog_14_method_90_code 213 = some (.iload_n 2, 1) := by decide +kernel
theorem dm_X12_isAmending_214 : mj_dec prog_14_method_90_code 214 = some (.ireturn, 1) := by decide +kernel
theorem r_isAmending_ {xt : mj_X} {d : Nat} {pre post : mj_H} {s : RS} {bf : Nat → Int} {ln n m hi hi2 mk : Nat} {F : Nat → Int → Bool} {T : Nat → Tok} (hm : pre.length = 102) (hd : 6 ≤ d) (hT : T = tkI bf ln F) (hK : TOKS T mk ln) (hTN : TN bf ln n m s) (hR : RD bf ln F n m hi2 s 0) (hFN : ∀ j, j ≤ hi → FNp bf ln (F j) (beS s) m) (hh2 : mk + 2 ≤ hi2) : pgV xt d 217 [.ref 102, ii (ln : Int)] (rS pre post s) (fun x h' => x = zz (decide ((tqS (T 0) = 3 ∨ tqS (T 0) = 4) ∧ isAm T = true)) ∧ ∃ t, h' = rS pre post t ∧ BG bf ln F n m hi s t) := by
  obtain ⟨h38, h8, h40⟩ := RD_s hT hK hR
  have h40r : ¬ (tqS (T 0) = 5 ∨ tqS (T 0) = 6 ∨ tqS (T 0) = 7) ∨ (s.1 40 = tqD (T 0) ∧ 1 ≤ tqD (T 0) ∧ tqD (T 0) ≤ 126) := by
    by_cases z : tqS (T 0) = 5 ∨ tqS (T 0) = 6 ∨ tqS (T 0) = 7
    · exact Or.inr (h40 z)
    · exact Or.inl z
  clear h40
  have hln := hK.2.1
  have hmk200 := hK.1
  refine x_enter pm_X12_isAmending (L0 := [(0, .ref 102), (1, ii (ln : Int))]) rfl (Nat.le_of_ble_eq_true rfl) (by omega) ?_
  refine me1 (pc' := 1) (L' := [(0, .ref 102), (1, ii (ln : Int))]) (S' := [.ref 102]) dm_X12_isAmending_0 rfl rfl rfl rfl ?_
  refine me3 (pc' := 4) (S' := [ii (s.1 38)]) dm_X12_isAmending_1 (q_geti (v := s.1 38) hm rfl (fun m i l => rg_38 m i l) rfl) rfl rfl rfl ?_
  refine me0 (pc' := 5) (S' := [ii 3, ii (s.1 38)]) dm_X12_isAmending_4 rfl rfl rfl rfl ?_
  refine y_2eq (a := s.1 38) (b := 3) (t := 16) (pc' := 8) dm_X12_isAmending_5 rfl rfl (by omega) (fun hb1 => ?_) (fun hb1 => ?_)
  · refine me0 (pc' := 17) (S' := [ii 1]) dm_X12_isAmending_16 rfl rfl rfl rfl ?_
    refine me2 (pc' := 21) (S' := [ii 1]) dm_X12_isAmending_17 rfl rfl rfl ?_
    refine me1 (pc' := 22) (L' := [(2, ii 1), (0, .ref 102), (1, ii (ln : Int))]) (S' := []) dm_X12_isAmending_21 rfl rfl rfl rfl ?_
    refine me1 (pc' := 23) (L' := [(2, ii 1), (0, .ref 102), (1, ii (ln : Int))]) (S' := [.ref 102]) dm_X12_isAmending_22 rfl rfl rfl rfl ?_
    refine x_cn (pc' := 26) (rest := []) dm_X12_isAmending_23 rfl (q_inv (As := []) (S := []) hm rfl rfl rfl) rfl rfl rfl (r_nxt (s := s) (i := 0) hm (by omega) hR (by omega)) ?_
    rintro _ ⟨t1, rfl, hk1, t1D⟩
    have hF1 := rbF_tk hk1
    obtain ⟨b38, b8, b40⟩ := RD_s hT hK t1D
    clear b40
    refine me1 (pc' := 27) (L' := [(2, ii 1), (0, .ref 102), (1, ii (ln : Int))]) (S' := [ii 1]) dm_X12_isAmending_26 rfl rfl rfl rfl ?_
    refine me_1f (pc' := 30) dm_X12_isAmending_27 rfl (by decide) rfl ?_
    refine me1 (pc' := 31) (L' := [(2, ii 1), (0, .ref 102), (1, ii (ln : Int))]) (S' := [.ref 102]) dm_X12_isAmending_30 rfl rfl rfl rfl ?_
    refine me0 (pc' := 33) (S' := [ii 64, .ref 102]) dm_X12_isAmending_31 rfl rfl rfl rfl ?_
    refine x_cp (pc' := 36) (v := zz (decide (tqS (T 1) = 5 ∧ tqD (T 1) = 64))) (rest := []) dm_X12_isAmending_33 rfl (q_inv (As := [ii 64]) (S := []) hm rfl rfl rfl) rfl rfl rfl (r_vbd_ (i := 1) hm (by omega) hT hK t1D (by omega)) ?_
    refine y_zeq (c := decide (tqS (T 1) = 5 ∧ tqD (T 1) = 64)) (t := 43) (pc' := 39) dm_X12_isAmending_36 rfl rfl (fun hb2 => ?_) (fun hb2 => ?_)
    · replace hb2 := dF hb2
      have hn64 := hb2
      refine me0 (pc' := 44) (S' := [ii 0]) dm_X12_isAmending_43 rfl rfl rfl rfl ?_
      refine me1 (pc' := 45) (L' := [(2, ii 0), (0, .ref 102), (1, ii (ln : Int))]) (S' := []) dm_X12_isAmending_44 rfl rfl rfl rfl ?_
      refine me1 (pc' := 46) (L' := [(2, ii 0), (0, .ref 102), (1, ii (ln : Int))]) (S' := [.ref 102]) dm_X12_isAmending_45 rfl rfl rfl rfl ?_
      refine x_cn (pc' := 49) (rest := []) dm_X12_isAmending_46 rfl (q_inv (As := []) (S := []) hm rfl rfl rfl) rfl rfl rfl (r_nxt (s := t1) (i := 1) hm (by omega) t1D (by omega)) ?_
      rintro _ ⟨t2, rfl, hk2, t2D⟩
      have hF2 := rbF_tr hF1 (rbF_tk hk2)
      refine me1 (pc' := 50) (L' := [(2, ii 0), (0, .ref 102), (1, ii (ln : Int))]) (S' := [ii 0]) dm_X12_isAmending_49 rfl rfl rfl rfl ?_
      refine me_1t (pc' := 66) dm_X12_isAmending_50 rfl (by decide) ?_
      refine me0 (pc' := 67) (S' := [ii 0]) dm_X12_isAmending_66 rfl rfl rfl rfl ?_
      refine me1 (pc' := 68) (L' := [(2, ii 0), (0, .ref 102), (1, ii (ln : Int))]) (S' := []) dm_X12_isAmending_67 rfl rfl rfl rfl ?_
      refine me1 (pc' := 69) (L' := [(2, ii 0), (0, .ref 102), (1, ii (ln : Int))]) (S' := [ii 0]) dm_X12_isAmending_68 rfl rfl rfl rfl ?_
      refine me_1t (pc' := 76) dm_X12_isAmending_69 rfl (by decide) ?_
      refine me0 (pc' := 77) (S' := [ii 0]) dm_X12_isAmending_76 rfl rfl rfl rfl ?_
      refine me1 (pc' := 78) (L' := [(3, ii 0), (2, ii 0), (0, .ref 102), (1, ii (ln : Int))]) (S' := []) dm_X12_isAmending_77 rfl rfl rfl rfl ?_
      refine me1 (pc' := 79) (L' := [(3, ii 0), (2, ii 0), (0, .ref 102), (1, ii (ln : Int))]) (S' := [ii 0]) dm_X12_isAmending_78 rfl rfl rfl rfl ?_
      refine me_1t (pc' := 173) dm_X12_isAmending_79 rfl (by decide) ?_
      refine me1 (pc' := 174) (L' := [(3, ii 0), (2, ii 0), (0, .ref 102), (1, ii (ln : Int))]) (S' := [ii 0]) dm_X12_isAmending_173 rfl rfl rfl rfl ?_
      refine me_1t (pc' := 185) dm_X12_isAmending_174 rfl (by decide) ?_
      refine me1 (pc' := 186) (L' := [(3, ii 0), (2, ii 0), (0, .ref 102), (1, ii (ln : Int))]) (S' := [ii 0]) dm_X12_isAmending_185 rfl rfl rfl rfl ?_
      refine me_1t (pc' := 206) dm_X12_isAmending_186 rfl (by decide) ?_
      refine me0 (pc' := 207) (S' := [ii 0]) dm_X12_isAmending_206 rfl rfl rfl rfl ?_
      refine me1 (pc' := 208) (L' := [(2, ii 0), (3, ii 0), (0, .ref 102), (1, ii (ln : Int))]) (S' := []) dm_X12_isAmending_207 rfl rfl rfl rfl ?_
      refine me1 (pc' := 209) (L' := [(2, ii 0), (3, ii 0), (0, .ref 102), (1, ii (ln : Int))]) (S' := [.ref 102]) dm_X12_isAmending_208 rfl rfl rfl rfl ?_
      refine me1 (pc' := 210) (L' := [(2, ii 0), (3, ii 0), (0, .ref 102), (1, ii (ln : Int))]) (S' := [ii (ln : Int), .ref 102]) dm_X12_isAmending_209 rfl rfl rfl rfl ?_
      refine x_cn (pc' := 213) (rest := []) dm_X12_isAmending_210 rfl (q_inv (As := [ii (ln : Int)]) (S := []) hm rfl rfl rfl) rfl rfl rfl (r_begin_ (s := t2) (hi := hi) hm (by omega) (TN_k hF2 hTN) (fun j hj => FNp_k (s := beS s) (by rw [show (beS t2).2.2.2 20 = t2.2.2.2 20 from rfl, hF2.1]; rfl) rfl (hFN j hj))) ?_
      rintro _ ⟨w, rfl, hBG⟩
      refine me1 (pc' := 214) (L' := [(2, ii 0), (3, ii 0), (0, .ref 102), (1, ii (ln : Int))]) (S' := [ii 0]) dm_X12_isAmending_213 rfl rfl rfl rfl ?_
      refine y_ret (r := some (ii 0)) dm_X12_isAmending_214 rfl rfl rfl ?_
      refine ⟨_, rfl, zf (fun z => ?_), w, rfl, hBG.1, hBG.2.1, hBG.2.2.1, hBG.2.2.2.1, rbF_tr hF2 hBG.2.2.2.2⟩
      first | omega | (have z2 := z.2; rw [isAm_f (by omega)] at z2; cases z2)
    · replace hb2 := dT hb2
      have h64 := hb2
      refine me0 (pc' := 40) (S' := [ii 1]) dm_X12_isAmending_39 rfl rfl rfl rfl ?_
      refine me2 (pc' := 44) (S' := [ii 1]) dm_X12_isAmending_40 rfl rfl rfl ?_
      refine me1 (pc' := 45) (L' := [(2, ii 1), (0, .ref 102), (1, ii (ln : Int))]) (S' := []) dm_X12_isAmending_44 rfl rfl rfl rfl ?_
      refine me1 (pc' := 46) (L' := [(2, ii 1), (0, .ref 102), (1, ii (ln : Int))]) (S' := [.ref 102]) dm_X12_isAmending_45 rfl rfl rfl rfl ?_
      refine x_cn (pc' := 49) (rest := []) dm_X12_isAmending_46 rfl (q_inv (As := []) (S := []) hm rfl rfl rfl) rfl rfl rfl (r_nxt (s := t1) (i := 1) hm (by omega) t1D (by omega)) ?_
      rintro _ ⟨t2, rfl, hk2, t2D⟩
      have hF2 := rbF_tr hF1 (rbF_tk hk2)
      refine me1 (pc' := 50) (L' := [(2, ii 1), (0, .ref 102), (1, ii (ln : Int))]) (S' := [ii 1]) dm_X12_isAmending_49 rfl rfl rfl rfl ?_
      refine me_1f (pc' := 53) dm_X12_isAmending_50 rfl (by decide) rfl ?_
      refine me1 (pc' := 54) (L' := [(2, ii 1), (0, .ref 102), (1, ii (ln : Int))]) (S' := [.ref 102]) dm_X12_isAmending_53 rfl rfl rfl rfl ?_
      refine me0 (pc' := 56) (S' := [ii 40, .ref 102]) dm_X12_isAmending_54 rfl rfl rfl rfl ?_
      refine x_cp (pc' := 59) (v := zz (decide (isMk T 2 40))) (rest := []) dm_X12_isAmending_56 rfl (q_inv (As := [ii 40]) (S := []) hm rfl rfl rfl) rfl rfl rfl (r_mkd_ (i := 2) hm (by omega) hT hK t2D (by omega)) ?_
      refine y_zeq (c := decide (isMk T 2 40)) (t := 66) (pc' := 62) dm_X12_isAmending_59 rfl rfl (fun hb3 => ?_) (fun hb3 => ?_)
      · replace hb3 := dF hb3
        have hn40 := hb3
        refine me0 (pc' := 67) (S' := [ii 0]) dm_X12_isAmending_66 rfl rfl rfl rfl ?_
        refine me1 (pc' := 68) (L' := [(2, ii 0), (0, .ref 102), (1, ii (ln : Int))]) (S' := []) dm_X12_isAmending_67 rfl rfl rfl rfl ?_
        refine me1 (pc' := 69) (L' := [(2, ii 0), (0, .ref 102), (1, ii (ln : Int))]) (S' := [ii 0]) dm_X12_isAmending_68 rfl rfl rfl rfl ?_
        refine me_1t (pc' := 76) dm_X12_isAmending_69 rfl (by decide) ?_
        refine me0 (pc' := 77) (S' := [ii 0]) dm_X12_isAmending_76 rfl rfl rfl rfl ?_
        refine me1 (pc' := 78) (L' := [(3, ii 0), (2, ii 0), (0, .ref 102), (1, ii (ln : Int))]) (S' := []) dm_X12_isAmending_77 rfl rfl rfl rfl ?_
        refine me1 (pc' := 79) (L' := [(3, ii 0), (2, ii 0), (0, .ref 102), (1, ii (ln : Int))]) (S' := [ii 0]) dm_X12_isAmending_78 rfl rfl rfl rfl ?_
        refine me_1t (pc' := 173) dm_X12_isAmending_79 rfl (by decide) ?_
        refine me1 (pc' := 174) (L' := [(3, ii 0), (2, ii 0), (0, .ref 102), (1, ii (ln : Int))]) (S' := [ii 0]) dm_X12_isAmending_173 rfl rfl rfl rfl ?_
        refine me_1t (pc' := 185) dm_X12_isAmending_174 rfl (by decide) ?_
        refine me1 (pc' := 186) (L' := [(3, ii 0), (2, ii 0), (0, .ref 102), (1, ii (ln : Int))]) (S' := [ii 0]) dm_X12_isAmending_185 rfl rfl rfl rfl ?_
        refine me_1t (pc' := 206) dm_X12_isAmending_186 rfl (by decide) ?_
        refine me0 (pc' := 207) (S' := [ii 0]) dm_X12_isAmending_206 rfl rfl rfl rfl ?_
        refine me1 (pc' := 208) (L' := [(2, ii 0), (3, ii 0), (0, .ref 102), (1, ii (ln : Int))]) (S' := []) dm_X12_isAmending_207 rfl rfl rfl rfl ?_
        refine me1 (pc' := 209) (L' := [(2, ii 0), (3, ii 0), (0, .ref 102), (1, ii (ln : Int))]) (S' := [.ref 102]) dm_X12_isAmending_208 rfl rfl rfl rfl ?_
        refine me1 (pc' := 210) (L' := [(2, ii 0), (3, ii 0), (0, .ref 102), (1, ii (ln : Int))]) (S' := [ii (ln : Int), .ref 102]) dm_X12_isAmending_209 rfl rfl rfl rfl ?_
        refine x_cn (pc' := 213) (rest := []) dm_X12_isAmending_210 rfl (q_inv (As := [ii (ln : Int)]) (S := []) hm rfl rfl rfl) rfl rfl rfl (r_begin_ (s := t2) (hi := hi) hm (by omega) (TN_k hF2 hTN) (fun j hj => FNp_k (s := beS s) (by rw [show (beS t2).2.2.2 20 = t2.2.2.2 20 from rfl, hF2.1]; rfl) rfl (hFN j hj))) ?_
        rintro _ ⟨w, rfl, hBG⟩
        refine me1 (pc' := 214) (L' := [(2, ii 0), (3, ii 0), (0, .ref 102), (1, ii (ln : Int))]) (S' := [ii 0]) dm_X12_isAmending_213 rfl rfl rfl rfl ?_
        refine y_ret (r := some (ii 0)) dm_X12_isAmending_214 rfl rfl rfl ?_
        refine ⟨_, rfl, zf (fun z => ?_), w, rfl, hBG.1, hBG.2.1, hBG.2.2.1, hBG.2.2.2.1, rbF_tr hF2 hBG.2.2.2.2⟩
        first | omega | (have z2 := z.2; rw [isAm_f (by omega)] at z2; cases z2)
      · replace hb3 := dT hb3
        have h40 := hb3
        refine me0 (pc' := 63) (S' := [ii 1]) dm_X12_isAmending_62 rfl rfl rfl rfl ?_
        refine me2 (pc' := 67) (S' := [ii 1]) dm_X12_isAmending_63 rfl rfl rfl ?_
        refine me1 (pc' := 68) (L' := [(2, ii 1), (0, .ref 102), (1, ii (ln : Int))]) (S' := []) dm_X12_isAmending_67 rfl rfl rfl rfl ?_
        refine me1 (pc' := 69) (L' := [(2, ii 1), (0, .ref 102), (1, ii (ln : Int))]) (S' := [ii 1]) dm_X12_isAmending_68 rfl rfl rfl rfl ?_
        refine me_1f (pc' := 72) dm_X12_isAmending_69 rfl (by decide) rfl ?_
        have hmk2 := TOKS_lt hK (i := 2) (by have := h40.1; omega)
        refine me0 (pc' := 73) (S' := [ii 1]) dm_X12_isAmending_72 rfl rfl rfl rfl ?_
        refine me2 (pc' := 77) (S' := [ii 1]) dm_X12_isAmending_73 rfl rfl rfl ?_
        refine me1 (pc' := 78) (L' := [(3, ii 1), (2, ii 1), (0, .ref 102), (1, ii (ln : Int))]) (S' := []) dm_X12_isAmending_77 rfl rfl rfl rfl ?_
        refine me1 (pc' := 79) (L' := [(3, ii 1), (2, ii 1), (0, .ref 102), (1, ii (ln : Int))]) (S' := [ii 1]) dm_X12_isAmending_78 rfl rfl rfl rfl ?_
        refine me_1f (pc' := 82) dm_X12_isAmending_79 rfl (by decide) rfl ?_
        have lp82 : ∀ (n82 : Nat) (a : Nat) (dp : Int) (z : RS), mk - a = n82 → (RD bf ln F n m hi2 z a) → (rbF s z) → (2 ≤ a ∧ a < mk ∧ 1 ≤ dp ∧ dp ≤ a) → (aoB T 200 2 0 = aoB T (202 - (a + 1)) (a + 1) dp) → pgE xt (d - 1) 12 4 false (Option.some Jvm.ClassFile.FieldType.boolean) (mj_dec prog_14_method_90_code) 82 [(0, .ref 102), (1, ii (ln : Int)), (2, ii 1), (3, ii dp)] [] (rI pre post z.1 z.2.1 z.2.2.1 z.2.2.2) (fun r h' => ∃ x, r = some x ∧ x = zz (decide ((tqS (T 0) = 3 ∨ tqS (T 0) = 4) ∧ isAm T = true)) ∧ ∃ t, h' = rS pre post t ∧ BG bf ln F n m hi s t) := by
          intro n82
          induction n82 using Nat.strongRecOn with
          | ind n82 ih82 =>
            intro a dp z hm82 zD zF za zA
            refine me1 (pc' := 83) (L' := [(0, .ref 102), (1, ii (ln : Int)), (2, ii 1), (3, ii dp)]) (S' := [.ref 102]) dm_X12_isAmending_82 rfl rfl rfl rfl ?_
            refine x_cn (pc' := 86) (rest := []) dm_X12_isAmending_83 rfl (q_inv (As := []) (S := []) hm rfl rfl rfl) rfl rfl rfl (r_nxt (s := z) (i := a) hm (by omega) zD (by omega)) ?_
            rintro _ ⟨u, rfl, hku, uD⟩
            obtain ⟨u38, u8, u40⟩ := RD_s hT hK uD
            clear u40
            have hor := opD_r T (a + 1) dp
            refine me1 (pc' := 87) (L' := [(0, .ref 102), (1, ii (ln : Int)), (2, ii 1), (3, ii dp)]) (S' := [.ref 102]) dm_X12_isAmending_86 rfl rfl rfl rfl ?_
            refine me3 (pc' := 90) (S' := [ii (u.1 38)]) dm_X12_isAmending_87 (q_geti (v := u.1 38) hm rfl (fun m i l => rg_38 m i l) rfl) rfl rfl rfl ?_
            refine y_1eq (a := u.1 38) (t := 102) (pc' := 93) dm_X12_isAmending_90 rfl rfl (by omega) (fun hb4 => ?_) (fun hb4 => ?_)
            · refine me0 (pc' := 103) (S' := [ii (-1)]) dm_X12_isAmending_102 rfl rfl rfl rfl ?_
              refine me1 (pc' := 104) (L' := [(3, ii (-1)), (0, .ref 102), (1, ii (ln : Int)), (2, ii 1)]) (S' := []) dm_X12_isAmending_103 rfl rfl rfl rfl ?_
              refine me2 (pc' := 78) (S' := []) dm_X12_isAmending_104 rfl rfl rfl ?_
              refine me1 (pc' := 79) (L' := [(3, ii (-1)), (0, .ref 102), (1, ii (ln : Int)), (2, ii 1)]) (S' := [ii (-1)]) dm_X12_isAmending_78 rfl rfl rfl rfl ?_
              refine me_1t (pc' := 173) dm_X12_isAmending_79 rfl (by decide) ?_
              refine me1 (pc' := 174) (L' := [(3, ii (-1)), (0, .ref 102), (1, ii (ln : Int)), (2, ii 1)]) (S' := [ii 1]) dm_X12_isAmending_173 rfl rfl rfl rfl ?_
              refine me_1f (pc' := 177) dm_X12_isAmending_174 rfl (by decide) rfl ?_
              refine me1 (pc' := 178) (L' := [(3, ii (-1)), (0, .ref 102), (1, ii (ln : Int)), (2, ii 1)]) (S' := [ii (-1)]) dm_X12_isAmending_177 rfl rfl rfl rfl ?_
              refine me_1t (pc' := 185) dm_X12_isAmending_178 rfl (by decide) ?_
              refine me1 (pc' := 186) (L' := [(3, ii (-1)), (0, .ref 102), (1, ii (ln : Int)), (2, ii 1)]) (S' := [ii 1]) dm_X12_isAmending_185 rfl rfl rfl rfl ?_
              refine me_1f (pc' := 189) dm_X12_isAmending_186 rfl (by decide) rfl ?_
              refine me1 (pc' := 190) (L' := [(3, ii (-1)), (0, .ref 102), (1, ii (ln : Int)), (2, ii 1)]) (S' := [ii (-1)]) dm_X12_isAmending_189 rfl rfl rfl rfl ?_
              refine me_1t (pc' := 206) dm_X12_isAmending_190 rfl (by decide) ?_
              refine me0 (pc' := 207) (S' := [ii 0]) dm_X12_isAmending_206 rfl rfl rfl rfl ?_
              refine me1 (pc' := 208) (L' := [(2, ii 0), (3, ii (-1)), (0, .ref 102), (1, ii (ln : Int))]) (S' := []) dm_X12_isAmending_207 rfl rfl rfl rfl ?_
              refine me1 (pc' := 209) (L' := [(2, ii 0), (3, ii (-1)), (0, .ref 102), (1, ii (ln : Int))]) (S' := [.ref 102]) dm_X12_isAmending_208 rfl rfl rfl rfl ?_
              refine me1 (pc' := 210) (L' := [(2, ii 0), (3, ii (-1)), (0, .ref 102), (1, ii (ln : Int))]) (S' := [ii (ln : Int), .ref 102]) dm_X12_isAmending_209 rfl rfl rfl rfl ?_
              refine x_cn (pc' := 213) (rest := []) dm_X12_isAmending_210 rfl (q_inv (As := [ii (ln : Int)]) (S := []) hm rfl rfl rfl) rfl rfl rfl (r_begin_ (s := u) (hi := hi) hm (by omega) (TN_k (rbF_tr zF (rbF_tk hku)) hTN) (fun j hj => FNp_k (s := beS s) (by rw [show (beS u).2.2.2 20 = u.2.2.2 20 from rfl, (rbF_tr zF (rbF_tk hku)).1]; rfl) rfl (hFN j hj))) ?_
              rintro _ ⟨w, rfl, hBG⟩
              refine me1 (pc' := 214) (L' := [(2, ii 0), (3, ii (-1)), (0, .ref 102), (1, ii (ln : Int))]) (S' := [ii 0]) dm_X12_isAmending_213 rfl rfl rfl rfl ?_
              refine y_ret (r := some (ii 0)) dm_X12_isAmending_214 rfl rfl rfl ?_
              refine ⟨_, rfl, zf (fun z => ?_), w, rfl, hBG.1, hBG.2.1, hBG.2.2.1, hBG.2.2.2.1, rbF_tr (rbF_tr zF (rbF_tk hku)) hBG.2.2.2.2⟩
              have z2 := z.2
              rw [isAm_t ⟨h64.1, h64.2, h40⟩ (zA.trans (aoB_e (i := a + 1) (by omega) (by omega)))] at z2
              cases z2
            · refine me1 (pc' := 94) (L' := [(0, .ref 102), (1, ii (ln : Int)), (2, ii 1), (3, ii dp)]) (S' := [.ref 102]) dm_X12_isAmending_93 rfl rfl rfl rfl ?_
              refine me3 (pc' := 97) (S' := [ii (u.1 38)]) dm_X12_isAmending_94 (q_geti (v := u.1 38) hm rfl (fun m i l => rg_38 m i l) rfl) rfl rfl rfl ?_
              refine me0 (pc' := 99) (S' := [ii 8, ii (u.1 38)]) dm_X12_isAmending_97 rfl rfl rfl rfl ?_
              refine y_2ne (a := u.1 38) (b := 8) (t := 107) (pc' := 102) dm_X12_isAmending_99 rfl rfl (by omega) (fun hb5 => ?_) (fun hb5 => ?_)
              · have hs : ¬ (tqS (T (a + 1)) = 0 ∨ tqS (T (a + 1)) = 8) := by omega
                have hlt : a + 1 < mk := Classical.byContradiction fun z => by have := hK.2.2.2.1 (a + 1) (by omega); have := hK.2.2.2.2.1; rw [← hK.2.2.2.1 (a + 1) (by omega)] at this; exact hs this
                have jn78 : ∀ d1 : Int, d1 = opD T (a + 1) dp → pgE xt (d - 1) 12 4 false (Option.some Jvm.ClassFile.FieldType.boolean) (mj_dec prog_14_method_90_code) 78 [(0, .ref 102), (1, ii (ln : Int)), (2, ii 1), (3, ii d1)] [] (rI pre post u.1 u.2.1 u.2.2.1 u.2.2.2) (fun r h' => ∃ x, r = some x ∧ x = zz (decide ((tqS (T 0) = 3 ∨ tqS (T 0) = 4) ∧ isAm T = true)) ∧ ∃ t, h' = rS pre post t ∧ BG bf ln F n m hi s t) := by
                  intro d1 hd1
                  refine me1 (pc' := 79) (L' := [(0, .ref 102), (1, ii (ln : Int)), (2, ii 1), (3, ii d1)]) (S' := [ii d1]) dm_X12_isAmending_78 rfl rfl rfl rfl ?_
                  refine y_1le (a := d1) (t := 173) (pc' := 82) dm_X12_isAmending_79 rfl rfl (by omega) (fun hb6 => ?_) (fun hb6 => ?_)
                  · refine me1 (pc' := 174) (L' := [(0, .ref 102), (1, ii (ln : Int)), (2, ii 1), (3, ii d1)]) (S' := [ii 1]) dm_X12_isAmending_173 rfl rfl rfl rfl ?_
                    refine me_1f (pc' := 177) dm_X12_isAmending_174 rfl (by decide) rfl ?_
                    refine me1 (pc' := 178) (L' := [(0, .ref 102), (1, ii (ln : Int)), (2, ii 1), (3, ii d1)]) (S' := [ii d1]) dm_X12_isAmending_177 rfl rfl rfl rfl ?_
                    refine y_1ne (a := d1) (t := 185) (pc' := 181) dm_X12_isAmending_178 rfl rfl (by omega) (fun hb7 => ?_) (fun hb7 => ?_)
                    · exfalso; omega
                    · refine me1 (pc' := 182) (L' := [(0, .ref 102), (1, ii (ln : Int)), (2, ii 1), (3, ii d1)]) (S' := [.ref 102]) dm_X12_isAmending_181 rfl rfl rfl rfl ?_
                      refine x_cn (pc' := 185) (rest := []) dm_X12_isAmending_182 rfl (q_inv (As := []) (S := []) hm rfl rfl rfl) rfl rfl rfl (r_nxt (s := u) (i := a + 1) hm (by omega) uD (by omega)) ?_
                      rintro _ ⟨v, rfl, hkv, vD⟩
                      have hFv := rbF_tr (rbF_tr zF (rbF_tk hku)) (rbF_tk hkv)
                      refine me1 (pc' := 186) (L' := [(0, .ref 102), (1, ii (ln : Int)), (2, ii 1), (3, ii d1)]) (S' := [ii 1]) dm_X12_isAmending_185 rfl rfl rfl rfl ?_
                      refine me_1f (pc' := 189) dm_X12_isAmending_186 rfl (by decide) rfl ?_
                      refine me1 (pc' := 190) (L' := [(0, .ref 102), (1, ii (ln : Int)), (2, ii 1), (3, ii d1)]) (S' := [ii d1]) dm_X12_isAmending_189 rfl rfl rfl rfl ?_
                      refine y_1ne (a := d1) (t := 206) (pc' := 193) dm_X12_isAmending_190 rfl rfl (by omega) (fun hb8 => ?_) (fun hb8 => ?_)
                      · exfalso; omega
                      · refine me1 (pc' := 194) (L' := [(0, .ref 102), (1, ii (ln : Int)), (2, ii 1), (3, ii d1)]) (S' := [.ref 102]) dm_X12_isAmending_193 rfl rfl rfl rfl ?_
                        refine me0 (pc' := 196) (S' := [ii 58, .ref 102]) dm_X12_isAmending_194 rfl rfl rfl rfl ?_
                        refine x_cp (pc' := 199) (v := zz (decide (isMk T (a + 2) 58))) (rest := []) dm_X12_isAmending_196 rfl (q_inv (As := [ii 58]) (S := []) hm rfl rfl rfl) rfl rfl rfl (r_mkd_ (i := a + 2) hm (by omega) hT hK vD (by omega)) ?_
                        refine y_zeq (c := decide (isMk T (a + 2) 58)) (t := 206) (pc' := 202) dm_X12_isAmending_199 rfl rfl (fun hb9 => ?_) (fun hb9 => ?_)
                        · replace hb9 := dF hb9
                          have hn58 := hb9
                          refine me0 (pc' := 207) (S' := [ii 0]) dm_X12_isAmending_206 rfl rfl rfl rfl ?_
                          refine me1 (pc' := 208) (L' := [(2, ii 0), (0, .ref 102), (1, ii (ln : Int)), (3, ii d1)]) (S' := []) dm_X12_isAmending_207 rfl rfl rfl rfl ?_
                          refine me1 (pc' := 209) (L' := [(2, ii 0), (0, .ref 102), (1, ii (ln : Int)), (3, ii d1)]) (S' := [.ref 102]) dm_X12_isAmending_208 rfl rfl rfl rfl ?_
                          refine me1 (pc' := 210) (L' := [(2, ii 0), (0, .ref 102), (1, ii (ln : Int)), (3, ii d1)]) (S' := [ii (ln : Int), .ref 102]) dm_X12_isAmending_209 rfl rfl rfl rfl ?_
                          refine x_cn (pc' := 213) (rest := []) dm_X12_isAmending_210 rfl (q_inv (As := [ii (ln : Int)]) (S := []) hm rfl rfl rfl) rfl rfl rfl (r_begin_ (s := v) (hi := hi) hm (by omega) (TN_k hFv hTN) (fun j hj => FNp_k (s := beS s) (by rw [show (beS v).2.2.2 20 = v.2.2.2 20 from rfl, hFv.1]; rfl) rfl (hFN j hj))) ?_
                          rintro _ ⟨w, rfl, hBG⟩
                          refine me1 (pc' := 214) (L' := [(2, ii 0), (0, .ref 102), (1, ii (ln : Int)), (3, ii d1)]) (S' := [ii 0]) dm_X12_isAmending_213 rfl rfl rfl rfl ?_
                          refine y_ret (r := some (ii 0)) dm_X12_isAmending_214 rfl rfl rfl ?_
                          refine ⟨_, rfl, zf (fun z => ?_), w, rfl, hBG.1, hBG.2.1, hBG.2.2.1, hBG.2.2.2.1, rbF_tr hFv hBG.2.2.2.2⟩
                          have z2 := z.2
                          rw [isAm_t ⟨h64.1, h64.2, h40⟩ (zA.trans (aoB_c (i := a + 1) (by omega) hs hd1 (by omega)))] at z2
                          exact hn58 (of_decide_eq_true z2)
                        · replace hb9 := dT hb9
                          have h58 := hb9
                          refine me0 (pc' := 203) (S' := [ii 1]) dm_X12_isAmending_202 rfl rfl rfl rfl ?_
                          refine me2 (pc' := 207) (S' := [ii 1]) dm_X12_isAmending_203 rfl rfl rfl ?_
                          refine me1 (pc' := 208) (L' := [(2, ii 1), (0, .ref 102), (1, ii (ln : Int)), (3, ii d1)]) (S' := []) dm_X12_isAmending_207 rfl rfl rfl rfl ?_
                          refine me1 (pc' := 209) (L' := [(2, ii 1), (0, .ref 102), (1, ii (ln : Int)), (3, ii d1)]) (S' := [.ref 102]) dm_X12_isAmending_208 rfl rfl rfl rfl ?_
                          refine me1 (pc' := 210) (L' := [(2, ii 1), (0, .ref 102), (1, ii (ln : Int)), (3, ii d1)]) (S' := [ii (ln : Int), .ref 102]) dm_X12_isAmending_209 rfl rfl rfl rfl ?_
                          refine x_cn (pc' := 213) (rest := []) dm_X12_isAmending_210 rfl (q_inv (As := [ii (ln : Int)]) (S := []) hm rfl rfl rfl) rfl rfl rfl (r_begin_ (s := v) (hi := hi) hm (by omega) (TN_k hFv hTN) (fun j hj => FNp_k (s := beS s) (by rw [show (beS v).2.2.2 20 = v.2.2.2 20 from rfl, hFv.1]; rfl) rfl (hFN j hj))) ?_
                          rintro _ ⟨w, rfl, hBG⟩
                          refine me1 (pc' := 214) (L' := [(2, ii 1), (0, .ref 102), (1, ii (ln : Int)), (3, ii d1)]) (S' := [ii 1]) dm_X12_isAmending_213 rfl rfl rfl rfl ?_
                          refine y_ret (r := some (ii 1)) dm_X12_isAmending_214 rfl rfl rfl ?_
                          refine ⟨_, rfl, zt ⟨by omega, ?_⟩, w, rfl, hBG.1, hBG.2.1, hBG.2.2.1, hBG.2.2.2.1, rbF_tr hFv hBG.2.2.2.2⟩
                          rw [isAm_t ⟨h64.1, h64.2, h40⟩ (zA.trans (aoB_c (i := a + 1) (by omega) hs hd1 (by omega)))]
                          exact decide_eq_true h58
                  · exact pg_sub (L := [(0, .ref 102), (1, ii (ln : Int)), (2, ii 1), (3, ii d1)]) rfl rfl rfl (ih82 (mk - (a + 1)) (by omega) (a + 1) d1 u rfl uD (rbF_tr zF (rbF_tk hku)) ⟨by omega, by omega, by omega, by push_cast; omega⟩ (zA.trans (aoB_s (i := a + 1) (by omega) hs hd1 (by omega))))
                refine me1 (pc' := 108) (L' := [(0, .ref 102), (1, ii (ln : Int)), (2, ii 1), (3, ii dp)]) (S' := [.ref 102]) dm_X12_isAmending_107 rfl rfl rfl rfl ?_
                refine me0 (pc' := 110) (S' := [ii 40, .ref 102]) dm_X12_isAmending_108 rfl rfl rfl rfl ?_
                refine x_cp (pc' := 113) (v := zz (decide (isMk T (a + 1) 40))) (rest := []) dm_X12_isAmending_110 rfl (q_inv (As := [ii 40]) (S := []) hm rfl rfl rfl) rfl rfl rfl (r_mkd_ (i := a + 1) hm (by omega) hT hK uD (by omega)) ?_
                refine y_zne (c := decide (isMk T (a + 1) 40)) (t := 134) (pc' := 116) dm_X12_isAmending_113 rfl rfl (fun hb10 => ?_) (fun hb10 => ?_)
                · replace hb10 := dT hb10
                  refine y_iinc (pc' := 137) (L' := [(3, ii (dp + 1)), (0, .ref 102), (1, ii (ln : Int)), (2, ii 1)]) dm_X12_isAmending_134 (y_incp (a := dp) (c := 1) rfl rfl (by decide)) rfl ?_
                  refine me2 (pc' := 78) (S' := []) dm_X12_isAmending_137 rfl rfl rfl ?_
                  exact pg_sub (L := [(0, .ref 102), (1, ii (ln : Int)), (2, ii 1), (3, ii (dp + 1))]) rfl rfl rfl (jn78 (dp + 1) (opD_o (Or.inl hb10)))
                · replace hb10 := dF hb10
                  refine me1 (pc' := 117) (L' := [(0, .ref 102), (1, ii (ln : Int)), (2, ii 1), (3, ii dp)]) (S' := [.ref 102]) dm_X12_isAmending_116 rfl rfl rfl rfl ?_
                  refine me0 (pc' := 119) (S' := [ii 91, .ref 102]) dm_X12_isAmending_117 rfl rfl rfl rfl ?_
                  refine x_cp (pc' := 122) (v := zz (decide (isMk T (a + 1) 91))) (rest := []) dm_X12_isAmending_119 rfl (q_inv (As := [ii 91]) (S := []) hm rfl rfl rfl) rfl rfl rfl (r_mkd_ (i := a + 1) hm (by omega) hT hK uD (by omega)) ?_
                  refine y_zne (c := decide (isMk T (a + 1) 91)) (t := 134) (pc' := 125) dm_X12_isAmending_122 rfl rfl (fun hb11 => ?_) (fun hb11 => ?_)
                  · replace hb11 := dT hb11
                    refine y_iinc (pc' := 137) (L' := [(3, ii (dp + 1)), (0, .ref 102), (1, ii (ln : Int)), (2, ii 1)]) dm_X12_isAmending_134 (y_incp (a := dp) (c := 1) rfl rfl (by decide)) rfl ?_
                    refine me2 (pc' := 78) (S' := []) dm_X12_isAmending_137 rfl rfl rfl ?_
                    exact pg_sub (L := [(0, .ref 102), (1, ii (ln : Int)), (2, ii 1), (3, ii (dp + 1))]) rfl rfl rfl (jn78 (dp + 1) (opD_o (Or.inr (Or.inl hb11))))
                  · replace hb11 := dF hb11
                    refine me1 (pc' := 126) (L' := [(0, .ref 102), (1, ii (ln : Int)), (2, ii 1), (3, ii dp)]) (S' := [.ref 102]) dm_X12_isAmending_125 rfl rfl rfl rfl ?_
                    refine me0 (pc' := 128) (S' := [ii 123, .ref 102]) dm_X12_isAmending_126 rfl rfl rfl rfl ?_
                    refine x_cp (pc' := 131) (v := zz (decide (isMk T (a + 1) 123))) (rest := []) dm_X12_isAmending_128 rfl (q_inv (As := [ii 123]) (S := []) hm rfl rfl rfl) rfl rfl rfl (r_mkd_ (i := a + 1) hm (by omega) hT hK uD (by omega)) ?_
                    refine y_zeq (c := decide (isMk T (a + 1) 123)) (t := 140) (pc' := 134) dm_X12_isAmending_131 rfl rfl (fun hb12 => ?_) (fun hb12 => ?_)
                    · replace hb12 := dF hb12
                      refine me1 (pc' := 141) (L' := [(0, .ref 102), (1, ii (ln : Int)), (2, ii 1), (3, ii dp)]) (S' := [.ref 102]) dm_X12_isAmending_140 rfl rfl rfl rfl ?_
                      refine me0 (pc' := 143) (S' := [ii 41, .ref 102]) dm_X12_isAmending_141 rfl rfl rfl rfl ?_
                      refine x_cp (pc' := 146) (v := zz (decide (isMk T (a + 1) 41))) (rest := []) dm_X12_isAmending_143 rfl (q_inv (As := [ii 41]) (S := []) hm rfl rfl rfl) rfl rfl rfl (r_mkd_ (i := a + 1) hm (by omega) hT hK uD (by omega)) ?_
                      refine y_zne (c := decide (isMk T (a + 1) 41)) (t := 167) (pc' := 149) dm_X12_isAmending_146 rfl rfl (fun hb13 => ?_) (fun hb13 => ?_)
                      · replace hb13 := dT hb13
                        refine y_iinc (pc' := 170) (L' := [(3, ii (dp + (-1))), (0, .ref 102), (1, ii (ln : Int)), (2, ii 1)]) dm_X12_isAmending_167 (y_incp (a := dp) (c := (-1)) rfl rfl (by decide)) rfl ?_
                        refine me2 (pc' := 78) (S' := []) dm_X12_isAmending_170 rfl rfl rfl ?_
                        exact pg_sub (L := [(0, .ref 102), (1, ii (ln : Int)), (2, ii 1), (3, ii (dp + (-1)))]) rfl rfl rfl (jn78 (dp + (-1)) (opD_c (fun z => z.elim hb10 (fun z => z.elim hb11 hb12)) (Or.inl hb13)))
                      · replace hb13 := dF hb13
                        refine me1 (pc' := 150) (L' := [(0, .ref 102), (1, ii (ln : Int)), (2, ii 1), (3, ii dp)]) (S' := [.ref 102]) dm_X12_isAmending_149 rfl rfl rfl rfl ?_
                        refine me0 (pc' := 152) (S' := [ii 93, .ref 102]) dm_X12_isAmending_150 rfl rfl rfl rfl ?_
                        refine x_cp (pc' := 155) (v := zz (decide (isMk T (a + 1) 93))) (rest := []) dm_X12_isAmending_152 rfl (q_inv (As := [ii 93]) (S := []) hm rfl rfl rfl) rfl rfl rfl (r_mkd_ (i := a + 1) hm (by omega) hT hK uD (by omega)) ?_
                        refine y_zne (c := decide (isMk T (a + 1) 93)) (t := 167) (pc' := 158) dm_X12_isAmending_155 rfl rfl (fun hb14 => ?_) (fun hb14 => ?_)
                        · replace hb14 := dT hb14
                          refine y_iinc (pc' := 170) (L' := [(3, ii (dp + (-1))), (0, .ref 102), (1, ii (ln : Int)), (2, ii 1)]) dm_X12_isAmending_167 (y_incp (a := dp) (c := (-1)) rfl rfl (by decide)) rfl ?_
                          refine me2 (pc' := 78) (S' := []) dm_X12_isAmending_170 rfl rfl rfl ?_
                          exact pg_sub (L := [(0, .ref 102), (1, ii (ln : Int)), (2, ii 1), (3, ii (dp + (-1)))]) rfl rfl rfl (jn78 (dp + (-1)) (opD_c (fun z => z.elim hb10 (fun z => z.elim hb11 hb12)) (Or.inr (Or.inl hb14))))
                        · replace hb14 := dF hb14
                          refine me1 (pc' := 159) (L' := [(0, .ref 102), (1, ii (ln : Int)), (2, ii 1), (3, ii dp)]) (S' := [.ref 102]) dm_X12_isAmending_158 rfl rfl rfl rfl ?_
                          refine me0 (pc' := 161) (S' := [ii 125, .ref 102]) dm_X12_isAmending_159 rfl rfl rfl rfl ?_
                          refine x_cp (pc' := 164) (v := zz (decide (isMk T (a + 1) 125))) (rest := []) dm_X12_isAmending_161 rfl (q_inv (As := [ii 125]) (S := []) hm rfl rfl rfl) rfl rfl rfl (r_mkd_ (i := a + 1) hm (by omega) hT hK uD (by omega)) ?_
                          refine y_zeq (c := decide (isMk T (a + 1) 125)) (t := 78) (pc' := 167) dm_X12_isAmending_164 rfl rfl (fun hb15 => ?_) (fun hb15 => ?_)
                          · replace hb15 := dF hb15
                            exact pg_sub (L := [(0, .ref 102), (1, ii (ln : Int)), (2, ii 1), (3, ii dp)]) rfl rfl rfl (jn78 dp (opD_n (fun z => z.elim hb10 (fun z => z.elim hb11 hb12)) (fun z => z.elim hb13 (fun z => z.elim hb14 hb15))))
                          · replace hb15 := dT hb15
                            refine y_iinc (pc' := 170) (L' := [(3, ii (dp + (-1))), (0, .ref 102), (1, ii (ln : Int)), (2, ii 1)]) dm_X12_isAmending_167 (y_incp (a := dp) (c := (-1)) rfl rfl (by decide)) rfl ?_
                            refine me2 (pc' := 78) (S' := []) dm_X12_isAmending_170 rfl rfl rfl ?_
                            exact pg_sub (L := [(0, .ref 102), (1, ii (ln : Int)), (2, ii 1), (3, ii (dp + (-1)))]) rfl rfl rfl (jn78 (dp + (-1)) (opD_c (fun z => z.elim hb10 (fun z => z.elim hb11 hb12)) (Or.inr (Or.inr hb15))))
                    · replace hb12 := dT hb12
                      refine y_iinc (pc' := 137) (L' := [(3, ii (dp + 1)), (0, .ref 102), (1, ii (ln : Int)), (2, ii 1)]) dm_X12_isAmending_134 (y_incp (a := dp) (c := 1) rfl rfl (by decide)) rfl ?_
                      refine me2 (pc' := 78) (S' := []) dm_X12_isAmending_137 rfl rfl rfl ?_
                      exact pg_sub (L := [(0, .ref 102), (1, ii (ln : Int)), (2, ii 1), (3, ii (dp + 1))]) rfl rfl rfl (jn78 (dp + 1) (opD_o (Or.inr (Or.inr hb12))))
              · refine me0 (pc' := 103) (S' := [ii (-1)]) dm_X12_isAmending_102 rfl rfl rfl rfl ?_
                refine me1 (pc' := 104) (L' := [(3, ii (-1)), (0, .ref 102), (1, ii (ln : Int)), (2, ii 1)]) (S' := []) dm_X12_isAmending_103 rfl rfl rfl rfl ?_
                refine me2 (pc' := 78) (S' := []) dm_X12_isAmending_104 rfl rfl rfl ?_
                refine me1 (pc' := 79) (L' := [(3, ii (-1)), (0, .ref 102), (1, ii (ln : Int)), (2, ii 1)]) (S' := [ii (-1)]) dm_X12_isAmending_78 rfl rfl rfl rfl ?_
                refine me_1t (pc' := 173) dm_X12_isAmending_79 rfl (by decide) ?_
                refine me1 (pc' := 174) (L' := [(3, ii (-1)), (0, .ref 102), (1, ii (ln : Int)), (2, ii 1)]) (S' := [ii 1]) dm_X12_isAmending_173 rfl rfl rfl rfl ?_
                refine me_1f (pc' := 177) dm_X12_isAmending_174 rfl (by decide) rfl ?_
                refine me1 (pc' := 178) (L' := [(3, ii (-1)), (0, .ref 102), (1, ii (ln : Int)), (2, ii 1)]) (S' := [ii (-1)]) dm_X12_isAmending_177 rfl rfl rfl rfl ?_
                refine me_1t (pc' := 185) dm_X12_isAmending_178 rfl (by decide) ?_
                refine me1 (pc' := 186) (L' := [(3, ii (-1)), (0, .ref 102), (1, ii (ln : Int)), (2, ii 1)]) (S' := [ii 1]) dm_X12_isAmending_185 rfl rfl rfl rfl ?_
                refine me_1f (pc' := 189) dm_X12_isAmending_186 rfl (by decide) rfl ?_
                refine me1 (pc' := 190) (L' := [(3, ii (-1)), (0, .ref 102), (1, ii (ln : Int)), (2, ii 1)]) (S' := [ii (-1)]) dm_X12_isAmending_189 rfl rfl rfl rfl ?_
                refine me_1t (pc' := 206) dm_X12_isAmending_190 rfl (by decide) ?_
                refine me0 (pc' := 207) (S' := [ii 0]) dm_X12_isAmending_206 rfl rfl rfl rfl ?_
                refine me1 (pc' := 208) (L' := [(2, ii 0), (3, ii (-1)), (0, .ref 102), (1, ii (ln : Int))]) (S' := []) dm_X12_isAmending_207 rfl rfl rfl rfl ?_
                refine me1 (pc' := 209) (L' := [(2, ii 0), (3, ii (-1)), (0, .ref 102), (1, ii (ln : Int))]) (S' := [.ref 102]) dm_X12_isAmending_208 rfl rfl rfl rfl ?_
                refine me1 (pc' := 210) (L' := [(2, ii 0), (3, ii (-1)), (0, .ref 102), (1, ii (ln : Int))]) (S' := [ii (ln : Int), .ref 102]) dm_X12_isAmending_209 rfl rfl rfl rfl ?_
                refine x_cn (pc' := 213) (rest := []) dm_X12_isAmending_210 rfl (q_inv (As := [ii (ln : Int)]) (S := []) hm rfl rfl rfl) rfl rfl rfl (r_begin_ (s := u) (hi := hi) hm (by omega) (TN_k (rbF_tr zF (rbF_tk hku)) hTN) (fun j hj => FNp_k (s := beS s) (by rw [show (beS u).2.2.2 20 = u.2.2.2 20 from rfl, (rbF_tr zF (rbF_tk hku)).1]; rfl) rfl (hFN j hj))) ?_
                rintro _ ⟨w, rfl, hBG⟩
                refine me1 (pc' := 214) (L' := [(2, ii 0), (3, ii (-1)), (0, .ref 102), (1, ii (ln : Int))]) (S' := [ii 0]) dm_X12_isAmending_213 rfl rfl rfl rfl ?_
                refine y_ret (r := some (ii 0)) dm_X12_isAmending_214 rfl rfl rfl ?_
                refine ⟨_, rfl, zf (fun z => ?_), w, rfl, hBG.1, hBG.2.1, hBG.2.2.1, hBG.2.2.2.1, rbF_tr (rbF_tr zF (rbF_tk hku)) hBG.2.2.2.2⟩
                have z2 := z.2
                rw [isAm_t ⟨h64.1, h64.2, h40⟩ (zA.trans (aoB_e (i := a + 1) (by omega) (by omega)))] at z2
                cases z2
        exact pg_sub (L := [(0, .ref 102), (1, ii (ln : Int)), (2, ii 1), (3, ii 1)]) rfl rfl rfl (lp82 _ 2 1 t2 rfl t2D hF2 ⟨by decide, by omega, by decide, by decide⟩ (aoB_2 h40))
  · refine me1 (pc' := 9) (L' := [(0, .ref 102), (1, ii (ln : Int))]) (S' := [.ref 102]) dm_X12_isAmending_8 rfl rfl rfl rfl ?_
    refine me3 (pc' := 12) (S' := [ii (s.1 38)]) dm_X12_isAmending_9 (q_geti (v := s.1 38) hm rfl (fun m i l => rg_38 m i l) rfl) rfl rfl rfl ?_
    refine me0 (pc' := 13) (S' := [ii 4, ii (s.1 38)]) dm_X12_isAmending_12 rfl rfl rfl rfl ?_
    refine y_2ne (a := s.1 38) (b := 4) (t := 20) (pc' := 16) dm_X12_isAmending_13 rfl rfl (by omega) (fun hb16 => ?_) (fun hb16 => ?_)
    · refine me0 (pc' := 21) (S' := [ii 0]) dm_X12_isAmending_20 rfl rfl rfl rfl ?_
      refine me1 (pc' := 22) (L' := [(2, ii 0), (0, .ref 102), (1, ii (ln : Int))]) (S' := []) dm_X12_isAmending_21 rfl rfl rfl rfl ?_
      refine me1 (pc' := 23) (L' := [(2, ii 0), (0, .ref 102), (1, ii (ln : Int))]) (S' := [.ref 102]) dm_X12_isAmending_22 rfl rfl rfl rfl ?_
      refine x_cn (pc' := 26) (rest := []) dm_X12_isAmending_23 rfl (q_inv (As := []) (S := []) hm rfl rfl rfl) rfl rfl rfl (r_nxt (s := s) (i := 0) hm (by omega) hR (by omega)) ?_
      rintro _ ⟨t1, rfl, hk1, t1D⟩
      have hF1 := rbF_tk hk1
      obtain ⟨b38, b8, b40⟩ := RD_s hT hK t1D
      clear b40
      refine me1 (pc' := 27) (L' := [(2, ii 0), (0, .ref 102), (1, ii (ln : Int))]) (S' := [ii 0]) dm_X12_isAmending_26 rfl rfl rfl rfl ?_
      refine me_1t (pc' := 43) dm_X12_isAmending_27 rfl (by decide) ?_
      refine me0 (pc' := 44) (S' := [ii 0]) dm_X12_isAmending_43 rfl rfl rfl rfl ?_
      refine me1 (pc' := 45) (L' := [(2, ii 0), (0, .ref 102), (1, ii (ln : Int))]) (S' := []) dm_X12_isAmending_44 rfl rfl rfl rfl ?_
      refine me1 (pc' := 46) (L' := [(2, ii 0), (0, .ref 102), (1, ii (ln : Int))]) (S' := [.ref 102]) dm_X12_isAmending_45 rfl rfl rfl rfl ?_
      refine x_cn (pc' := 49) (rest := []) dm_X12_isAmending_46 rfl (q_inv (As := []) (S := []) hm rfl rfl rfl) rfl rfl rfl (r_nxt (s := t1) (i := 1) hm (by omega) t1D (by omega)) ?_
      rintro _ ⟨t2, rfl, hk2, t2D⟩
      have hF2 := rbF_tr hF1 (rbF_tk hk2)
      refine me1 (pc' := 50) (L' := [(2, ii 0), (0, .ref 102), (1, ii (ln : Int))]) (S' := [ii 0]) dm_X12_isAmending_49 rfl rfl rfl rfl ?_
      refine me_1t (pc' := 66) dm_X12_isAmending_50 rfl (by decide) ?_
      refine me0 (pc' := 67) (S' := [ii 0]) dm_X12_isAmending_66 rfl rfl rfl rfl ?_
      refine me1 (pc' := 68) (L' := [(2, ii 0), (0, .ref 102), (1, ii (ln : Int))]) (S' := []) dm_X12_isAmending_67 rfl rfl rfl rfl ?_
      refine me1 (pc' := 69) (L' := [(2, ii 0), (0, .ref 102), (1, ii (ln : Int))]) (S' := [ii 0]) dm_X12_isAmending_68 rfl rfl rfl rfl ?_
      refine me_1t (pc' := 76) dm_X12_isAmending_69 rfl (by decide) ?_
      refine me0 (pc' := 77) (S' := [ii 0]) dm_X12_isAmending_76 rfl rfl rfl rfl ?_
      refine me1 (pc' := 78) (L' := [(3, ii 0), (2, ii 0), (0, .ref 102), (1, ii (ln : Int))]) (S' := []) dm_X12_isAmending_77 rfl rfl rfl rfl ?_
      refine me1 (pc' := 79) (L' := [(3, ii 0), (2, ii 0), (0, .ref 102), (1, ii (ln : Int))]) (S' := [ii 0]) dm_X12_isAmending_78 rfl rfl rfl rfl ?_
      refine me_1t (pc' := 173) dm_X12_isAmending_79 rfl (by decide) ?_
      refine me1 (pc' := 174) (L' := [(3, ii 0), (2, ii 0), (0, .ref 102), (1, ii (ln : Int))]) (S' := [ii 0]) dm_X12_isAmending_173 rfl rfl rfl rfl ?_
      refine me_1t (pc' := 185) dm_X12_isAmending_174 rfl (by decide) ?_
      refine me1 (pc' := 186) (L' := [(3, ii 0), (2, ii 0), (0, .ref 102), (1, ii (ln : Int))]) (S' := [ii 0]) dm_X12_isAmending_185 rfl rfl rfl rfl ?_
      refine me_1t (pc' := 206) dm_X12_isAmending_186 rfl (by decide) ?_
      refine me0 (pc' := 207) (S' := [ii 0]) dm_X12_isAmending_206 rfl rfl rfl rfl ?_
      refine me1 (pc' := 208) (L' := [(2, ii 0), (3, ii 0), (0, .ref 102), (1, ii (ln : Int))]) (S' := []) dm_X12_isAmending_207 rfl rfl rfl rfl ?_
      refine me1 (pc' := 209) (L' := [(2, ii 0), (3, ii 0), (0, .ref 102), (1, ii (ln : Int))]) (S' := [.ref 102]) dm_X12_isAmending_208 rfl rfl rfl rfl ?_
      refine me1 (pc' := 210) (L' := [(2, ii 0), (3, ii 0), (0, .ref 102), (1, ii (ln : Int))]) (S' := [ii (ln : Int), .ref 102]) dm_X12_isAmending_209 rfl rfl rfl rfl ?_
      refine x_cn (pc' := 213) (rest := []) dm_X12_isAmending_210 rfl (q_inv (As := [ii (ln : Int)]) (S := []) hm rfl rfl rfl) rfl rfl rfl (r_begin_ (s := t2) (hi := hi) hm (by omega) (TN_k hF2 hTN) (fun j hj => FNp_k (s := beS s) (by rw [show (beS t2).2.2.2 20 = t2.2.2.2 20 from rfl, hF2.1]; rfl) rfl (hFN j hj))) ?_
      rintro _ ⟨w, rfl, hBG⟩
      refine me1 (pc' := 214) (L' := [(2, ii 0), (3, ii 0), (0, .ref 102), (1, ii (ln : Int))]) (S' := [ii 0]) dm_X12_isAmending_213 rfl rfl rfl rfl ?_
      refine y_ret (r := some (ii 0)) dm_X12_isAmending_214 rfl rfl rfl ?_
      refine ⟨_, rfl, zf (fun z => ?_), w, rfl, hBG.1, hBG.2.1, hBG.2.2.1, hBG.2.2.2.1, rbF_tr hF2 hBG.2.2.2.2⟩
      first | omega | (have z2 := z.2; rw [isAm_f (by omega)] at z2; cases z2)
    · refine me0 (pc' := 17) (S' := [ii 1]) dm_X12_isAmending_16 rfl rfl rfl rfl ?_
      refine me2 (pc' := 21) (S' := [ii 1]) dm_X12_isAmending_17 rfl rfl rfl ?_
      refine me1 (pc' := 22) (L' := [(2, ii 1), (0, .ref 102), (1, ii (ln : Int))]) (S' := []) dm_X12_isAmending_21 rfl rfl rfl rfl ?_
      refine me1 (pc' := 23) (L' := [(2, ii 1), (0, .ref 102), (1, ii (ln : Int))]) (S' := [.ref 102]) dm_X12_isAmending_22 rfl rfl rfl rfl ?_
      refine x_cn (pc' := 26) (rest := []) dm_X12_isAmending_23 rfl (q_inv (As := []) (S := []) hm rfl rfl rfl) rfl rfl rfl (r_nxt (s := s) (i := 0) hm (by omega) hR (by omega)) ?_
      rintro _ ⟨t1, rfl, hk1, t1D⟩
      have hF1 := rbF_tk hk1
      obtain ⟨b38, b8, b40⟩ := RD_s hT hK t1D
      clear b40
      refine me1 (pc' := 27) (L' := [(2, ii 1), (0, .ref 102), (1, ii (ln : Int))]) (S' := [ii 1]) dm_X12_isAmending_26 rfl rfl rfl rfl ?_
      refine me_1f (pc' := 30) dm_X12_isAmending_27 rfl (by decide) rfl ?_
      refine me1 (pc' := 31) (L' := [(2, ii 1), (0, .ref 102), (1, ii (ln : Int))]) (S' := [.ref 102]) dm_X12_isAmending_30 rfl rfl rfl rfl ?_
      refine me0 (pc' := 33) (S' := [ii 64, .ref 102]) dm_X12_isAmending_31 rfl rfl rfl rfl ?_
      refine x_cp (pc' := 36) (v := zz (decide (tqS (T 1) = 5 ∧ tqD (T 1) = 64))) (rest := []) dm_X12_isAmending_33 rfl (q_inv (As := [ii 64]) (S := []) hm rfl rfl rfl) rfl rfl rfl (r_vbd_ (i := 1) hm (by omega) hT hK t1D (by omega)) ?_
      refine y_zeq (c := decide (tqS (T 1) = 5 ∧ tqD (T 1) = 64)) (t := 43) (pc' := 39) dm_X12_isAmending_36 rfl rfl (fun hb17 => ?_) (fun hb17 => ?_)
      · replace hb17 := dF hb17
        have hn64 := hb17
        refine me0 (pc' := 44) (S' := [ii 0]) dm_X12_isAmending_43 rfl rfl rfl rfl ?_
        refine me1 (pc' := 45) (L' := [(2, ii 0), (0, .ref 102), (1, ii (ln : Int))]) (S' := []) dm_X12_isAmending_44 rfl rfl rfl rfl ?_
        refine me1 (pc' := 46) (L' := [(2, ii 0), (0, .ref 102), (1, ii (ln : Int))]) (S' := [.ref 102]) dm_X12_isAmending_45 rfl rfl rfl rfl ?_
        refine x_cn (pc' := 49) (rest := []) dm_X12_isAmending_46 rfl (q_inv (As := []) (S := []) hm rfl rfl rfl) rfl rfl rfl (r_nxt (s := t1) (i := 1) hm (by omega) t1D (by omega)) ?_
        rintro _ ⟨t2, rfl, hk2, t2D⟩
        have hF2 := rbF_tr hF1 (rbF_tk hk2)
        refine me1 (pc' := 50) (L' := [(2, ii 0), (0, .ref 102), (1, ii (ln : Int))]) (S' := [ii 0]) dm_X12_isAmending_49 rfl rfl rfl rfl ?_
        refine me_1t (pc' := 66) dm_X12_isAmending_50 rfl (by decide) ?_
        refine me0 (pc' := 67) (S' := [ii 0]) dm_X12_isAmending_66 rfl rfl rfl rfl ?_
        refine me1 (pc' := 68) (L' := [(2, ii 0), (0, .ref 102), (1, ii (ln : Int))]) (S' := []) dm_X12_isAmending_67 rfl rfl rfl rfl ?_
        refine me1 (pc' := 69) (L' := [(2, ii 0), (0, .ref 102), (1, ii (ln : Int))]) (S' := [ii 0]) dm_X12_isAmending_68 rfl rfl rfl rfl ?_
        refine me_1t (pc' := 76) dm_X12_isAmending_69 rfl (by decide) ?_
        refine me0 (pc' := 77) (S' := [ii 0]) dm_X12_isAmending_76 rfl rfl rfl rfl ?_
        refine me1 (pc' := 78) (L' := [(3, ii 0), (2, ii 0), (0, .ref 102), (1, ii (ln : Int))]) (S' := []) dm_X12_isAmending_77 rfl rfl rfl rfl ?_
        refine me1 (pc' := 79) (L' := [(3, ii 0), (2, ii 0), (0, .ref 102), (1, ii (ln : Int))]) (S' := [ii 0]) dm_X12_isAmending_78 rfl rfl rfl rfl ?_
        refine me_1t (pc' := 173) dm_X12_isAmending_79 rfl (by decide) ?_
        refine me1 (pc' := 174) (L' := [(3, ii 0), (2, ii 0), (0, .ref 102), (1, ii (ln : Int))]) (S' := [ii 0]) dm_X12_isAmending_173 rfl rfl rfl rfl ?_
        refine me_1t (pc' := 185) dm_X12_isAmending_174 rfl (by decide) ?_
        refine me1 (pc' := 186) (L' := [(3, ii 0), (2, ii 0), (0, .ref 102), (1, ii (ln : Int))]) (S' := [ii 0]) dm_X12_isAmending_185 rfl rfl rfl rfl ?_
        refine me_1t (pc' := 206) dm_X12_isAmending_186 rfl (by decide) ?_
        refine me0 (pc' := 207) (S' := [ii 0]) dm_X12_isAmending_206 rfl rfl rfl rfl ?_
        refine me1 (pc' := 208) (L' := [(2, ii 0), (3, ii 0), (0, .ref 102), (1, ii (ln : Int))]) (S' := []) dm_X12_isAmending_207 rfl rfl rfl rfl ?_
        refine me1 (pc' := 209) (L' := [(2, ii 0), (3, ii 0), (0, .ref 102), (1, ii (ln : Int))]) (S' := [.ref 102]) dm_X12_isAmending_208 rfl rfl rfl rfl ?_
        refine me1 (pc' := 210) (L' := [(2, ii 0), (3, ii 0), (0, .ref 102), (1, ii (ln : Int))]) (S' := [ii (ln : Int), .ref 102]) dm_X12_isAmending_209 rfl rfl rfl rfl ?_
        refine x_cn (pc' := 213) (rest := []) dm_X12_isAmending_210 rfl (q_inv (As := [ii (ln : Int)]) (S := []) hm rfl rfl rfl) rfl rfl rfl (r_begin_ (s := t2) (hi := hi) hm (by omega) (TN_k hF2 hTN) (fun j hj => FNp_k (s := beS s) (by rw [show (beS t2).2.2.2 20 = t2.2.2.2 20 from rfl, hF2.1]; rfl) rfl (hFN j hj))) ?_
        rintro _ ⟨w, rfl, hBG⟩
        refine me1 (pc' := 214) (L' := [(2, ii 0), (3, ii 0), (0, .ref 102), (1, ii (ln : Int))]) (S' := [ii 0]) dm_X12_isAmending_213 rfl rfl rfl rfl ?_
        refine y_ret (r := some (ii 0)) dm_X12_isAmending_214 rfl rfl rfl ?_
        refine ⟨_, rfl, zf (fun z => ?_), w, rfl, hBG.1, hBG.2.1, hBG.2.2.1, hBG.2.2.2.1, rbF_tr hF2 hBG.2.2.2.2⟩
        first | omega | (have z2 := z.2; rw [isAm_f (by omega)] at z2; cases z2)
      · replace hb17 := dT hb17
        have h64 := hb17
        refine me0 (pc' := 40) (S' := [ii 1]) dm_X12_isAmending_39 rfl rfl rfl rfl ?_
        refine me2 (pc' := 44) (S' := [ii 1]) dm_X12_isAmending_40 rfl rfl rfl ?_
        refine me1 (pc' := 45) (L' := [(2, ii 1), (0, .ref 102), (1, ii (ln : Int))]) (S' := []) dm_X12_isAmending_44 rfl rfl rfl rfl ?_
        refine me1 (pc' := 46) (L' := [(2, ii 1), (0, .ref 102), (1, ii (ln : Int))]) (S' := [.ref 102]) dm_X12_isAmending_45 rfl rfl rfl rfl ?_
        refine x_cn (pc' := 49) (rest := []) dm_X12_isAmending_46 rfl (q_inv (As := []) (S := []) hm rfl rfl rfl) rfl rfl rfl (r_nxt (s := t1) (i := 1) hm (by omega) t1D (by omega)) ?_
        rintro _ ⟨t2, rfl, hk2, t2D⟩
        have hF2 := rbF_tr hF1 (rbF_tk hk2)
        refine me1 (pc' := 50) (L' := [(2, ii 1), (0, .ref 102), (1, ii (ln : Int))]) (S' := [ii 1]) dm_X12_isAmending_49 rfl rfl rfl rfl ?_
        refine me_1f (pc' := 53) dm_X12_isAmending_50 rfl (by decide) rfl ?_
        refine me1 (pc' := 54) (L' := [(2, ii 1), (0, .ref 102), (1, ii (ln : Int))]) (S' := [.ref 102]) dm_X12_isAmending_53 rfl rfl rfl rfl ?_
        refine me0 (pc' := 56) (S' := [ii 40, .ref 102]) dm_X12_isAmending_54 rfl rfl rfl rfl ?_
        refine x_cp (pc' := 59) (v := zz (decide (isMk T 2 40))) (rest := []) dm_X12_isAmending_56 rfl (q_inv (As := [ii 40]) (S := []) hm rfl rfl rfl) rfl rfl rfl (r_mkd_ (i := 2) hm (by omega) hT hK t2D (by omega)) ?_
        refine y_zeq (c := decide (isMk T 2 40)) (t := 66) (pc' := 62) dm_X12_isAmending_59 rfl rfl (fun hb18 => ?_) (fun hb18 => ?_)
        · replace hb18 := dF hb18
          have hn40 := hb18
          refine me0 (pc' := 67) (S' := [ii 0]) dm_X12_isAmending_66 rfl rfl rfl rfl ?_
          refine me1 (pc' := 68) (L' := [(2, ii 0), (0, .ref 102), (1, ii (ln : Int))]) (S' := []) dm_X12_isAmending_67 rfl rfl rfl rfl ?_
          refine me1 (pc' := 69) (L' := [(2, ii 0), (0, .ref 102), (1, ii (ln : Int))]) (S' := [ii 0]) dm_X12_isAmending_68 rfl rfl rfl rfl ?_
          refine me_1t (pc' := 76) dm_X12_isAmending_69 rfl (by decide) ?_
          refine me0 (pc' := 77) (S' := [ii 0]) dm_X12_isAmending_76 rfl rfl rfl rfl ?_
          refine me1 (pc' := 78) (L' := [(3, ii 0), (2, ii 0), (0, .ref 102), (1, ii (ln : Int))]) (S' := []) dm_X12_isAmending_77 rfl rfl rfl rfl ?_
          refine me1 (pc' := 79) (L' := [(3, ii 0), (2, ii 0), (0, .ref 102), (1, ii (ln : Int))]) (S' := [ii 0]) dm_X12_isAmending_78 rfl rfl rfl rfl ?_
          refine me_1t (pc' := 173) dm_X12_isAmending_79 rfl (by decide) ?_
          refine me1 (pc' := 174) (L' := [(3, ii 0), (2, ii 0), (0, .ref 102), (1, ii (ln : Int))]) (S' := [ii 0]) dm_X12_isAmending_173 rfl rfl rfl rfl ?_
          refine me_1t (pc' := 185) dm_X12_isAmending_174 rfl (by decide) ?_
          refine me1 (pc' := 186) (L' := [(3, ii 0), (2, ii 0), (0, .ref 102), (1, ii (ln : Int))]) (S' := [ii 0]) dm_X12_isAmending_185 rfl rfl rfl rfl ?_
          refine me_1t (pc' := 206) dm_X12_isAmending_186 rfl (by decide) ?_
          refine me0 (pc' := 207) (S' := [ii 0]) dm_X12_isAmending_206 rfl rfl rfl rfl ?_
          refine me1 (pc' := 208) (L' := [(2, ii 0), (3, ii 0), (0, .ref 102), (1, ii (ln : Int))]) (S' := []) dm_X12_isAmending_207 rfl rfl rfl rfl ?_
          refine me1 (pc' := 209) (L' := [(2, ii 0), (3, ii 0), (0, .ref 102), (1, ii (ln : Int))]) (S' := [.ref 102]) dm_X12_isAmending_208 rfl rfl rfl rfl ?_
          refine me1 (pc' := 210) (L' := [(2, ii 0), (3, ii 0), (0, .ref 102), (1, ii (ln : Int))]) (S' := [ii (ln : Int), .ref 102]) dm_X12_isAmending_209 rfl rfl rfl rfl ?_
          refine x_cn (pc' := 213) (rest := []) dm_X12_isAmending_210 rfl (q_inv (As := [ii (ln : Int)]) (S := []) hm rfl rfl rfl) rfl rfl rfl (r_begin_ (s := t2) (hi := hi) hm (by omega) (TN_k hF2 hTN) (fun j hj => FNp_k (s := beS s) (by rw [show (beS t2).2.2.2 20 = t2.2.2.2 20 from rfl, hF2.1]; rfl) rfl (hFN j hj))) ?_
          rintro _ ⟨w, rfl, hBG⟩
          refine me1 (pc' := 214) (L' := [(2, ii 0), (3, ii 0), (0, .ref 102), (1, ii (ln : Int))]) (S' := [ii 0]) dm_X12_isAmending_213 rfl rfl rfl rfl ?_
          refine y_ret (r := some (ii 0)) dm_X12_isAmending_214 rfl rfl rfl ?_
          refine ⟨_, rfl, zf (fun z => ?_), w, rfl, hBG.1, hBG.2.1, hBG.2.2.1, hBG.2.2.2.1, rbF_tr hF2 hBG.2.2.2.2⟩
          first | omega | (have z2 := z.2; rw [isAm_f (by omega)] at z2; cases z2)
        · replace hb18 := dT hb18
          have h40 := hb18
          refine me0 (pc' := 63) (S' := [ii 1]) dm_X12_isAmending_62 rfl rfl rfl rfl ?_
          refine me2 (pc' := 67) (S' := [ii 1]) dm_X12_isAmending_63 rfl rfl rfl ?_
          refine me1 (pc' := 68) (L' := [(2, ii 1), (0, .ref 102), (1, ii (ln : Int))]) (S' := []) dm_X12_isAmending_67 rfl rfl rfl rfl ?_
          refine me1 (pc' := 69) (L' := [(2, ii 1), (0, .ref 102), (1, ii (ln : Int))]) (S' := [ii 1]) dm_X12_isAmending_68 rfl rfl rfl rfl ?_
          refine me_1f (pc' := 72) dm_X12_isAmending_69 rfl (by decide) rfl ?_
          have hmk2 := TOKS_lt hK (i := 2) (by have := h40.1; omega)
          refine me0 (pc' := 73) (S' := [ii 1]) dm_X12_isAmending_72 rfl rfl rfl rfl ?_
          refine me2 (pc' := 77) (S' := [ii 1]) dm_X12_isAmending_73 rfl rfl rfl ?_
          refine me1 (pc' := 78) (L' := [(3, ii 1), (2, ii 1), (0, .ref 102), (1, ii (ln : Int))]) (S' := []) dm_X12_isAmending_77 rfl rfl rfl rfl ?_
          refine me1 (pc' := 79) (L' := [(3, ii 1), (2, ii 1), (0, .ref 102), (1, ii (ln : Int))]) (S' := [ii 1]) dm_X12_isAmending_78 rfl rfl rfl rfl ?_
          refine me_1f (pc' := 82) dm_X12_isAmending_79 rfl (by decide) rfl ?_
          have lp82 : ∀ (n82 : Nat) (a : Nat) (dp : Int) (z : RS), mk - a = n82 → (RD bf ln F n m hi2 z a) → (rbF s z) → (2 ≤ a ∧ a < mk ∧ 1 ≤ dp ∧ dp ≤ a) → (aoB T 200 2 0 = aoB T (202 - (a + 1)) (a + 1) dp) → pgE xt (d - 1) 12 4 false (Option.some Jvm.ClassFile.FieldType.boolean) (mj_dec prog_14_method_90_code) 82 [(0, .ref 102), (1, ii (ln : Int)), (2, ii 1), (3, ii dp)] [] (rI pre post z.1 z.2.1 z.2.2.1 z.2.2.2) (fun r h' => ∃ x, r = some x ∧ x = zz (decide ((tqS (T 0) = 3 ∨ tqS (T 0) = 4) ∧ isAm T = true)) ∧ ∃ t, h' = rS pre post t ∧ BG bf ln F n m hi s t) := by
            intro n82
            induction n82 using Nat.strongRecOn with
            | ind n82 ih82 =>
              intro a dp z hm82 zD zF za zA
              refine me1 (pc' := 83) (L' := [(0, .ref 102), (1, ii (ln : Int)), (2, ii 1), (3, ii dp)]) (S' := [.ref 102]) dm_X12_isAmending_82 rfl rfl rfl rfl ?_
              refine x_cn (pc' := 86) (rest := []) dm_X12_isAmending_83 rfl (q_inv (As := []) (S := []) hm rfl rfl rfl) rfl rfl rfl (r_nxt (s := z) (i := a) hm (by omega) zD (by omega)) ?_
              rintro _ ⟨u, rfl, hku, uD⟩
              obtain ⟨u38, u8, u40⟩ := RD_s hT hK uD
              clear u40
              have hor := opD_r T (a + 1) dp
              refine me1 (pc' := 87) (L' := [(0, .ref 102), (1, ii (ln : Int)), (2, ii 1), (3, ii dp)]) (S' := [.ref 102]) dm_X12_isAmending_86 rfl rfl rfl rfl ?_
              refine me3 (pc' := 90) (S' := [ii (u.1 38)]) dm_X12_isAmending_87 (q_geti (v := u.1 38) hm rfl (fun m i l => rg_38 m i l) rfl) rfl rfl rfl ?_
              refine y_1eq (a := u.1 38) (t := 102) (pc' := 93) dm_X12_isAmending_90 rfl rfl (by omega) (fun hb19 => ?_) (fun hb19 => ?_)
              · refine me0 (pc' := 103) (S' := [ii (-1)]) dm_X12_isAmending_102 rfl rfl rfl rfl ?_
                refine me1 (pc' := 104) (L' := [(3, ii (-1)), (0, .ref 102), (1, ii (ln : Int)), (2, ii 1)]) (S' := []) dm_X12_isAmending_103 rfl rfl rfl rfl ?_
                refine me2 (pc' := 78) (S' := []) dm_X12_isAmending_104 rfl rfl rfl ?_
                refine me1 (pc' := 79) (L' := [(3, ii (-1)), (0, .ref 102), (1, ii (ln : Int)), (2, ii 1)]) (S' := [ii (-1)]) dm_X12_isAmending_78 rfl rfl rfl rfl ?_
                refine me_1t (pc' := 173) dm_X12_isAmending_79 rfl (by decide) ?_
                refine me1 (pc' := 174) (L' := [(3, ii (-1)), (0, .ref 102), (1, ii (ln : Int)), (2, ii 1)]) (S' := [ii 1]) dm_X12_isAmending_173 rfl rfl rfl rfl ?_
                refine me_1f (pc' := 177) dm_X12_isAmending_174 rfl (by decide) rfl ?_
                refine me1 (pc' := 178) (L' := [(3, ii (-1)), (0, .ref 102), (1, ii (ln : Int)), (2, ii 1)]) (S' := [ii (-1)]) dm_X12_isAmending_177 rfl rfl rfl rfl ?_
                refine me_1t (pc' := 185) dm_X12_isAmending_178 rfl (by decide) ?_
                refine me1 (pc' := 186) (L' := [(3, ii (-1)), (0, .ref 102), (1, ii (ln : Int)), (2, ii 1)]) (S' := [ii 1]) dm_X12_isAmending_185 rfl rfl rfl rfl ?_
                refine me_1f (pc' := 189) dm_X12_isAmending_186 rfl (by decide) rfl ?_
                refine me1 (pc' := 190) (L' := [(3, ii (-1)), (0, .ref 102), (1, ii (ln : Int)), (2, ii 1)]) (S' := [ii (-1)]) dm_X12_isAmending_189 rfl rfl rfl rfl ?_
                refine me_1t (pc' := 206) dm_X12_isAmending_190 rfl (by decide) ?_
                refine me0 (pc' := 207) (S' := [ii 0]) dm_X12_isAmending_206 rfl rfl rfl rfl ?_
                refine me1 (pc' := 208) (L' := [(2, ii 0), (3, ii (-1)), (0, .ref 102), (1, ii (ln : Int))]) (S' := []) dm_X12_isAmending_207 rfl rfl rfl rfl ?_
                refine me1 (pc' := 209) (L' := [(2, ii 0), (3, ii (-1)), (0, .ref 102), (1, ii (ln : Int))]) (S' := [.ref 102]) dm_X12_isAmending_208 rfl rfl rfl rfl ?_
                refine me1 (pc' := 210) (L' := [(2, ii 0), (3, ii (-1)), (0, .ref 102), (1, ii (ln : Int))]) (S' := [ii (ln : Int), .ref 102]) dm_X12_isAmending_209 rfl rfl rfl rfl ?_
                refine x_cn (pc' := 213) (rest := []) dm_X12_isAmending_210 rfl (q_inv (As := [ii (ln : Int)]) (S := []) hm rfl rfl rfl) rfl rfl rfl (r_begin_ (s := u) (hi := hi) hm (by omega) (TN_k (rbF_tr zF (rbF_tk hku)) hTN) (fun j hj => FNp_k (s := beS s) (by rw [show (beS u).2.2.2 20 = u.2.2.2 20 from rfl, (rbF_tr zF (rbF_tk hku)).1]; rfl) rfl (hFN j hj))) ?_
                rintro _ ⟨w, rfl, hBG⟩
                refine me1 (pc' := 214) (L' := [(2, ii 0), (3, ii (-1)), (0, .ref 102), (1, ii (ln : Int))]) (S' := [ii 0]) dm_X12_isAmending_213 rfl rfl rfl rfl ?_
                refine y_ret (r := some (ii 0)) dm_X12_isAmending_214 rfl rfl rfl ?_
                refine ⟨_, rfl, zf (fun z => ?_), w, rfl, hBG.1, hBG.2.1, hBG.2.2.1, hBG.2.2.2.1, rbF_tr (rbF_tr zF (rbF_tk hku)) hBG.2.2.2.2⟩
                have z2 := z.2
                rw [isAm_t ⟨h64.1, h64.2, h40⟩ (zA.trans (aoB_e (i := a + 1) (by omega) (by omega)))] at z2
                cases z2
              · refine me1 (pc' := 94) (L' := [(0, .ref 102), (1, ii (ln : Int)), (2, ii 1), (3, ii dp)]) (S' := [.ref 102]) dm_X12_isAmending_93 rfl rfl rfl rfl ?_
                refine me3 (pc' := 97) (S' := [ii (u.1 38)]) dm_X12_isAmending_94 (q_geti (v := u.1 38) hm rfl (fun m i l => rg_38 m i l) rfl) rfl rfl rfl ?_
                refine me0 (pc' := 99) (S' := [ii 8, ii (u.1 38)]) dm_X12_isAmending_97 rfl rfl rfl rfl ?_
                refine y_2ne (a := u.1 38) (b := 8) (t := 107) (pc' := 102) dm_X12_isAmending_99 rfl rfl (by omega) (fun hb20 => ?_) (fun hb20 => ?_)
                · have hs : ¬ (tqS (T (a + 1)) = 0 ∨ tqS (T (a + 1)) = 8) := by omega
                  have hlt : a + 1 < mk := Classical.byContradiction fun z => by have := hK.2.2.2.1 (a + 1) (by omega); have := hK.2.2.2.2.1; rw [← hK.2.2.2.1 (a + 1) (by omega)] at this; exact hs this
                  have jn78 : ∀ d1 : Int, d1 = opD T (a + 1) dp → pgE xt (d - 1) 12 4 false (Option.some Jvm.ClassFile.FieldType.boolean) (mj_dec prog_14_method_90_code) 78 [(0, .ref 102), (1, ii (ln : Int)), (2, ii 1), (3, ii d1)] [] (rI pre post u.1 u.2.1 u.2.2.1 u.2.2.2) (fun r h' => ∃ x, r = some x ∧ x = zz (decide ((tqS (T 0) = 3 ∨ tqS (T 0) = 4) ∧ isAm T = true)) ∧ ∃ t, h' = rS pre post t ∧ BG bf ln F n m hi s t) := by
                    intro d1 hd1
                    refine me1 (pc' := 79) (L' := [(0, .ref 102), (1, ii (ln : Int)), (2, ii 1), (3, ii d1)]) (S' := [ii d1]) dm_X12_isAmending_78 rfl rfl rfl rfl ?_
                    refine y_1le (a := d1) (t := 173) (pc' := 82) dm_X12_isAmending_79 rfl rfl (by omega) (fun hb21 => ?_) (fun hb21 => ?_)
                    · refine me1 (pc' := 174) (L' := [(0, .ref 102), (1, ii (ln : Int)), (2, ii 1), (3, ii d1)]) (S' := [ii 1]) dm_X12_isAmending_173 rfl rfl rfl rfl ?_
                      refine me_1f (pc' := 177) dm_X12_isAmending_174 rfl (by decide) rfl ?_
                      refine me1 (pc' := 178) (L' := [(0, .ref 102), (1, ii (ln : Int)), (2, ii 1), (3, ii d1)]) (S' := [ii d1]) dm_X12_isAmending_177 rfl rfl rfl rfl ?_
                      refine y_1ne (a := d1) (t := 185) (pc' := 181) dm_X12_isAmending_178 rfl rfl (by omega) (fun hb22 => ?_) (fun hb22 => ?_)
                      · exfalso; omega
                      · refine me1 (pc' := 182) (L' := [(0, .ref 102), (1, ii (ln : Int)), (2, ii 1), (3, ii d1)]) (S' := [.ref 102]) dm_X12_isAmending_181 rfl rfl rfl rfl ?_
                        refine x_cn (pc' := 185) (rest := []) dm_X12_isAmending_182 rfl (q_inv (As := []) (S := []) hm rfl rfl rfl) rfl rfl rfl (r_nxt (s := u) (i := a + 1) hm (by omega) uD (by omega)) ?_
                        rintro _ ⟨v, rfl, hkv, vD⟩
                        have hFv := rbF_tr (rbF_tr zF (rbF_tk hku)) (rbF_tk hkv)
                        refine me1 (pc' := 186) (L' := [(0, .ref 102), (1, ii (ln : Int)), (2, ii 1), (3, ii d1)]) (S' := [ii 1]) dm_X12_isAmending_185 rfl rfl rfl rfl ?_
                        refine me_1f (pc' := 189) dm_X12_isAmending_186 rfl (by decide) rfl ?_
                        refine me1 (pc' := 190) (L' := [(0, .ref 102), (1, ii (ln : Int)), (2, ii 1), (3, ii d1)]) (S' := [ii d1]) dm_X12_isAmending_189 rfl rfl rfl rfl ?_
                        refine y_1ne (a := d1) (t := 206) (pc' := 193) dm_X12_isAmending_190 rfl rfl (by omega) (fun hb23 => ?_) (fun hb23 => ?_)
                        · exfalso; omega
                        · refine me1 (pc' := 194) (L' := [(0, .ref 102), (1, ii (ln : Int)), (2, ii 1), (3, ii d1)]) (S' := [.ref 102]) dm_X12_isAmending_193 rfl rfl rfl rfl ?_
                          refine me0 (pc' := 196) (S' := [ii 58, .ref 102]) dm_X12_isAmending_194 rfl rfl rfl rfl ?_
                          refine x_cp (pc' := 199) (v := zz (decide (isMk T (a + 2) 58))) (rest := []) dm_X12_isAmending_196 rfl (q_inv (As := [ii 58]) (S := []) hm rfl rfl rfl) rfl rfl rfl (r_mkd_ (i := a + 2) hm (by omega) hT hK vD (by omega)) ?_
                          refine y_zeq (c := decide (isMk T (a + 2) 58)) (t := 206) (pc' := 202) dm_X12_isAmending_199 rfl rfl (fun hb24 => ?_) (fun hb24 => ?_)
                          · replace hb24 := dF hb24
                            have hn58 := hb24
                            refine me0 (pc' := 207) (S' := [ii 0]) dm_X12_isAmending_206 rfl rfl rfl rfl ?_
                            refine me1 (pc' := 208) (L' := [(2, ii 0), (0, .ref 102), (1, ii (ln : Int)), (3, ii d1)]) (S' := []) dm_X12_isAmending_207 rfl rfl rfl rfl ?_
                            refine me1 (pc' := 209) (L' := [(2, ii 0), (0, .ref 102), (1, ii (ln : Int)), (3, ii d1)]) (S' := [.ref 102]) dm_X12_isAmending_208 rfl rfl rfl rfl ?_
                            refine me1 (pc' := 210) (L' := [(2, ii 0), (0, .ref 102), (1, ii (ln : Int)), (3, ii d1)]) (S' := [ii (ln : Int), .ref 102]) dm_X12_isAmending_209 rfl rfl rfl rfl ?_
                            refine x_cn (pc' := 213) (rest := []) dm_X12_isAmending_210 rfl (q_inv (As := [ii (ln : Int)]) (S := []) hm rfl rfl rfl) rfl rfl rfl (r_begin_ (s := v) (hi := hi) hm (by omega) (TN_k hFv hTN) (fun j hj => FNp_k (s := beS s) (by rw [show (beS v).2.2.2 20 = v.2.2.2 20 from rfl, hFv.1]; rfl) rfl (hFN j hj))) ?_
                            rintro _ ⟨w, rfl, hBG⟩
                            refine me1 (pc' := 214) (L' := [(2, ii 0), (0, .ref 102), (1, ii (ln : Int)), (3, ii d1)]) (S' := [ii 0]) dm_X12_isAmending_213 rfl rfl rfl rfl ?_
                            refine y_ret (r := some (ii 0)) dm_X12_isAmending_214 rfl rfl rfl ?_
                            refine ⟨_, rfl, zf (fun z => ?_), w, rfl, hBG.1, hBG.2.1, hBG.2.2.1, hBG.2.2.2.1, rbF_tr hFv hBG.2.2.2.2⟩
                            have z2 := z.2
                            rw [isAm_t ⟨h64.1, h64.2, h40⟩ (zA.trans (aoB_c (i := a + 1) (by omega) hs hd1 (by omega)))] at z2
                            exact hn58 (of_decide_eq_true z2)
                          · replace hb24 := dT hb24
                            have h58 := hb24
                            refine me0 (pc' := 203) (S' := [ii 1]) dm_X12_isAmending_202 rfl rfl rfl rfl ?_
                            refine me2 (pc' := 207) (S' := [ii 1]) dm_X12_isAmending_203 rfl rfl rfl ?_
                            refine me1 (pc' := 208) (L' := [(2, ii 1), (0, .ref 102), (1, ii (ln : Int)), (3, ii d1)]) (S' := []) dm_X12_isAmending_207 rfl rfl rfl rfl ?_
                            refine me1 (pc' := 209) (L' := [(2, ii 1), (0, .ref 102), (1, ii (ln : Int)), (3, ii d1)]) (S' := [.ref 102]) dm_X12_isAmending_208 rfl rfl rfl rfl ?_
                            refine me1 (pc' := 210) (L' := [(2, ii 1), (0, .ref 102), (1, ii (ln : Int)), (3, ii d1)]) (S' := [ii (ln : Int), .ref 102]) dm_X12_isAmending_209 rfl rfl rfl rfl ?_
                            refine x_cn (pc' := 213) (rest := []) dm_X12_isAmending_210 rfl (q_inv (As := [ii (ln : Int)]) (S := []) hm rfl rfl rfl) rfl rfl rfl (r_begin_ (s := v) (hi := hi) hm (by omega) (TN_k hFv hTN) (fun j hj => FNp_k (s := beS s) (by rw [show (beS v).2.2.2 20 = v.2.2.2 20 from rfl, hFv.1]; rfl) rfl (hFN j hj))) ?_
                            rintro _ ⟨w, rfl, hBG⟩
                            refine me1 (pc' := 214) (L' := [(2, ii 1), (0, .ref 102), (1, ii (ln : Int)), (3, ii d1)]) (S' := [ii 1]) dm_X12_isAmending_213 rfl rfl rfl rfl ?_
                            refine y_ret (r := some (ii 1)) dm_X12_isAmending_214 rfl rfl rfl ?_
                            refine ⟨_, rfl, zt ⟨by omega, ?_⟩, w, rfl, hBG.1, hBG.2.1, hBG.2.2.1, hBG.2.2.2.1, rbF_tr hFv hBG.2.2.2.2⟩
                            rw [isAm_t ⟨h64.1, h64.2, h40⟩ (zA.trans (aoB_c (i := a + 1) (by omega) hs hd1 (by omega)))]
                            exact decide_eq_true h58
                    · exact pg_sub (L := [(0, .ref 102), (1, ii (ln : Int)), (2, ii 1), (3, ii d1)]) rfl rfl rfl (ih82 (mk - (a + 1)) (by omega) (a + 1) d1 u rfl uD (rbF_tr zF (rbF_tk hku)) ⟨by omega, by omega, by omega, by push_cast; omega⟩ (zA.trans (aoB_s (i := a + 1) (by omega) hs hd1 (by omega))))
                  refine me1 (pc' := 108) (L' := [(0, .ref 102), (1, ii (ln : Int)), (2, ii 1), (3, ii dp)]) (S' := [.ref 102]) dm_X12_isAmending_107 rfl rfl rfl rfl ?_
                  refine me0 (pc' := 110) (S' := [ii 40, .ref 102]) dm_X12_isAmending_108 rfl rfl rfl rfl ?_
                  refine x_cp (pc' := 113) (v := zz (decide (isMk T (a + 1) 40))) (rest := []) dm_X12_isAmending_110 rfl (q_inv (As := [ii 40]) (S := []) hm rfl rfl rfl) rfl rfl rfl (r_mkd_ (i := a + 1) hm (by omega) hT hK uD (by omega)) ?_
                  refine y_zne (c := decide (isMk T (a + 1) 40)) (t := 134) (pc' := 116) dm_X12_isAmending_113 rfl rfl (fun hb25 => ?_) (fun hb25 => ?_)
                  · replace hb25 := dT hb25
                    refine y_iinc (pc' := 137) (L' := [(3, ii (dp + 1)), (0, .ref 102), (1, ii (ln : Int)), (2, ii 1)]) dm_X12_isAmending_134 (y_incp (a := dp) (c := 1) rfl rfl (by decide)) rfl ?_
                    refine me2 (pc' := 78) (S' := []) dm_X12_isAmending_137 rfl rfl rfl ?_
                    exact pg_sub (L := [(0, .ref 102), (1, ii (ln : Int)), (2, ii 1), (3, ii (dp + 1))]) rfl rfl rfl (jn78 (dp + 1) (opD_o (Or.inl hb25)))
                  · replace hb25 := dF hb25
                    refine me1 (pc' := 117) (L' := [(0, .ref 102), (1, ii (ln : Int)), (2, ii 1), (3, ii dp)]) (S' := [.ref 102]) dm_X12_isAmending_116 rfl rfl rfl rfl ?_
                    refine me0 (pc' := 119) (S' := [ii 91, .ref 102]) dm_X12_isAmending_117 rfl rfl rfl rfl ?_
                    refine x_cp (pc' := 122) (v := zz (decide (isMk T (a + 1) 91))) (rest := []) dm_X12_isAmending_119 rfl (q_inv (As := [ii 91]) (S := []) hm rfl rfl rfl) rfl rfl rfl (r_mkd_ (i := a + 1) hm (by omega) hT hK uD (by omega)) ?_
                    refine y_zne (c := decide (isMk T (a + 1) 91)) (t := 134) (pc' := 125) dm_X12_isAmending_122 rfl rfl (fun hb26 => ?_) (fun hb26 => ?_)
                    · replace hb26 := dT hb26
                      refine y_iinc (pc' := 137) (L' := [(3, ii (dp + 1)), (0, .ref 102), (1, ii (ln : Int)), (2, ii 1)]) dm_X12_isAmending_134 (y_incp (a := dp) (c := 1) rfl rfl (by decide)) rfl ?_
                      refine me2 (pc' := 78) (S' := []) dm_X12_isAmending_137 rfl rfl rfl ?_
                      exact pg_sub (L := [(0, .ref 102), (1, ii (ln : Int)), (2, ii 1), (3, ii (dp + 1))]) rfl rfl rfl (jn78 (dp + 1) (opD_o (Or.inr (Or.inl hb26))))
                    · replace hb26 := dF hb26
                      refine me1 (pc' := 126) (L' := [(0, .ref 102), (1, ii (ln : Int)), (2, ii 1), (3, ii dp)]) (S' := [.ref 102]) dm_X12_isAmending_125 rfl rfl rfl rfl ?_
                      refine me0 (pc' := 128) (S' := [ii 123, .ref 102]) dm_X12_isAmending_126 rfl rfl rfl rfl ?_
                      refine x_cp (pc' := 131) (v := zz (decide (isMk T (a + 1) 123))) (rest := []) dm_X12_isAmending_128 rfl (q_inv (As := [ii 123]) (S := []) hm rfl rfl rfl) rfl rfl rfl (r_mkd_ (i := a + 1) hm (by omega) hT hK uD (by omega)) ?_
                      refine y_zeq (c := decide (isMk T (a + 1) 123)) (t := 140) (pc' := 134) dm_X12_isAmending_131 rfl rfl (fun hb27 => ?_) (fun hb27 => ?_)
                      · replace hb27 := dF hb27
                        refine me1 (pc' := 141) (L' := [(0, .ref 102), (1, ii (ln : Int)), (2, ii 1), (3, ii dp)]) (S' := [.ref 102]) dm_X12_isAmending_140 rfl rfl rfl rfl ?_
                        refine me0 (pc' := 143) (S' := [ii 41, .ref 102]) dm_X12_isAmending_141 rfl rfl rfl rfl ?_
                        refine x_cp (pc' := 146) (v := zz (decide (isMk T (a + 1) 41))) (rest := []) dm_X12_isAmending_143 rfl (q_inv (As := [ii 41]) (S := []) hm rfl rfl rfl) rfl rfl rfl (r_mkd_ (i := a + 1) hm (by omega) hT hK uD (by omega)) ?_
                        refine y_zne (c := decide (isMk T (a + 1) 41)) (t := 167) (pc' := 149) dm_X12_isAmending_146 rfl rfl (fun hb28 => ?_) (fun hb28 => ?_)
                        · replace hb28 := dT hb28
                          refine y_iinc (pc' := 170) (L' := [(3, ii (dp + (-1))), (0, .ref 102), (1, ii (ln : Int)), (2, ii 1)]) dm_X12_isAmending_167 (y_incp (a := dp) (c := (-1)) rfl rfl (by decide)) rfl ?_
                          refine me2 (pc' := 78) (S' := []) dm_X12_isAmending_170 rfl rfl rfl ?_
                          exact pg_sub (L := [(0, .ref 102), (1, ii (ln : Int)), (2, ii 1), (3, ii (dp + (-1)))]) rfl rfl rfl (jn78 (dp + (-1)) (opD_c (fun z => z.elim hb25 (fun z => z.elim hb26 hb27)) (Or.inl hb28)))
                        · replace hb28 := dF hb28
                          refine me1 (pc' := 150) (L' := [(0, .ref 102), (1, ii (ln : Int)), (2, ii 1), (3, ii dp)]) (S' := [.ref 102]) dm_X12_isAmending_149 rfl rfl rfl rfl ?_
                          refine me0 (pc' := 152) (S' := [ii 93, .ref 102]) dm_X12_isAmending_150 rfl rfl rfl rfl ?_
                          refine x_cp (pc' := 155) (v := zz (decide (isMk T (a + 1) 93))) (rest := []) dm_X12_isAmending_152 rfl (q_inv (As := [ii 93]) (S := []) hm rfl rfl rfl) rfl rfl rfl (r_mkd_ (i := a + 1) hm (by omega) hT hK uD (by omega)) ?_
                          refine y_zne (c := decide (isMk T (a + 1) 93)) (t := 167) (pc' := 158) dm_X12_isAmending_155 rfl rfl (fun hb29 => ?_) (fun hb29 => ?_)
                          · replace hb29 := dT hb29
                            refine y_iinc (pc' := 170) (L' := [(3, ii (dp + (-1))), (0, .ref 102), (1, ii (ln : Int)), (2, ii 1)]) dm_X12_isAmending_167 (y_incp (a := dp) (c := (-1)) rfl rfl (by decide)) rfl ?_
                            refine me2 (pc' := 78) (S' := []) dm_X12_isAmending_170 rfl rfl rfl ?_
                            exact pg_sub (L := [(0, .ref 102), (1, ii (ln : Int)), (2, ii 1), (3, ii (dp + (-1)))]) rfl rfl rfl (jn78 (dp + (-1)) (opD_c (fun z => z.elim hb25 (fun z => z.elim hb26 hb27)) (Or.inr (Or.inl hb29))))
                          · replace hb29 := dF hb29
                            refine me1 (pc' := 159) (L' := [(0, .ref 102), (1, ii (ln : Int)), (2, ii 1), (3, ii dp)]) (S' := [.ref 102]) dm_X12_isAmending_158 rfl rfl rfl rfl ?_
                            refine me0 (pc' := 161) (S' := [ii 125, .ref 102]) dm_X12_isAmending_159 rfl rfl rfl rfl ?_
                            refine x_cp (pc' := 164) (v := zz (decide (isMk T (a + 1) 125))) (rest := []) dm_X12_isAmending_161 rfl (q_inv (As := [ii 125]) (S := []) hm rfl rfl rfl) rfl rfl rfl (r_mkd_ (i := a + 1) hm (by omega) hT hK uD (by omega)) ?_
                            refine y_zeq (c := decide (isMk T (a + 1) 125)) (t := 78) (pc' := 167) dm_X12_isAmending_164 rfl rfl (fun hb30 => ?_) (fun hb30 => ?_)
                            · replace hb30 := dF hb30
                              exact pg_sub (L := [(0, .ref 102), (1, ii (ln : Int)), (2, ii 1), (3, ii dp)]) rfl rfl rfl (jn78 dp (opD_n (fun z => z.elim hb25 (fun z => z.elim hb26 hb27)) (fun z => z.elim hb28 (fun z => z.elim hb29 hb30))))
                            · replace hb30 := dT hb30
                              refine y_iinc (pc' := 170) (L' := [(3, ii (dp + (-1))), (0, .ref 102), (1, ii (ln : Int)), (2, ii 1)]) dm_X12_isAmending_167 (y_incp (a := dp) (c := (-1)) rfl rfl (by decide)) rfl ?_
                              refine me2 (pc' := 78) (S' := []) dm_X12_isAmending_170 rfl rfl rfl ?_
                              exact pg_sub (L := [(0, .ref 102), (1, ii (ln : Int)), (2, ii 1), (3, ii (dp + (-1)))]) rfl rfl rfl (jn78 (dp + (-1)) (opD_c (fun z => z.elim hb25 (fun z => z.elim hb26 hb27)) (Or.inr (Or.inr hb30))))
                      · replace hb27 := dT hb27
                        refine y_iinc (pc' := 137) (L' := [(3, ii (dp + 1)), (0, .ref 102), (1, ii (ln : Int)), (2, ii 1)]) dm_X12_isAmending_134 (y_incp (a := dp) (c := 1) rfl rfl (by decide)) rfl ?_
                        refine me2 (pc' := 78) (S' := []) dm_X12_isAmending_137 rfl rfl rfl ?_
                        exact pg_sub (L := [(0, .ref 102), (1, ii (ln : Int)), (2, ii 1), (3, ii (dp + 1))]) rfl rfl rfl (jn78 (dp + 1) (opD_o (Or.inr (Or.inr hb27))))
                · refine me0 (pc' := 103) (S' := [ii (-1)]) dm_X12_isAmending_102 rfl rfl rfl rfl ?_
                  refine me1 (pc' := 104) (L' := [(3, ii (-1)), (0, .ref 102), (1, ii (ln : Int)), (2, ii 1)]) (S' := []) dm_X12_isAmending_103 rfl rfl rfl rfl ?_
                  refine me2 (pc' := 78) (S' := []) dm_X12_isAmending_104 rfl rfl rfl ?_
                  refine me1 (pc' := 79) (L' := [(3, ii (-1)), (0, .ref 102), (1, ii (ln : Int)), (2, ii 1)]) (S' := [ii (-1)]) dm_X12_isAmending_78 rfl rfl rfl rfl ?_
                  refine me_1t (pc' := 173) dm_X12_isAmending_79 rfl (by decide) ?_
                  refine me1 (pc' := 174) (L' := [(3, ii (-1)), (0, .ref 102), (1, ii (ln : Int)), (2, ii 1)]) (S' := [ii 1]) dm_X12_isAmending_173 rfl rfl rfl rfl ?_
                  refine me_1f (pc' := 177) dm_X12_isAmending_174 rfl (by decide) rfl ?_
                  refine me1 (pc' := 178) (L' := [(3, ii (-1)), (0, .ref 102), (1, ii (ln : Int)), (2, ii 1)]) (S' := [ii (-1)]) dm_X12_isAmending_177 rfl rfl rfl rfl ?_
                  refine me_1t (pc' := 185) dm_X12_isAmending_178 rfl (by decide) ?_
                  refine me1 (pc' := 186) (L' := [(3, ii (-1)), (0, .ref 102), (1, ii (ln : Int)), (2, ii 1)]) (S' := [ii 1]) dm_X12_isAmending_185 rfl rfl rfl rfl ?_
                  refine me_1f (pc' := 189) dm_X12_isAmending_186 rfl (by decide) rfl ?_
                  refine me1 (pc' := 190) (L' := [(3, ii (-1)), (0, .ref 102), (1, ii (ln : Int)), (2, ii 1)]) (S' := [ii (-1)]) dm_X12_isAmending_189 rfl rfl rfl rfl ?_
                  refine me_1t (pc' := 206) dm_X12_isAmending_190 rfl (by decide) ?_
                  refine me0 (pc' := 207) (S' := [ii 0]) dm_X12_isAmending_206 rfl rfl rfl rfl ?_
                  refine me1 (pc' := 208) (L' := [(2, ii 0), (3, ii (-1)), (0, .ref 102), (1, ii (ln : Int))]) (S' := []) dm_X12_isAmending_207 rfl rfl rfl rfl ?_
                  refine me1 (pc' := 209) (L' := [(2, ii 0), (3, ii (-1)), (0, .ref 102), (1, ii (ln : Int))]) (S' := [.ref 102]) dm_X12_isAmending_208 rfl rfl rfl rfl ?_
                  refine me1 (pc' := 210) (L' := [(2, ii 0), (3, ii (-1)), (0, .ref 102), (1, ii (ln : Int))]) (S' := [ii (ln : Int), .ref 102]) dm_X12_isAmending_209 rfl rfl rfl rfl ?_
                  refine x_cn (pc' := 213) (rest := []) dm_X12_isAmending_210 rfl (q_inv (As := [ii (ln : Int)]) (S := []) hm rfl rfl rfl) rfl rfl rfl (r_begin_ (s := u) (hi := hi) hm (by omega) (TN_k (rbF_tr zF (rbF_tk hku)) hTN) (fun j hj => FNp_k (s := beS s) (by rw [show (beS u).2.2.2 20 = u.2.2.2 20 from rfl, (rbF_tr zF (rbF_tk hku)).1]; rfl) rfl (hFN j hj))) ?_
                  rintro _ ⟨w, rfl, hBG⟩
                  refine me1 (pc' := 214) (L' := [(2, ii 0), (3, ii (-1)), (0, .ref 102), (1, ii (ln : Int))]) (S' := [ii 0]) dm_X12_isAmending_213 rfl rfl rfl rfl ?_
                  refine y_ret (r := some (ii 0)) dm_X12_isAmending_214 rfl rfl rfl ?_
                  refine ⟨_, rfl, zf (fun z => ?_), w, rfl, hBG.1, hBG.2.1, hBG.2.2.1, hBG.2.2.2.1, rbF_tr (rbF_tr zF (rbF_tk hku)) hBG.2.2.2.2⟩
                  have z2 := z.2
                  rw [isAm_t ⟨h64.1, h64.2, h40⟩ (zA.trans (aoB_e (i := a + 1) (by omega) (by omega)))] at z2
                  cases z2
          exact pg_sub (L := [(0, .ref 102), (1, ii (ln : Int)), (2, ii 1), (3, ii 1)]) rfl rfl rfl (lp82 _ 2 1 t2 rfl t2D hF2 ⟨by decide, by omega, by decide, by decide⟩ (aoB_2 h40))
