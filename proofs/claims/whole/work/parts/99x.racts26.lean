theorem dm_X12_through_27 : mj_dec prog_14_method_31_code 27 = some (.aload_n 0, 1) := by decide +kernel
theorem dm_X12_through_28 : mj_dec prog_14_method_31_code 28 = some (.iconst 5, 1) := by decide +kernel
theorem dm_X12_through_29 : mj_dec prog_14_method_31_code 29 = some (.iload_n 3, 1) := by decide +kernel
theorem dm_X12_through_30 : mj_dec prog_14_method_31_code 30 = some (.invokevirtual 190, 3) := by decide +kernel
theorem dm_X12_through_33 : mj_dec prog_14_method_31_code 33 = some (.ireturn, 1) := by decide +kernel
theorem r_thrS {vb : Int} {xt : mj_X} {d e hd q b : Nat} {pre post : mj_H} {s : RS} {v : VV} {place : Int} (hm : pre.length = 102) (hd1 : 6 ≤ d) (hB : rB s) (hv : rv s (e + 1) hd v) (hh3 : 3 ≤ hd) (hq : s.1 4 = (q : Int)) (hb : s.1 3 = (b : Int)) (hq3 : 3 ≤ q) (hV2 : q < 310000) (he0 : s.1 5 = 0) (hca : 0 ≤ s.1 10 ∧ s.1 10 ≤ 100) (hC : b + 300 ≤ 820000) (hvb : vb = 45 ∨ vb = 37 ∨ vb = 126) (hsg : vk v = 1 ∨ (vk v = 3 ∧ 0 < vm v)) : pgV xt d 283 [.ref 102, ii vb, ii (hd : Int), ii place] (rS pre post s) (rresN pre post s (e + 1) (pfl (vbo vb) z0 v) place 0 0) := by
  have hB0 := hB
  obtain ⟨hB1, hB2, hB3, hB4⟩ := hB
  obtain ⟨fr, hfr, hsh, hlt, hcl, hvk, hvm, hvc, hvq, hvcl⟩ := rv_val hv
  refine x_enter pm_X12_through (L0 := [(0, .ref 102), (1, ii vb), (2, ii (hd : Int)), (3, ii place)]) rfl (Nat.le_of_ble_eq_true rfl) (by omega) ?_
  refine me1 (pc' := 1) (L' := [(0, .ref 102), (1, ii vb), (2, ii (hd : Int)), (3, ii place)]) (S' := [.ref 102]) dm_X12_through_0 rfl rfl rfl rfl ?_
  refine me1 (pc' := 2) (L' := [(0, .ref 102), (1, ii vb), (2, ii (hd : Int)), (3, ii place)]) (S' := [ii (hd : Int), .ref 102]) dm_X12_through_1 rfl rfl rfl rfl ?_
  refine x_cp (pc' := 5) (v := ii (vk v : Int)) (rest := []) dm_X12_through_2 rfl (q_inv (As := [ii (hd : Int)]) (S := []) hm rfl rfl rfl) rfl rfl rfl (r_kindOf_ hm (by omega) hB0 hv) ?_
  refine me1 (pc' := 7) (L' := [(4, ii (vk v : Int)), (0, .ref 102), (1, ii vb), (2, ii (hd : Int)), (3, ii place)]) (S' := []) dm_X12_through_5 rfl rfl rfl rfl ?_
  refine me1 (pc' := 9) (L' := [(4, ii (vk v : Int)), (0, .ref 102), (1, ii vb), (2, ii (hd : Int)), (3, ii place)]) (S' := [ii (vk v : Int)]) dm_X12_through_7 rfl rfl rfl rfl ?_
  refine me0 (pc' := 10) (S' := [ii 1, ii (vk v : Int)]) dm_X12_through_9 rfl rfl rfl rfl ?_
  refine y_2eq (a := (vk v : Int)) (b := 1) (t := 27) (pc' := 13) dm_X12_through_10 rfl rfl (by omega) (fun hb1 => ?_) (fun hb1 => ?_)
  · refine me1 (pc' := 28) (L' := [(4, ii (vk v : Int)), (0, .ref 102), (1, ii vb), (2, ii (hd : Int)), (3, ii place)]) (S' := [.ref 102]) dm_X12_through_27 rfl rfl rfl rfl ?_
    refine me0 (pc' := 29) (S' := [ii 5, .ref 102]) dm_X12_through_28 rfl rfl rfl rfl ?_
    refine me1 (pc' := 30) (L' := [(4, ii (vk v : Int)), (0, .ref 102), (1, ii vb), (2, ii (hd : Int)), (3, ii place)]) (S' := [ii place, ii 5, .ref 102]) dm_X12_through_29 rfl rfl rfl rfl ?_
    refine x_cv (pc' := 33) (rest := []) dm_X12_through_30 rfl (q_inv (As := [ii 5, ii place]) (S := []) hm rfl rfl rfl) rfl rfl rfl (r_fail_ (s := s) hm (by omega) he0 hca.1 hca.2) ?_
    rintro _ _ ⟨rfl, rfl⟩
    refine y_ret (r := some (ii (-1))) dm_X12_through_33 rfl rfl rfl ?_
    have hlk : lkV z0 v = v := by unfold lkV; exact if_pos (by show 0 ≤ 1; omega)
    have haz : askF z0 v = 0 := by unfold askF; exact if_pos (Or.inl (by show 0 ≤ 1; omega))
    have hq5 : vq v = vm v := vq_m (by omega)
    have hm1 : 0 < vm v := by first | omega | (have := (hv.1.2.1 (by omega)).1; omega)
    have ho : (outT (vbo vb) z0 v (lkV z0 v) 0).1 = 5 := by have h9 : (outF (vbo vb) (vk z0) (vk v) (vnum z0 ((0 : Nat) : Int)) (vnum v ((0 : Nat) : Int))).1 = 5 := (by have hvo : ¬ vbo vb = 61 := (by unfold vbo; split <;> omega); unfold outF; rw [if_neg hvo, if_pos (Or.inl (by show ¬ (((0 : Nat) = 1 ∨ (0 : Nat) = 3) ↔ _); omega))]); rw [outT_1 (fun z => by rw [h9] at z; exact absurd z.1 (by decide)), h9]
    rw [pfl_e (n := 5) haz (k := 0) rfl (by rw [hlk]; omega) ho rfl (by decide)]
    exact ⟨_, rfl, rresN_f (rext_fail (rext_rf s) _ _) (rfr_fail (rfr_rf s) _ _) (by show s.1 3 ≤ _; omega) (by show s.1 4 ≤ _; omega) rfl rfl (by decide)⟩
  · refine me1 (pc' := 15) (L' := [(4, ii (vk v : Int)), (0, .ref 102), (1, ii vb), (2, ii (hd : Int)), (3, ii place)]) (S' := [ii (vk v : Int)]) dm_X12_through_13 rfl rfl rfl rfl ?_
    refine me0 (pc' := 16) (S' := [ii 3, ii (vk v : Int)]) dm_X12_through_15 rfl rfl rfl rfl ?_
    refine y_2ne (a := (vk v : Int)) (b := 3) (t := 34) (pc' := 19) dm_X12_through_16 rfl rfl (by omega) (fun hb2 => ?_) (fun hb2 => ?_)
    · exfalso; omega
    · refine me1 (pc' := 20) (L' := [(4, ii (vk v : Int)), (0, .ref 102), (1, ii vb), (2, ii (hd : Int)), (3, ii place)]) (S' := [.ref 102]) dm_X12_through_19 rfl rfl rfl rfl ?_
      refine me1 (pc' := 21) (L' := [(4, ii (vk v : Int)), (0, .ref 102), (1, ii vb), (2, ii (hd : Int)), (3, ii place)]) (S' := [ii (hd : Int), .ref 102]) dm_X12_through_20 rfl rfl rfl rfl ?_
      refine x_cp (pc' := 24) (v := ii (vm v : Int)) (rest := []) dm_X12_through_21 rfl (q_inv (As := [ii (hd : Int)]) (S := []) hm rfl rfl rfl) rfl rfl rfl (r_many_ hm (by omega) hB0 hv) ?_
      refine y_1le (a := (vm v : Int)) (t := 34) (pc' := 27) dm_X12_through_24 rfl rfl (by omega) (fun hb3 => ?_) (fun hb3 => ?_)
      · exfalso; omega
      · refine me1 (pc' := 28) (L' := [(4, ii (vk v : Int)), (0, .ref 102), (1, ii vb), (2, ii (hd : Int)), (3, ii place)]) (S' := [.ref 102]) dm_X12_through_27 rfl rfl rfl rfl ?_
        refine me0 (pc' := 29) (S' := [ii 5, .ref 102]) dm_X12_through_28 rfl rfl rfl rfl ?_
        refine me1 (pc' := 30) (L' := [(4, ii (vk v : Int)), (0, .ref 102), (1, ii vb), (2, ii (hd : Int)), (3, ii place)]) (S' := [ii place, ii 5, .ref 102]) dm_X12_through_29 rfl rfl rfl rfl ?_
        refine x_cv (pc' := 33) (rest := []) dm_X12_through_30 rfl (q_inv (As := [ii 5, ii place]) (S := []) hm rfl rfl rfl) rfl rfl rfl (r_fail_ (s := s) hm (by omega) he0 hca.1 hca.2) ?_
        rintro _ _ ⟨rfl, rfl⟩
        refine y_ret (r := some (ii (-1))) dm_X12_through_33 rfl rfl rfl ?_
        have hlk : lkV z0 v = v := by unfold lkV; exact if_pos (by show 0 ≤ 1; omega)
        have haz : askF z0 v = 0 := by unfold askF; exact if_pos (Or.inl (by show 0 ≤ 1; omega))
        have hq5 : vq v = vm v := vq_m (by omega)
        have hm1 : 0 < vm v := by first | omega | (have := (hv.1.2.1 (by omega)).1; omega)
        have ho : (outT (vbo vb) z0 v (lkV z0 v) 0).1 = 5 := by have h9 : (outF (vbo vb) (vk z0) (vk v) (vnum z0 ((0 : Nat) : Int)) (vnum v ((0 : Nat) : Int))).1 = 5 := (by have hvo : ¬ vbo vb = 61 := (by unfold vbo; split <;> omega); unfold outF; rw [if_neg hvo, if_pos (Or.inl (by show ¬ (((0 : Nat) = 1 ∨ (0 : Nat) = 3) ↔ _); omega))]); rw [outT_1 (fun z => by rw [h9] at z; exact absurd z.1 (by decide)), h9]
        rw [pfl_e (n := 5) haz (k := 0) rfl (by rw [hlk]; omega) ho rfl (by decide)]
        exact ⟨_, rfl, rresN_f (rext_fail (rext_rf s) _ _) (rfr_fail (rfr_rf s) _ _) (by show s.1 3 ≤ _; omega) (by show s.1 4 ≤ _; omega) rfl rfl (by decide)⟩
theorem r_thrF {vb : Int} {xt : mj_X} {d e hd q b : Nat} {pre post : mj_H} {s : RS} {v : VV} {place : Int} (hm : pre.length = 102) (hd1 : 6 ≤ d) (hB : rB s) (hv : rv s (e + 1) hd v) (hh3 : 3 ≤ hd) (hq : s.1 4 = (q : Int)) (hb : s.1 3 = (b : Int)) (hq3 : 3 ≤ q) (hV2 : q < 310000) (he0 : s.1 5 = 0) (hca : 0 ≤ s.1 10 ∧ s.1 10 ≤ 100) (hC : b + 300 ≤ 820000) (hvb : vb = 45 ∨ vb = 37 ∨ vb = 126) (h7v : vk v ≠ 7) : pgV xt d 283 [.ref 102, ii vb, ii (hd : Int), ii place] (rS pre post s) (rresN pre post s (e + 1) (pfl (vbo vb) z0 v) place (vq v) 1) := by
  have hvm := vw1_m hv.1
  by_cases h0 : vk v = 1 ∨ (vk v = 3 ∧ 0 < vm v)
  · exact pgV_mono (r_thrS hm hd1 hB hv hh3 hq hb hq3 hV2 he0 hca hC hvb h0) (fun x h' z => rresN_up z (Nat.zero_le _) (Nat.zero_le _))
  · by_cases h6 : vk v = 6
    · exact r_thrT hm hd1 hB hv hh3 hq hb hq3 hV2 he0 hca hC hvb h6
    · by_cases h1 : vk v = 0
      · exact r_thr1 hm hd1 hB hv hh3 hq hb hq3 hV2 he0 hca hC hvb h1
      · by_cases hc : vb = 126
        · exact r_thrB hm hd1 hB hv hh3 hq hb hq3 hV2 he0 hca hC hvb (by omega) hc (fun z => by omega)
        · exact r_thrL hm hd1 hB hv hh3 hq hb hq3 hV2 he0 hca hC hvb (by omega) hc (fun z => by omega)
theorem dm_X12_through_94 : mj_dec prog_14_method_31_code 94 = some (.bipush 7, 2) := by decide +kernel
theorem dm_X12_through_96 : mj_dec prog_14_method_31_code 96 = some (.goto 23, 3) := by decide +kernel
theorem dm_X12_through_150 : mj_dec prog_14_method_31_code 150 = some (.aload_n 0, 1) := by decide +kernel
theorem dm_X12_through_151 : mj_dec prog_14_method_31_code 151 = some (.getfield 8, 3) := by decide +kernel
theorem dm_X12_through_154 : mj_dec prog_14_method_31_code 154 = some (.aload_n 0, 1) := by decide +kernel
theorem dm_X12_through_155 : mj_dec prog_14_method_31_code 155 = some (.getfield 15, 3) := by decide +kernel
theorem dm_X12_through_158 : mj_dec prog_14_method_31_code 158 = some (.iload 6, 2) := by decide +kernel
theorem dm_X12_through_160 : mj_dec prog_14_method_31_code 160 = some (.iaload, 1) := by decide +kernel
theorem dm_X12_through_161 : mj_dec prog_14_method_31_code 161 = some (.iload 7, 2) := by decide +kernel
theorem dm_X12_through_163 : mj_dec prog_14_method_31_code 163 = some (.iadd, 1) := by decide +kernel
theorem dm_X12_through_164 : mj_dec prog_14_method_31_code 164 = some (.aload_n 0, 1) := by decide +kernel
theorem dm_X12_through_165 : mj_dec prog_14_method_31_code 165 = some (.iload_n 1, 1) := by decide +kernel
theorem dm_X12_through_166 : mj_dec prog_14_method_31_code 166 = some (.aload_n 0, 1) := by decide +kernel
theorem dm_X12_through_167 : mj_dec prog_14_method_31_code 167 = some (.iload_n 2, 1) := by decide +kernel
theorem dm_X12_through_168 : mj_dec prog_14_method_31_code 168 = some (.iload 7, 2) := by decide +kernel
theorem dm_X12_through_170 : mj_dec prog_14_method_31_code 170 = some (.invokevirtual 153, 3) := by decide +kernel
theorem dm_X12_through_173 : mj_dec prog_14_method_31_code 173 = some (.iload_n 3, 1) := by decide +kernel
theorem dm_X12_through_174 : mj_dec prog_14_method_31_code 174 = some (.invokevirtual 214, 3) := by decide +kernel
theorem dm_X12_through_177 : mj_dec prog_14_method_31_code 177 = some (.i2l, 1) := by decide +kernel
theorem dm_X12_through_178 : mj_dec prog_14_method_31_code 178 = some (.lastore, 1) := by decide +kernel
theorem dm_X12_through_179 : mj_dec prog_14_method_31_code 179 = some (.goto 71, 3) := by decide +kernel
theorem r_through_ {xt : mj_X} {pre post : mj_H} {place vb : Int} (hm : pre.length = 102) (hvb : vb = 45 ∨ vb = 37 ∨ vb = 126) : ∀ (e : Nat) {d hd q b : Nat} {s : RS} {v : VV}, 7 + e ≤ d → rB s → rv s e hd v → 3 ≤ hd → s.1 4 = (q : Int) → s.1 3 = (b : Int) → 3 ≤ q → q + paK e z0 v + 1 < 310000 → s.1 5 = 0 → (0 ≤ s.1 10 ∧ s.1 10 ≤ 100) → b + (paC e z0 v + paM e z0 v) + 300 ≤ 820000 → pgV xt d 283 [.ref 102, ii vb, ii (hd : Int), ii place] (rS pre post s) (rresN pre post s e (pno (vbo vb) e z0 v) place (paC e z0 v + paM e z0 v) (paK e z0 v)) := by
  intro e
  induction e with
  | zero => intro d hd q b s v _ _ hv; exact hv.elim
  | succ e ih =>
    intro d hd q b s v hd1 hB hv hh3 hq hb hq3 hV2 he0 hca hC
    by_cases hpf : vk v ≠ 7
    · have hp2 : pflat z0 v := ⟨by show ¬ 0 = 7; omega, hpf⟩
      have hlk : lkV z0 v = v := if_pos (by show 0 ≤ 1; omega)
      rw [pno_f hp2, paC_s, if_pos hp2, paM_s, if_pos hp2, paK_s, if_pos hp2, hlk]
      rw [paC_s, if_pos hp2, paM_s, if_pos hp2, hlk] at hC
      rw [paK_s, if_pos hp2] at hV2
      exact r_thrF hm (by omega) hB hv hh3 hq hb hq3 (by omega) he0 hca (by omega) hvb hpf
    have hB0 := hB
    obtain ⟨hB1, hB2, hB3, hB4⟩ := hB
    obtain ⟨fr, hfr, hsh, hlt, hcl, hvk, hvm, hvc, hvq, hvcl⟩ := rv_val hv
    have h7 : vk v = 7 := by omega
    have hm7 : vm v ≤ 24 := (hv.1.2.2.2.2.1 h7).1
    have hnf : ¬ pflat z0 v := fun z => z.2 h7
    have hnN : pnN z0 v = vm v := (pnN_e (v := z0) (w := v) (fun z => absurd (show (0 : Nat) = 7 from z.1) (by decide))).trans (if_neg (by show ¬ 0 = 7; omega))
    have hpF : paF (vbo vb) (e + 1) z0 v = errs (fun i => paF (vbo vb) e (pat z0 i) (pat v i)) (vm v) := by rw [paF_s, if_neg hnf, if_neg (fun z => absurd z.1 (by show ¬ 0 = 7; omega)), hnN]
    have hCs : paC (e + 1) z0 v + paM (e + 1) z0 v = vm v + sumN (vm v) (fun i => paC e (pat z0 i) (pat v i) + paM e (pat z0 i) (pat v i)) := by rw [paC_s, if_neg hnf, paM_s, if_neg hnf, hnN, sumN_add]; omega
    have hKs : paK (e + 1) z0 v = 1 + sumN (vm v) (fun i => paK e (pat z0 i) (pat v i)) := by rw [paK_s, if_neg hnf, hnN]
    refine x_enter pm_X12_through (L0 := [(0, .ref 102), (1, ii vb), (2, ii (hd : Int)), (3, ii place)]) rfl (Nat.le_of_ble_eq_true rfl) (by omega) ?_
    refine me1 (pc' := 1) (L' := [(0, .ref 102), (1, ii vb), (2, ii (hd : Int)), (3, ii place)]) (S' := [.ref 102]) dm_X12_through_0 rfl rfl rfl rfl ?_
    refine me1 (pc' := 2) (L' := [(0, .ref 102), (1, ii vb), (2, ii (hd : Int)), (3, ii place)]) (S' := [ii (hd : Int), .ref 102]) dm_X12_through_1 rfl rfl rfl rfl ?_
    refine x_cp (pc' := 5) (v := ii (vk v : Int)) (rest := []) dm_X12_through_2 rfl (q_inv (As := [ii (hd : Int)]) (S := []) hm rfl rfl rfl) rfl rfl rfl (r_kindOf_ hm (by omega) hB0 hv) ?_
    refine me1 (pc' := 7) (L' := [(4, ii (vk v : Int)), (0, .ref 102), (1, ii vb), (2, ii (hd : Int)), (3, ii place)]) (S' := []) dm_X12_through_5 rfl rfl rfl rfl ?_
    refine me1 (pc' := 9) (L' := [(4, ii (vk v : Int)), (0, .ref 102), (1, ii vb), (2, ii (hd : Int)), (3, ii place)]) (S' := [ii (vk v : Int)]) dm_X12_through_7 rfl rfl rfl rfl ?_
    refine me0 (pc' := 10) (S' := [ii 1, ii (vk v : Int)]) dm_X12_through_9 rfl rfl rfl rfl ?_
    refine y_2eq (a := (vk v : Int)) (b := 1) (t := 27) (pc' := 13) dm_X12_through_10 rfl rfl (by omega) (fun hb1 => ?_) (fun hb1 => ?_)
    · exfalso; omega
    · refine me1 (pc' := 15) (L' := [(4, ii (vk v : Int)), (0, .ref 102), (1, ii vb), (2, ii (hd : Int)), (3, ii place)]) (S' := [ii (vk v : Int)]) dm_X12_through_13 rfl rfl rfl rfl ?_
      refine me0 (pc' := 16) (S' := [ii 3, ii (vk v : Int)]) dm_X12_through_15 rfl rfl rfl rfl ?_
      refine y_2ne (a := (vk v : Int)) (b := 3) (t := 34) (pc' := 19) dm_X12_through_16 rfl rfl (by omega) (fun hb2 => ?_) (fun hb2 => ?_)
      · refine me1 (pc' := 36) (L' := [(4, ii (vk v : Int)), (0, .ref 102), (1, ii vb), (2, ii (hd : Int)), (3, ii place)]) (S' := [ii (vk v : Int)]) dm_X12_through_34 rfl rfl rfl rfl ?_
        refine me0 (pc' := 38) (S' := [ii 6, ii (vk v : Int)]) dm_X12_through_36 rfl rfl rfl rfl ?_
        refine y_2ne (a := (vk v : Int)) (b := 6) (t := 55) (pc' := 41) dm_X12_through_38 rfl rfl (by omega) (fun hb3 => ?_) (fun hb3 => ?_)
        · refine me1 (pc' := 56) (L' := [(4, ii (vk v : Int)), (0, .ref 102), (1, ii vb), (2, ii (hd : Int)), (3, ii place)]) (S' := [.ref 102]) dm_X12_through_55 rfl rfl rfl rfl ?_
          refine me1 (pc' := 57) (L' := [(4, ii (vk v : Int)), (0, .ref 102), (1, ii vb), (2, ii (hd : Int)), (3, ii place)]) (S' := [ii (hd : Int), .ref 102]) dm_X12_through_56 rfl rfl rfl rfl ?_
          refine x_cp (pc' := 60) (v := ii (vm v : Int)) (rest := []) dm_X12_through_57 rfl (q_inv (As := [ii (hd : Int)]) (S := []) hm rfl rfl rfl) rfl rfl rfl (r_many_ hm (by omega) hB0 hv) ?_
          refine me1 (pc' := 62) (L' := [(5, ii (vm v : Int)), (4, ii (vk v : Int)), (0, .ref 102), (1, ii vb), (2, ii (hd : Int)), (3, ii place)]) (S' := []) dm_X12_through_60 rfl rfl rfl rfl ?_
          refine me1 (pc' := 64) (L' := [(5, ii (vm v : Int)), (4, ii (vk v : Int)), (0, .ref 102), (1, ii vb), (2, ii (hd : Int)), (3, ii place)]) (S' := [ii (vk v : Int)]) dm_X12_through_62 rfl rfl rfl rfl ?_
          refine me0 (pc' := 66) (S' := [ii 6, ii (vk v : Int)]) dm_X12_through_64 rfl rfl rfl rfl ?_
          refine y_2ne (a := (vk v : Int)) (b := 6) (t := 86) (pc' := 69) dm_X12_through_66 rfl rfl (by omega) (fun hb4 => ?_) (fun hb4 => ?_)
          · refine me1 (pc' := 87) (L' := [(5, ii (vm v : Int)), (4, ii (vk v : Int)), (0, .ref 102), (1, ii vb), (2, ii (hd : Int)), (3, ii place)]) (S' := [.ref 102]) dm_X12_through_86 rfl rfl rfl rfl ?_
            refine me1 (pc' := 89) (L' := [(5, ii (vm v : Int)), (4, ii (vk v : Int)), (0, .ref 102), (1, ii vb), (2, ii (hd : Int)), (3, ii place)]) (S' := [ii (vk v : Int), .ref 102]) dm_X12_through_87 rfl rfl rfl rfl ?_
            refine me0 (pc' := 91) (S' := [ii 7, ii (vk v : Int), .ref 102]) dm_X12_through_89 rfl rfl rfl rfl ?_
            refine y_2ne (a := (vk v : Int)) (b := 7) (t := 99) (pc' := 94) dm_X12_through_91 rfl rfl (by omega) (fun hb5 => ?_) (fun hb5 => ?_)
            · exfalso; omega
            · refine me0 (pc' := 96) (S' := [ii 7, .ref 102]) dm_X12_through_94 rfl rfl rfl rfl ?_
              refine me2 (pc' := 119) (S' := [ii 7, .ref 102]) dm_X12_through_96 rfl rfl rfl ?_
              refine me1 (pc' := 121) (L' := [(5, ii (vm v : Int)), (4, ii (vk v : Int)), (0, .ref 102), (1, ii vb), (2, ii (hd : Int)), (3, ii place)]) (S' := [ii (vm v : Int), ii 7, .ref 102]) dm_X12_through_119 rfl rfl rfl rfl ?_
              refine x_cv (pc' := 124) (rest := []) dm_X12_through_121 rfl (q_inv (As := [ii 7, ii (vm v : Int)]) (S := []) hm rfl rfl rfl) rfl rfl rfl (r_row_ (q := q) (b := b) (s := s) hm (by omega) hq hb (by omega) (by omega) (by omega)) ?_
              rintro _ _ ⟨rfl, rfl⟩
              refine me1 (pc' := 126) (L' := [(6, ii (q : Int)), (5, ii (vm v : Int)), (4, ii (vk v : Int)), (0, .ref 102), (1, ii vb), (2, ii (hd : Int)), (3, ii place)]) (S' := []) dm_X12_through_124 rfl rfl rfl rfl ?_
              refine me0 (pc' := 127) (S' := [ii 0]) dm_X12_through_126 rfl rfl rfl rfl ?_
              refine me1 (pc' := 129) (L' := [(7, ii 0), (6, ii (q : Int)), (5, ii (vm v : Int)), (4, ii (vk v : Int)), (0, .ref 102), (1, ii vb), (2, ii (hd : Int)), (3, ii place)]) (S' := []) dm_X12_through_127 rfl rfl rfl rfl ?_
              have lp129 : ∀ (n129 : Nat) (k : Nat) (t : RS), vm v - k = n129 → (k ≤ vm v) → (pnI s t q b (vm v) k e (fun i => paV (vbo vb) e (pat z0 i) (pat v i)) (sumN k (fun i => paC e (pat z0 i) (pat v i) + paM e (pat z0 i) (pat v i))) (sumN k (fun i => paK e (pat z0 i) (pat v i)))) → (errs (fun i => paF (vbo vb) e (pat z0 i) (pat v i)) k = 0) → pgE xt (d - 1) 12 10 false (Option.some Jvm.ClassFile.FieldType.int) (mj_dec prog_14_method_31_code) 129 [(0, .ref 102), (1, ii vb), (2, ii (hd : Int)), (3, ii place), (4, ii (vk v : Int)), (5, ii (vm v : Int)), (6, ii (q : Int)), (7, ii ((k : Nat) : Int))] [] (rI pre post t.1 t.2.1 t.2.2.1 t.2.2.2) (fun r h' => ∃ x, r = some x ∧ rresN pre post s (e + 1) (pno (vbo vb) (e + 1) z0 v) place (paC (e + 1) z0 v + paM (e + 1) z0 v) (paK (e + 1) z0 v) x h') := by
                intro n129
                induction n129 using Nat.strongRecOn with
                | ind n129 ih129 =>
                  intro k t hm129 hk hpn hes
                  obtain ⟨qt, hqt⟩ : ∃ qt : Nat, t.1 4 = (qt : Int) := ⟨(t.1 4).toNat, by have := hpn.2.2.2.2.1; omega⟩
                  obtain ⟨bt, hbt⟩ : ∃ bt : Nat, t.1 3 = (bt : Int) := ⟨(t.1 3).toNat, by have := hpn.2.2.2.2.2.2.2.1; omega⟩
                  have hp5 := hpn.2.2.2.2.1
                  have hp8 := hpn.2.2.2.2.2.2.2.1
                  have hp9 := hpn.2.2.2.2.2.2.2.2.1
                  have hp10 := hpn.2.2.2.2.2.2.2.2.2.1
                  have hsC : sumN k (fun i => paC e (pat z0 i) (pat v i) + paM e (pat z0 i) (pat v i)) ≤ sumN (vm v) (fun i => paC e (pat z0 i) (pat v i) + paM e (pat z0 i) (pat v i)) := sumN_nm hk
                  have hsK : sumN k (fun i => paK e (pat z0 i) (pat v i)) ≤ sumN (vm v) (fun i => paK e (pat z0 i) (pat v i)) := sumN_nm hk
                  have hBt : rB t := ⟨by omega, by omega, by omega, by omega⟩
                  have hvt := rv_ext hpn.1 hh3 hv
                  have he0t := hpn.2.2.1
                  have h10t : t.1 10 = s.1 10 := hpn.2.1.1 10 (by decide) (by decide) (by decide) (by decide) (by decide)
                  refine me1 (pc' := 131) (L' := [(0, .ref 102), (1, ii vb), (2, ii (hd : Int)), (3, ii place), (4, ii (vk v : Int)), (5, ii (vm v : Int)), (6, ii (q : Int)), (7, ii ((k : Nat) : Int))]) (S' := [ii ((k : Nat) : Int)]) dm_X12_through_129 rfl rfl rfl rfl ?_
                  refine me1 (pc' := 133) (L' := [(0, .ref 102), (1, ii vb), (2, ii (hd : Int)), (3, ii place), (4, ii (vk v : Int)), (5, ii (vm v : Int)), (6, ii (q : Int)), (7, ii ((k : Nat) : Int))]) (S' := [ii (vm v : Int), ii ((k : Nat) : Int)]) dm_X12_through_131 rfl rfl rfl rfl ?_
                  refine y_2ge (a := ((k : Nat) : Int)) (b := (vm v : Int)) (t := 256) (pc' := 136) dm_X12_through_133 rfl rfl (by omega) (fun hb6 => ?_) (fun hb6 => ?_)
                  · refine me1 (pc' := 257) (L' := [(0, .ref 102), (1, ii vb), (2, ii (hd : Int)), (3, ii place), (4, ii (vk v : Int)), (5, ii (vm v : Int)), (6, ii (q : Int)), (7, ii ((k : Nat) : Int))]) (S' := [.ref 102]) dm_X12_through_256 rfl rfl rfl rfl ?_
                    refine me1 (pc' := 259) (L' := [(0, .ref 102), (1, ii vb), (2, ii (hd : Int)), (3, ii place), (4, ii (vk v : Int)), (5, ii (vm v : Int)), (6, ii (q : Int)), (7, ii ((k : Nat) : Int))]) (S' := [ii (q : Int), .ref 102]) dm_X12_through_257 rfl rfl rfl rfl ?_
                    refine x_cp (pc' := 262) (v := ii 7) (rest := []) dm_X12_through_259 rfl (q_inv (As := [ii (q : Int)]) (S := []) hm rfl rfl rfl) rfl rfl rfl (r_kindRaw_ (s := t) (kd := 7) (z := (vm v : Int)) hm (by omega) (by omega) hpn.2.2.2.2.2.2.1 (by decide) (by omega)) ?_
                    refine me0 (pc' := 263) (S' := [ii 5, ii 7]) dm_X12_through_262 rfl rfl rfl rfl ?_
                    refine me_2t (pc' := 275) dm_X12_through_263 rfl (by decide) ?_
                    refine me1 (pc' := 277) (L' := [(0, .ref 102), (1, ii vb), (2, ii (hd : Int)), (3, ii place), (4, ii (vk v : Int)), (5, ii (vm v : Int)), (6, ii (q : Int)), (7, ii ((k : Nat) : Int))]) (S' := [ii (q : Int)]) dm_X12_through_275 rfl rfl rfl rfl ?_
                    refine y_ret (r := some (ii (q : Int))) dm_X12_through_277 rfl rfl rfl ?_
                    have hkn : k = vm v := by omega
                    rw [hkn] at hpn hes
                    rw [pno_v (hpF.trans hes), paV_s, if_neg hnf, hnN]
                    exact ⟨_, rfl, pnI_end hpn hb hq hq3 (by omega) (by omega) (by omega)⟩
                  · refine me1 (pc' := 137) (L' := [(0, .ref 102), (1, ii vb), (2, ii (hd : Int)), (3, ii place), (4, ii (vk v : Int)), (5, ii (vm v : Int)), (6, ii (q : Int)), (7, ii ((k : Nat) : Int))]) (S' := [.ref 102]) dm_X12_through_136 rfl rfl rfl rfl ?_
                    refine me3 (pc' := 140) (S' := [ii (t.1 5)]) dm_X12_through_137 (q_geti (v := t.1 5) hm rfl (fun m i l => rg_5 m i l) rfl) rfl rfl rfl ?_
                    refine pg_st (S' := [ii 0]) (congrArg (fun z => ii z :: []) (he0t)) ?_
                    refine me_1f (pc' := 143) dm_X12_through_140 rfl (by decide) rfl ?_
                    have hs1 : sumN (k + 1) (fun i => paC e (pat z0 i) (pat v i) + paM e (pat z0 i) (pat v i)) = sumN k (fun i => paC e (pat z0 i) (pat v i) + paM e (pat z0 i) (pat v i)) + (paC e (pat z0 k) (pat v k) + paM e (pat z0 k) (pat v k)) := rfl
                    have hs2 : sumN (k + 1) (fun i => paK e (pat z0 i) (pat v i)) = sumN k (fun i => paK e (pat z0 i) (pat v i)) + paK e (pat z0 k) (pat v k) := rfl
                    have hs3 : sumN (k + 1) (fun i => paC e (pat z0 i) (pat v i) + paM e (pat z0 i) (pat v i)) ≤ sumN (vm v) (fun i => paC e (pat z0 i) (pat v i) + paM e (pat z0 i) (pat v i)) := sumN_nm (by omega)
                    have hs4 : sumN (k + 1) (fun i => paK e (pat z0 i) (pat v i)) ≤ sumN (vm v) (fun i => paK e (pat z0 i) (pat v i)) := sumN_nm (by omega)
                    have hpz : pat z0 k = z0 := pat_n (by show ¬ 0 = 7; omega)
                    have hpv : pat v k = vd v k := pat_7 (by omega)
                    refine me1 (pc' := 145) (L' := [(0, .ref 102), (1, ii vb), (2, ii (hd : Int)), (3, ii place), (4, ii (vk v : Int)), (5, ii (vm v : Int)), (6, ii (q : Int)), (7, ii ((k : Nat) : Int))]) (S' := [ii (vk v : Int)]) dm_X12_through_143 rfl rfl rfl rfl ?_
                    refine me0 (pc' := 147) (S' := [ii 7, ii (vk v : Int)]) dm_X12_through_145 rfl rfl rfl rfl ?_
                    refine y_2ne (a := (vk v : Int)) (b := 7) (t := 182) (pc' := 150) dm_X12_through_147 rfl rfl (by omega) (fun hb7 => ?_) (fun hb7 => ?_)
                    · exfalso; omega
                    · refine me1 (pc' := 151) (L' := [(0, .ref 102), (1, ii vb), (2, ii (hd : Int)), (3, ii place), (4, ii (vk v : Int)), (5, ii (vm v : Int)), (6, ii (q : Int)), (7, ii ((k : Nat) : Int))]) (S' := [.ref 102]) dm_X12_through_150 rfl rfl rfl rfl ?_
                      refine me3 (pc' := 154) (S' := [.ref (102 + 1)]) dm_X12_through_151 (q_getr hm rfl (fun m i l => rg_0 m i l)) rfl rfl rfl ?_
                      refine me1 (pc' := 155) (L' := [(0, .ref 102), (1, ii vb), (2, ii (hd : Int)), (3, ii place), (4, ii (vk v : Int)), (5, ii (vm v : Int)), (6, ii (q : Int)), (7, ii ((k : Nat) : Int))]) (S' := [.ref 102, .ref (102 + 1)]) dm_X12_through_154 rfl rfl rfl rfl ?_
                      refine me3 (pc' := 158) (S' := [.ref (102 + 2), .ref (102 + 1)]) dm_X12_through_155 (q_getr hm rfl (fun m i l => rg_1 m i l)) rfl rfl rfl ?_
                      refine me1 (pc' := 160) (L' := [(0, .ref 102), (1, ii vb), (2, ii (hd : Int)), (3, ii place), (4, ii (vk v : Int)), (5, ii (vm v : Int)), (6, ii (q : Int)), (7, ii ((k : Nat) : Int))]) (S' := [ii (q : Int), .ref (102 + 2), .ref (102 + 1)]) dm_X12_through_158 rfl rfl rfl rfl ?_
                      refine me3 (pc' := 161) (S' := [ii ((t.2.2.1 1) q), .ref (102 + 1)]) dm_X12_through_160 (q_iald (v := (t.2.2.1 1) q) (k := 1) (n := 310000) hm (fun m i l I J => rc_1 m i l I J) (by omega) (by omega) (by decide) rfl) rfl rfl rfl ?_
                      refine pg_st (S' := [ii (b : Int), .ref (102 + 1)]) (congrArg (fun z => ii z :: [.ref (102 + 1)]) (hpn.2.2.2.2.2.1)) ?_
                      refine me1 (pc' := 163) (L' := [(0, .ref 102), (1, ii vb), (2, ii (hd : Int)), (3, ii place), (4, ii (vk v : Int)), (5, ii (vm v : Int)), (6, ii (q : Int)), (7, ii ((k : Nat) : Int))]) (S' := [ii ((k : Nat) : Int), ii (b : Int), .ref (102 + 1)]) dm_X12_through_161 rfl rfl rfl rfl ?_
                      refine y_iadd (a := (b : Int)) (b := ((k : Nat) : Int)) dm_X12_through_163 (pc' := 164) rfl ?_
                      refine me1 (pc' := 165) (L' := [(0, .ref 102), (1, ii vb), (2, ii (hd : Int)), (3, ii place), (4, ii (vk v : Int)), (5, ii (vm v : Int)), (6, ii (q : Int)), (7, ii ((k : Nat) : Int))]) (S' := [.ref 102, ii ((b : Int) + ((k : Nat) : Int)), .ref (102 + 1)]) dm_X12_through_164 rfl rfl rfl rfl ?_
                      refine me1 (pc' := 166) (L' := [(0, .ref 102), (1, ii vb), (2, ii (hd : Int)), (3, ii place), (4, ii (vk v : Int)), (5, ii (vm v : Int)), (6, ii (q : Int)), (7, ii ((k : Nat) : Int))]) (S' := [ii vb, .ref 102, ii ((b : Int) + ((k : Nat) : Int)), .ref (102 + 1)]) dm_X12_through_165 rfl rfl rfl rfl ?_
                      refine me1 (pc' := 167) (L' := [(0, .ref 102), (1, ii vb), (2, ii (hd : Int)), (3, ii place), (4, ii (vk v : Int)), (5, ii (vm v : Int)), (6, ii (q : Int)), (7, ii ((k : Nat) : Int))]) (S' := [.ref 102, ii vb, .ref 102, ii ((b : Int) + ((k : Nat) : Int)), .ref (102 + 1)]) dm_X12_through_166 rfl rfl rfl rfl ?_
                      refine me1 (pc' := 168) (L' := [(0, .ref 102), (1, ii vb), (2, ii (hd : Int)), (3, ii place), (4, ii (vk v : Int)), (5, ii (vm v : Int)), (6, ii (q : Int)), (7, ii ((k : Nat) : Int))]) (S' := [ii (hd : Int), .ref 102, ii vb, .ref 102, ii ((b : Int) + ((k : Nat) : Int)), .ref (102 + 1)]) dm_X12_through_167 rfl rfl rfl rfl ?_
                      refine me1 (pc' := 170) (L' := [(0, .ref 102), (1, ii vb), (2, ii (hd : Int)), (3, ii place), (4, ii (vk v : Int)), (5, ii (vm v : Int)), (6, ii (q : Int)), (7, ii ((k : Nat) : Int))]) (S' := [ii ((k : Nat) : Int), ii (hd : Int), .ref 102, ii vb, .ref 102, ii ((b : Int) + ((k : Nat) : Int)), .ref (102 + 1)]) dm_X12_through_168 rfl rfl rfl rfl ?_
                      obtain ⟨qv, hvq3, hvqlt, hvqk, hcvq⟩ := r_value_ (xt := xt) (d := d - 1) (pre := pre) (post := post) (k := k) hm (by omega) hBt hvt (by omega) (by omega)
                      refine x_cp (pc' := 173) (v := ii ((qv : Nat) : Int)) (rest := [ii vb, .ref 102, ii ((b : Int) + ((k : Nat) : Int)), .ref (102 + 1)]) dm_X12_through_170 rfl (q_inv (As := [ii (hd : Int), ii ((k : Nat) : Int)]) (S := [ii vb, .ref 102, ii ((b : Int) + ((k : Nat) : Int)), .ref (102 + 1)]) hm rfl rfl rfl) rfl rfl rfl (hcvq) ?_
                      refine me1 (pc' := 174) (L' := [(0, .ref 102), (1, ii vb), (2, ii (hd : Int)), (3, ii place), (4, ii (vk v : Int)), (5, ii (vm v : Int)), (6, ii (q : Int)), (7, ii ((k : Nat) : Int))]) (S' := [ii place, ii ((qv : Nat) : Int), ii vb, .ref 102, ii ((b : Int) + ((k : Nat) : Int)), .ref (102 + 1)]) dm_X12_through_173 rfl rfl rfl rfl ?_
                      by_cases hof : paF (vbo vb) e (pat z0 k) (pat v k) = 0
                      · refine x_cv (pc' := 177) (rest := [ii ((b : Int) + ((k : Nat) : Int)), .ref (102 + 1)]) dm_X12_through_174 rfl (q_inv (As := [ii vb, ii ((qv : Nat) : Int), ii place]) (S := [ii ((b : Int) + ((k : Nat) : Int)), .ref (102 + 1)]) hm rfl rfl rfl) rfl rfl rfl (by have z := ih (d := d - 1) (s := t) (q := qt) (b := bt) (v := vd v k) (by omega) hBt hvqk hvq3 hqt hbt (by omega) (by rw [← hpz, ← hpv]; omega) he0t (by rw [h10t]; exact hca) (by rw [← hpz, ← hpv]; omega); have e1 : pno (vbo vb) e z0 (vd v k) = .inr (paV (vbo vb) e (pat z0 k) (pat v k)) := (by rw [hpz, hpv] at hof ⊢; exact pno_v hof); rw [e1] at z; rw [show paC e z0 (vd v k) + paM e z0 (vd v k) = paC e (pat z0 k) (pat v k) + paM e (pat z0 k) (pat v k) by rw [hpz, hpv], show paK e z0 (vd v k) = paK e (pat z0 k) (pat v k) by rw [hpz, hpv]] at z; exact z) ?_
                        rintro _ _ ⟨t1, rfl, r1, r2, r3, r4, r5, r6, p1, r7, rfl, r8⟩
                        have hp1 : (p1 : Int) < t1.1 4 := by have z := rv_lt (rvN_rv r8); exact z
                        refine y_i2l (a := (p1 : Int)) dm_X12_through_177 (pc' := 178) rfl (by omega) (by omega) ?_
                        refine me3 (pc' := 179) (S' := []) (h1 := rI pre post t1.1 t1.2.1 t1.2.2.1 (va_up t1.2.2.2 0 (va_up (t1.2.2.2 0) (b + k) (Int64.ofInt (p1 : Int))))) dm_X12_through_178 (q_last (j := (b : Int) + ((k : Nat) : Int)) (k := 0) (n := 820000) hm (fun m i l I J => rc_0 m i l I J) (fun m i l I J f => rs_0 m i l I J f) (by omega) (by omega) (by decide)) rfl rfl rfl ?_
                        refine pg_cast (h2 := rI pre post ((putC t1 (b + k) (Int64.ofInt (p1 : Int))).1) ((putC t1 (b + k) (Int64.ofInt (p1 : Int))).2.1) ((putC t1 (b + k) (Int64.ofInt (p1 : Int))).2.2.1) ((putC t1 (b + k) (Int64.ofInt (p1 : Int))).2.2.2)) rfl ?_
                        refine me2 (pc' := 250) (S' := []) dm_X12_through_179 rfl rfl rfl ?_
                        refine y_iinc (pc' := 253) (L' := [(7, ii (((k : Nat) : Int) + 1)), (0, .ref 102), (1, ii vb), (2, ii (hd : Int)), (3, ii place), (4, ii (vk v : Int)), (5, ii (vm v : Int)), (6, ii (q : Int))]) dm_X12_through_250 (y_incp (a := ((k : Nat) : Int)) (c := 1) rfl rfl (by decide)) rfl ?_
                        refine me2 (pc' := 129) (S' := []) dm_X12_through_253 rfl rfl rfl ?_
                        exact pg_sub (L := [(0, .ref 102), (1, ii vb), (2, ii (hd : Int)), (3, ii place), (4, ii (vk v : Int)), (5, ii (vm v : Int)), (6, ii (q : Int)), (7, ii (((k + 1) : Nat) : Int))]) rfl rfl rfl (ih129 (vm v - (k + 1)) (by omega) (k + 1) (putC t1 (b + k) (Int64.ofInt (p1 : Int))) rfl (by omega) (pnI_s hpn hb (by omega) hq3 r1 r2 r3 r4 r5 r6 r7 r8) ((errs_s0 hes).trans hof))
                      · refine x_cv (pc' := 177) (rest := [ii ((b : Int) + ((k : Nat) : Int)), .ref (102 + 1)]) dm_X12_through_174 rfl (q_inv (As := [ii vb, ii ((qv : Nat) : Int), ii place]) (S := [ii ((b : Int) + ((k : Nat) : Int)), .ref (102 + 1)]) hm rfl rfl rfl) rfl rfl rfl (by have z := ih (d := d - 1) (s := t) (q := qt) (b := bt) (v := vd v k) (by omega) hBt hvqk hvq3 hqt hbt (by omega) (by rw [← hpz, ← hpv]; omega) he0t (by rw [h10t]; exact hca) (by rw [← hpz, ← hpv]; omega); have e1 : pno (vbo vb) e z0 (vd v k) = .inl (paF (vbo vb) e (pat z0 k) (pat v k)).toNat := (by rw [hpz, hpv] at hof ⊢; exact pno_e hof); rw [e1] at z; rw [show paC e z0 (vd v k) + paM e z0 (vd v k) = paC e (pat z0 k) (pat v k) + paM e (pat z0 k) (pat v k) by rw [hpz, hpv], show paK e z0 (vd v k) = paK e (pat z0 k) (pat v k) by rw [hpz, hpv]] at z; exact z) ?_
                        rintro _ _ ⟨t1, rfl, r1, r2, r3, r4, ⟨z1, rfl, r7, r8⟩, r5, r6⟩
                        refine y_i2l (a := z1) dm_X12_through_177 (pc' := 178) rfl (by omega) (by omega) ?_
                        refine me3 (pc' := 179) (S' := []) (h1 := rI pre post t1.1 t1.2.1 t1.2.2.1 (va_up t1.2.2.2 0 (va_up (t1.2.2.2 0) (b + k) (Int64.ofInt z1)))) dm_X12_through_178 (q_last (j := (b : Int) + ((k : Nat) : Int)) (k := 0) (n := 820000) hm (fun m i l I J => rc_0 m i l I J) (fun m i l I J f => rs_0 m i l I J f) (by omega) (by omega) (by decide)) rfl rfl rfl ?_
                        refine pg_cast (h2 := rI pre post ((putC t1 (b + k) (Int64.ofInt z1)).1) ((putC t1 (b + k) (Int64.ofInt z1)).2.1) ((putC t1 (b + k) (Int64.ofInt z1)).2.2.1) ((putC t1 (b + k) (Int64.ofInt z1)).2.2.2)) rfl ?_
                        refine me2 (pc' := 250) (S' := []) dm_X12_through_179 rfl rfl rfl ?_
                        refine y_iinc (pc' := 253) (L' := [(7, ii (((k : Nat) : Int) + 1)), (0, .ref 102), (1, ii vb), (2, ii (hd : Int)), (3, ii place), (4, ii (vk v : Int)), (5, ii (vm v : Int)), (6, ii (q : Int))]) dm_X12_through_250 (y_incp (a := ((k : Nat) : Int)) (c := 1) rfl rfl (by decide)) rfl ?_
                        refine me2 (pc' := 129) (S' := []) dm_X12_through_253 rfl rfl rfl ?_
                        refine me1 (pc' := 131) (L' := [(7, ii (((k : Nat) : Int) + 1)), (0, .ref 102), (1, ii vb), (2, ii (hd : Int)), (3, ii place), (4, ii (vk v : Int)), (5, ii (vm v : Int)), (6, ii (q : Int))]) (S' := [ii (((k : Nat) : Int) + 1)]) dm_X12_through_129 rfl rfl rfl rfl ?_
                        refine me1 (pc' := 133) (L' := [(7, ii (((k : Nat) : Int) + 1)), (0, .ref 102), (1, ii vb), (2, ii (hd : Int)), (3, ii place), (4, ii (vk v : Int)), (5, ii (vm v : Int)), (6, ii (q : Int))]) (S' := [ii (vm v : Int), ii (((k : Nat) : Int) + 1)]) dm_X12_through_131 rfl rfl rfl rfl ?_
                        refine y_2ge (a := ((k : Nat) : Int) + 1) (b := (vm v : Int)) (t := 256) (pc' := 136) dm_X12_through_133 rfl rfl (by omega) (fun hb8 => ?_) (fun hb8 => ?_)
                        · refine me1 (pc' := 257) (L' := [(7, ii (((k : Nat) : Int) + 1)), (0, .ref 102), (1, ii vb), (2, ii (hd : Int)), (3, ii place), (4, ii (vk v : Int)), (5, ii (vm v : Int)), (6, ii (q : Int))]) (S' := [.ref 102]) dm_X12_through_256 rfl rfl rfl rfl ?_
                          refine me1 (pc' := 259) (L' := [(7, ii (((k : Nat) : Int) + 1)), (0, .ref 102), (1, ii vb), (2, ii (hd : Int)), (3, ii place), (4, ii (vk v : Int)), (5, ii (vm v : Int)), (6, ii (q : Int))]) (S' := [ii (q : Int), .ref 102]) dm_X12_through_257 rfl rfl rfl rfl ?_
                          have hw9 := (r1.2.2.1 q hq3 hp5).2
                          refine x_cp (pc' := 262) (v := ii 7) (rest := []) dm_X12_through_259 rfl (q_inv (As := [ii (q : Int)]) (S := []) hm rfl rfl rfl) rfl rfl rfl (r_kindRaw_ (s := (putC t1 (b + k) (Int64.ofInt z1))) (kd := 7) (z := (vm v : Int)) hm (by omega) (by omega) (show t1.2.2.1 2 q = _ by rw [hw9]; exact hpn.2.2.2.2.2.2.1) (by decide) (by omega)) ?_
                          refine me0 (pc' := 263) (S' := [ii 5, ii 7]) dm_X12_through_262 rfl rfl rfl rfl ?_
                          refine me_2t (pc' := 275) dm_X12_through_263 rfl (by decide) ?_
                          refine me1 (pc' := 277) (L' := [(7, ii (((k : Nat) : Int) + 1)), (0, .ref 102), (1, ii vb), (2, ii (hd : Int)), (3, ii place), (4, ii (vk v : Int)), (5, ii (vm v : Int)), (6, ii (q : Int))]) (S' := [ii (q : Int)]) dm_X12_through_275 rfl rfl rfl rfl ?_
                          refine y_ret (r := some (ii (q : Int))) dm_X12_through_277 rfl rfl rfl ?_
                          have hEn : errs (fun i => paF (vbo vb) e (pat z0 i) (pat v i)) (vm v) = paF (vbo vb) e (pat z0 k) (pat v k) := by have y := errs_mono (g := (fun i => paF (vbo vb) e (pat z0 i) (pat v i))) (k := k + 1) (by rw [errs_s0 hes]; exact hof) (vm v - (k + 1)); rw [show k + 1 + (vm v - (k + 1)) = vm v by omega, errs_s0 hes] at y; exact y
                          rw [pno_e (by rw [hpF, hEn]; exact hof), hpF, hEn]
                          exact ⟨_, rfl, rresN_f (rext_putC (rext_tr hpn.1 r1) (by omega) _) (rfr_putC (rfr_tr hpn.2.1 r2) _ _) (show t1.1 3 ≤ _ by omega) (show t1.1 4 ≤ _ by omega) r5 (r6.trans (by rw [hpn.2.1.1 10 (by decide) (by decide) (by decide) (by decide) (by decide), hpn.2.1.1 11 (by decide) (by decide) (by decide) (by decide) (by decide)])) (by omega)⟩
                        · refine me1 (pc' := 137) (L' := [(7, ii (((k : Nat) : Int) + 1)), (0, .ref 102), (1, ii vb), (2, ii (hd : Int)), (3, ii place), (4, ii (vk v : Int)), (5, ii (vm v : Int)), (6, ii (q : Int))]) (S' := [.ref 102]) dm_X12_through_136 rfl rfl rfl rfl ?_
                          refine me3 (pc' := 140) (S' := [ii (((putC t1 (b + k) (Int64.ofInt z1)).1) 5)]) dm_X12_through_137 (q_geti (v := ((putC t1 (b + k) (Int64.ofInt z1)).1) 5) hm rfl (fun m i l => rg_5 m i l) rfl) rfl rfl rfl ?_
                          have hfr := paF_r (vbo vb) e (pat z0 k) (pat v k)
                          refine pg_st (S' := [ii ((paF (vbo vb) e (pat z0 k) (pat v k)).toNat : Int)]) (congrArg (fun z => ii z :: []) (r5)) ?_
                          refine y_1ne (a := ((paF (vbo vb) e (pat z0 k) (pat v k)).toNat : Int)) (t := 256) (pc' := 143) dm_X12_through_140 rfl rfl (by omega) (fun hb9 => ?_) (fun hb9 => ?_)
                          · refine me1 (pc' := 257) (L' := [(7, ii (((k : Nat) : Int) + 1)), (0, .ref 102), (1, ii vb), (2, ii (hd : Int)), (3, ii place), (4, ii (vk v : Int)), (5, ii (vm v : Int)), (6, ii (q : Int))]) (S' := [.ref 102]) dm_X12_through_256 rfl rfl rfl rfl ?_
                            refine me1 (pc' := 259) (L' := [(7, ii (((k : Nat) : Int) + 1)), (0, .ref 102), (1, ii vb), (2, ii (hd : Int)), (3, ii place), (4, ii (vk v : Int)), (5, ii (vm v : Int)), (6, ii (q : Int))]) (S' := [ii (q : Int), .ref 102]) dm_X12_through_257 rfl rfl rfl rfl ?_
                            have hw9 := (r1.2.2.1 q hq3 hp5).2
                            refine x_cp (pc' := 262) (v := ii 7) (rest := []) dm_X12_through_259 rfl (q_inv (As := [ii (q : Int)]) (S := []) hm rfl rfl rfl) rfl rfl rfl (r_kindRaw_ (s := (putC t1 (b + k) (Int64.ofInt z1))) (kd := 7) (z := (vm v : Int)) hm (by omega) (by omega) (show t1.2.2.1 2 q = _ by rw [hw9]; exact hpn.2.2.2.2.2.2.1) (by decide) (by omega)) ?_
                            refine me0 (pc' := 263) (S' := [ii 5, ii 7]) dm_X12_through_262 rfl rfl rfl rfl ?_
                            refine me_2t (pc' := 275) dm_X12_through_263 rfl (by decide) ?_
                            refine me1 (pc' := 277) (L' := [(7, ii (((k : Nat) : Int) + 1)), (0, .ref 102), (1, ii vb), (2, ii (hd : Int)), (3, ii place), (4, ii (vk v : Int)), (5, ii (vm v : Int)), (6, ii (q : Int))]) (S' := [ii (q : Int)]) dm_X12_through_275 rfl rfl rfl rfl ?_
                            refine y_ret (r := some (ii (q : Int))) dm_X12_through_277 rfl rfl rfl ?_
                            have hEn : errs (fun i => paF (vbo vb) e (pat z0 i) (pat v i)) (vm v) = paF (vbo vb) e (pat z0 k) (pat v k) := by have y := errs_mono (g := (fun i => paF (vbo vb) e (pat z0 i) (pat v i))) (k := k + 1) (by rw [errs_s0 hes]; exact hof) (vm v - (k + 1)); rw [show k + 1 + (vm v - (k + 1)) = vm v by omega, errs_s0 hes] at y; exact y
                            rw [pno_e (by rw [hpF, hEn]; exact hof), hpF, hEn]
                            exact ⟨_, rfl, rresN_f (rext_putC (rext_tr hpn.1 r1) (by omega) _) (rfr_putC (rfr_tr hpn.2.1 r2) _ _) (show t1.1 3 ≤ _ by omega) (show t1.1 4 ≤ _ by omega) r5 (r6.trans (by rw [hpn.2.1.1 10 (by decide) (by decide) (by decide) (by decide) (by decide), hpn.2.1.1 11 (by decide) (by decide) (by decide) (by decide) (by decide)])) (by omega)⟩
                          · exfalso; omega
              exact pg_sub (L := [(0, .ref 102), (1, ii vb), (2, ii (hd : Int)), (3, ii place), (4, ii (vk v : Int)), (5, ii (vm v : Int)), (6, ii (q : Int)), (7, ii ((0 : Nat) : Int))]) rfl rfl rfl (lp129 _ 0 (rowS s q b 7 (vm v : Int)) rfl (Nat.zero_le _) (pnI_0 hq hb he0) rfl)
          · exfalso; omega
        · exfalso; omega
      · exfalso; omega
