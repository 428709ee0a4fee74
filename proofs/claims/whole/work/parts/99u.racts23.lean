/-! the reference: paired, all the way down -/
def pno (vb : Int) (e : Nat) (v w : VV) : Nat ⊕ VV := if paF vb e v w ≠ 0 then .inl (paF vb e v w).toNat else .inr (paV vb e v w)
theorem pno_v {vb : Int} {e : Nat} {v w : VV} (h : paF vb e v w = 0) : pno vb e v w = .inr (paV vb e v w) := by unfold pno; rw [if_neg (fun z => z h)]
theorem pno_e {vb : Int} {e : Nat} {v w : VV} (h : ¬ paF vb e v w = 0) : pno vb e v w = .inl (paF vb e v w).toNat := by unfold pno; rw [if_pos h]
theorem pno_f {vb : Int} {e : Nat} {v w : VV} (h : pflat v w) : pno vb (e + 1) v w = pfl vb v w := by
  unfold pno pfl
  rw [paF_s, if_pos h, paV_s, if_pos h]
def pnI (s t : RS) (q b n k e : Nat) (ch : Nat → VV) (cb vb : Nat) : Prop := rext s t ∧ rfr s t ∧ t.1 5 = 0 ∧ t.1 6 = s.1 6 ∧ (q : Int) < t.1 4 ∧ t.2.2.1 1 q = (b : Int) ∧ t.2.2.1 2 q = 7 + 8 * (n : Int) ∧ (b : Int) + (n : Int) ≤ t.1 3 ∧ t.1 3 ≤ (b : Int) + (n : Int) + (cb : Int) ∧ t.1 4 ≤ (q : Int) + 1 + (vb : Int) ∧ ∀ j, j < k → ∃ p : Nat, 3 ≤ p ∧ t.2.2.2 0 (b + j) = Int64.ofInt (p : Int) ∧ rvN ((b + n : Nat) : Int) t e p (ch j)
/-- a cell is written -/
def putC (t : RS) (a : Nat) (x : Int64) : RS := (t.1, t.2.1, t.2.2.1, va_up t.2.2.2 0 (va_up (t.2.2.2 0) a x))
theorem putC_at (t : RS) (a : Nat) (x : Int64) (k : Nat) : (putC t a x).2.2.2 0 k = if k = a then x else t.2.2.2 0 k := by
  show va_up t.2.2.2 0 (va_up (t.2.2.2 0) a x) 0 k = _
  rw [up_eq, up_at]
theorem rext_putC {s t : RS} (h : rext s t) {a : Nat} (ha : s.1 3 ≤ (a : Int)) (x : Int64) : rext s (putC t a x) := ⟨h.1, h.2.1, h.2.2.1, fun k hk => by rw [putC_at, if_neg (by omega)]; exact h.2.2.2 k hk⟩
theorem rfr_putC {s t : RS} (h : rfr s t) (a : Nat) (x : Int64) : rfr s (putC t a x) := rfr_tr h ⟨fun _ _ _ _ _ _ => rfl, rfl, fun _ _ _ _ _ _ => rfl, fun k hk => by show va_up t.2.2.2 0 _ k = _; rw [up_ne _ _ hk], fun _ _ => rfl⟩
theorem pnI_0 {s : RS} {q b n e : Nat} {ch : Nat → VV} (hq : s.1 4 = (q : Int)) (hb : s.1 3 = (b : Int)) (he : s.1 5 = 0) : pnI s (rowS s q b 7 (n : Int)) q b n 0 e ch 0 0 := by
  refine ⟨rext_row hq hb _ (by omega), rfr_row s q b _ _, he, rfl, ?_, up_eq _ _ _, ?_, ?_, ?_, ?_, fun j hj => absurd hj (Nat.not_lt_zero j)⟩
  · show (q : Int) < (q : Int) + 1; omega
  · show va_up (s.2.2.1 2) q (7 + (n : Int) * 8) q = _; rw [up_eq]; omega
  · show (b : Int) + (n : Int) ≤ (b : Int) + (n : Int); omega
  · show (b : Int) + (n : Int) ≤ _; omega
  · show (q : Int) + 1 ≤ _; omega
theorem pnI_s {s t t1 : RS} {q b n k e p cb vb c1 v1 : Nat} {ch : Nat → VV} (h : pnI s t q b n k e ch cb vb) (hb : s.1 3 = (b : Int)) (hk : k < n) (hq3 : 3 ≤ q) (r1 : rext t t1) (r2 : rfr t t1) (r3 : t1.1 3 ≤ t.1 3 + (c1 : Int)) (r4 : t1.1 4 ≤ t.1 4 + (v1 : Int)) (r5 : t1.1 5 = 0) (r6 : t1.1 6 = t.1 6) (r7 : 3 ≤ p) (r8 : rvN (t.1 3) t1 e p (ch k)) : pnI s (putC t1 (b + k) (Int64.ofInt (p : Int))) q b n (k + 1) e ch (cb + c1) (vb + v1) := by
  obtain ⟨a1, a2, a3, a4, a5, a6, a7, a8, a9, a10, a11⟩ := h
  obtain ⟨w1, w2⟩ := r1.2.2.1 q hq3 a5
  have r11 := r1.1
  have r12 := r1.2.1
  refine ⟨rext_putC (rext_tr a1 r1) (by omega) _, rfr_putC (rfr_tr a2 r2) _ _, r5, r6.trans a4, (show (q : Int) < t1.1 4 by omega), w1.trans a6, w2.trans a7, (show (b : Int) + (n : Int) ≤ t1.1 3 by omega), (show t1.1 3 ≤ _ by omega), (show t1.1 4 ≤ _ by omega), fun j hj => ?_⟩
  by_cases z : j = k
  · subst z
    refine ⟨p, r7, by rw [putC_at, if_pos rfl], ?_⟩
    refine rvN_w (c0 := t.1 3) (by omega) (rvN_keep (s := t1) (t := putC t1 (b + j) (Int64.ofInt (p : Int))) (Int.le_refl _) (Int.le_refl _) (fun _ _ _ => ⟨rfl, rfl⟩) (fun i h1 h2 => ?_) r8)
    rw [putC_at, if_neg (by omega)]
  · obtain ⟨r, s1, s2, s3⟩ := a11 j (by omega)
    refine ⟨r, s1, by rw [putC_at, if_neg (by omega), r1.2.2.2 (b + j) (by omega)]; exact s2, ?_⟩
    refine rvN_keep (s := t) (t := putC t1 (b + k) (Int64.ofInt (p : Int))) r11 r12 (fun hd h1 h2 => r1.2.2.1 hd h1 h2) (fun i h1 h2 => ?_) s3
    rw [putC_at, if_neg (by omega)]
    exact r1.2.2.2 i h2
theorem pnI_end {pre post : mj_H} {s t : RS} {q b n e cb vb c1 v1 : Nat} {ch : Nat → VV} {place : Int} (h : pnI s t q b n n e ch cb vb) (hb : s.1 3 = (b : Int)) (hq : s.1 4 = (q : Int)) (hq3 : 3 ≤ q) (hn : n ≤ 24) (h3 : n + cb ≤ c1) (h4 : 1 + vb ≤ v1) : rresN pre post s (e + 1) (.inr (vnest n ch)) place c1 v1 (ii (q : Int)) (rS pre post t) := by
  obtain ⟨a1, a2, a3, a4, a5, a6, a7, a8, a9, a10, a11⟩ := h
  refine ⟨t, rfl, a1, a2, by omega, by omega, a3, a4, q, hq3, rfl, vw1_nest hn, hq3, a5, ?_, b, a6, by omega, ?_, fun z => absurd rfl z, fun _ k hk => ?_⟩
  · rw [a7]; show _ = ((7 : Nat) : Int) + 8 * ((n : Nat) : Int) + 2048 * ((0 : Nat) : Int); omega
  · have e1 : vcl (vnest n ch) = n := by unfold vcl; rw [if_pos (show vk (vnest n ch) = 7 from rfl)]; rfl
    rw [e1]; exact a8
  · obtain ⟨p, p1, p2, p3⟩ := a11 k hk
    exact ⟨p, p1, p2, rvN_w (by omega) p3⟩
theorem pat_7 {v : VV} {k : Nat} (h : vk v = 7) : pat v k = vd v k := by unfold pat; rw [if_pos h]
theorem pat_n {v : VV} {k : Nat} (h : vk v ≠ 7) : pat v k = v := by unfold pat; rw [if_neg h]
theorem rv_pos {s : RS} {e hd : Nat} {v : VV} (h : rv s e hd v) : 1 ≤ e := by
  cases e with
  | zero => exact h.elim
  | succ e => omega
theorem rv_lt {s : RS} {e hd : Nat} {v : VV} (h : rv s e hd v) : (hd : Int) < s.1 4 := by
  cases e with
  | zero => exact h.elim
  | succ e => exact h.2.1
theorem rv_dn {s : RS} {e hd : Nat} {v : VV} (h : rv s (e + 1) hd v) (he : 1 ≤ e) (h7 : vk v ≠ 7) : rv s e hd v := by
  cases e with
  | zero => omega
  | succ e =>
    obtain ⟨a1, a2, a3, fr, b1, b2, b3, b4⟩ := h
    exact ⟨a1, a2, a3, fr, b1, b2, b3, fun z => absurd z h7⟩
theorem dm_X12_paired_230 : mj_dec prog_14_method_50_code 230 = some (.aload_n 0, 1) := by decide +kernel
theorem dm_X12_paired_231 : mj_dec prog_14_method_50_code 231 = some (.iconst 3, 1) := by decide +kernel
theorem dm_X12_paired_232 : mj_dec prog_14_method_50_code 232 = some (.iload 4, 2) := by decide +kernel
theorem dm_X12_paired_234 : mj_dec prog_14_method_50_code 234 = some (.invokevirtual 190, 3) := by decide +kernel
theorem dm_X12_paired_237 : mj_dec prog_14_method_50_code 237 = some (.ireturn, 1) := by decide +kernel
theorem dm_X12_paired_292 : mj_dec prog_14_method_50_code 292 = some (.aload_n 0, 1) := by decide +kernel
theorem dm_X12_paired_293 : mj_dec prog_14_method_50_code 293 = some (.iconst 4, 1) := by decide +kernel
theorem dm_X12_paired_294 : mj_dec prog_14_method_50_code 294 = some (.iload 4, 2) := by decide +kernel
theorem dm_X12_paired_296 : mj_dec prog_14_method_50_code 296 = some (.invokevirtual 190, 3) := by decide +kernel
theorem dm_X12_paired_299 : mj_dec prog_14_method_50_code 299 = some (.ireturn, 1) := by decide +kernel
theorem r_pairA {vb : Int} {xt : mj_X} {d e hd hd2 q b : Nat} {pre post : mj_H} {s : RS} {v w : VV} {place : Int} (hm : pre.length = 102) (hd1 : 6 ≤ d) (hB : rB s) (hv : rv s (e + 1) hd v) (hh3 : 3 ≤ hd) (hw : rv s (e + 1) hd2 w) (hh4 : 3 ≤ hd2) (hq : s.1 4 = (q : Int)) (hb : s.1 3 = (b : Int)) (hq3 : 3 ≤ q) (hV2 : q < 310000) (he0 : s.1 5 = 0) (hca : 0 ≤ s.1 10 ∧ s.1 10 ≤ 100) (hC : b + 300 ≤ 820000) (h7v : vk v ≠ 7) (h7w : vk w ≠ 7) (ha : ¬ askF v w = 0) : pgV xt d 276 [.ref 102, ii vb, ii (hd : Int), ii (hd2 : Int), ii place] (rS pre post s) (rresN pre post s (e + 1) (pfl vb v w) place 0 0) := by
  have hB0 := hB
  obtain ⟨hB1, hB2, hB3, hB4⟩ := hB
  obtain ⟨fr, hfr, hsh, hlt, hcl, hvk, hvm, hvc, hvq, hvcl⟩ := rv_val hv
  obtain ⟨fw, hfw, hshw, hltw, hclw, hwk, hwm, hwc, hwq, hwcl⟩ := rv_val hw
  have hcv := vw1_c hv.1
  have hcw := vw1_c hw.1
  have haF : ¬ (vk v ≤ 1 ∨ vk w ≤ 1) := fun z => ha (by unfold askF; rw [if_pos z])
  have haG : ¬ ((2 ≤ vk v ∧ vk v ≤ 5) ↔ (2 ≤ vk w ∧ vk w ≤ 5)) ∨ vm v ≠ vm w ∨ vc v ≠ vc w := Classical.byContradiction fun z => ha (by unfold askF; rw [if_neg haF, if_neg (fun y => z (Or.inl y)), if_neg (fun y => z (Or.inr y))])
  refine x_enter pm_X12_paired (L0 := [(0, .ref 102), (1, ii vb), (2, ii (hd : Int)), (3, ii (hd2 : Int)), (4, ii place)]) rfl (Nat.le_of_ble_eq_true rfl) (by omega) ?_
  refine me1 (pc' := 1) (L' := [(0, .ref 102), (1, ii vb), (2, ii (hd : Int)), (3, ii (hd2 : Int)), (4, ii place)]) (S' := [.ref 102]) dm_X12_paired_0 rfl rfl rfl rfl ?_
  refine me1 (pc' := 2) (L' := [(0, .ref 102), (1, ii vb), (2, ii (hd : Int)), (3, ii (hd2 : Int)), (4, ii place)]) (S' := [ii (hd : Int), .ref 102]) dm_X12_paired_1 rfl rfl rfl rfl ?_
  refine x_cp (pc' := 5) (v := ii (vk v : Int)) (rest := []) dm_X12_paired_2 rfl (q_inv (As := [ii (hd : Int)]) (S := []) hm rfl rfl rfl) rfl rfl rfl (r_kindOf_ hm (by omega) hB0 hv) ?_
  refine me0 (pc' := 7) (S' := [ii 7, ii (vk v : Int)]) dm_X12_paired_5 rfl rfl rfl rfl ?_
  refine y_2ne (a := (vk v : Int)) (b := 7) (t := 14) (pc' := 10) dm_X12_paired_7 rfl rfl (by omega) (fun hb1 => ?_) (fun hb1 => ?_)
  · refine me0 (pc' := 15) (S' := [ii 0]) dm_X12_paired_14 rfl rfl rfl rfl ?_
    refine me1 (pc' := 17) (L' := [(5, ii 0), (0, .ref 102), (1, ii vb), (2, ii (hd : Int)), (3, ii (hd2 : Int)), (4, ii place)]) (S' := []) dm_X12_paired_15 rfl rfl rfl rfl ?_
    refine me1 (pc' := 18) (L' := [(5, ii 0), (0, .ref 102), (1, ii vb), (2, ii (hd : Int)), (3, ii (hd2 : Int)), (4, ii place)]) (S' := [.ref 102]) dm_X12_paired_17 rfl rfl rfl rfl ?_
    refine me1 (pc' := 19) (L' := [(5, ii 0), (0, .ref 102), (1, ii vb), (2, ii (hd : Int)), (3, ii (hd2 : Int)), (4, ii place)]) (S' := [ii (hd2 : Int), .ref 102]) dm_X12_paired_18 rfl rfl rfl rfl ?_
    refine x_cp (pc' := 22) (v := ii (vk w : Int)) (rest := []) dm_X12_paired_19 rfl (q_inv (As := [ii (hd2 : Int)]) (S := []) hm rfl rfl rfl) rfl rfl rfl (r_kindOf_ hm (by omega) hB0 hw) ?_
    refine me0 (pc' := 24) (S' := [ii 7, ii (vk w : Int)]) dm_X12_paired_22 rfl rfl rfl rfl ?_
    refine y_2ne (a := (vk w : Int)) (b := 7) (t := 31) (pc' := 27) dm_X12_paired_24 rfl rfl (by omega) (fun hb2 => ?_) (fun hb2 => ?_)
    · refine me0 (pc' := 32) (S' := [ii 0]) dm_X12_paired_31 rfl rfl rfl rfl ?_
      refine me1 (pc' := 34) (L' := [(6, ii 0), (5, ii 0), (0, .ref 102), (1, ii vb), (2, ii (hd : Int)), (3, ii (hd2 : Int)), (4, ii place)]) (S' := []) dm_X12_paired_32 rfl rfl rfl rfl ?_
      refine me1 (pc' := 36) (L' := [(6, ii 0), (5, ii 0), (0, .ref 102), (1, ii vb), (2, ii (hd : Int)), (3, ii (hd2 : Int)), (4, ii place)]) (S' := [ii 0]) dm_X12_paired_34 rfl rfl rfl rfl ?_
      refine me_1f (pc' := 39) dm_X12_paired_36 rfl (by decide) rfl ?_
      refine me1 (pc' := 41) (L' := [(6, ii 0), (5, ii 0), (0, .ref 102), (1, ii vb), (2, ii (hd : Int)), (3, ii (hd2 : Int)), (4, ii place)]) (S' := [ii 0]) dm_X12_paired_39 rfl rfl rfl rfl ?_
      refine me_1t (pc' := 182) dm_X12_paired_41 rfl (by decide) ?_
      refine me1 (pc' := 183) (L' := [(6, ii 0), (5, ii 0), (0, .ref 102), (1, ii vb), (2, ii (hd : Int)), (3, ii (hd2 : Int)), (4, ii place)]) (S' := [.ref 102]) dm_X12_paired_182 rfl rfl rfl rfl ?_
      refine me1 (pc' := 184) (L' := [(6, ii 0), (5, ii 0), (0, .ref 102), (1, ii vb), (2, ii (hd : Int)), (3, ii (hd2 : Int)), (4, ii place)]) (S' := [ii (hd : Int), .ref 102]) dm_X12_paired_183 rfl rfl rfl rfl ?_
      refine x_cp (pc' := 187) (v := ii (vk v : Int)) (rest := []) dm_X12_paired_184 rfl (q_inv (As := [ii (hd : Int)]) (S := []) hm rfl rfl rfl) rfl rfl rfl (r_kindOf_ hm (by omega) hB0 hv) ?_
      refine me0 (pc' := 189) (S' := [ii 6, ii (vk v : Int)]) dm_X12_paired_187 rfl rfl rfl rfl ?_
      refine y_2eq (a := (vk v : Int)) (b := 6) (t := 202) (pc' := 192) dm_X12_paired_189 rfl rfl (by omega) (fun hb3 => ?_) (fun hb3 => ?_)
      · refine me0 (pc' := 203) (S' := [ii 1]) dm_X12_paired_202 rfl rfl rfl rfl ?_
        refine me2 (pc' := 207) (S' := [ii 1]) dm_X12_paired_203 rfl rfl rfl ?_
        refine me1 (pc' := 209) (L' := [(7, ii 1), (6, ii 0), (5, ii 0), (0, .ref 102), (1, ii vb), (2, ii (hd : Int)), (3, ii (hd2 : Int)), (4, ii place)]) (S' := []) dm_X12_paired_207 rfl rfl rfl rfl ?_
        refine me1 (pc' := 211) (L' := [(7, ii 1), (6, ii 0), (5, ii 0), (0, .ref 102), (1, ii vb), (2, ii (hd : Int)), (3, ii (hd2 : Int)), (4, ii place)]) (S' := [ii 1]) dm_X12_paired_209 rfl rfl rfl rfl ?_
        refine me_1f (pc' := 214) dm_X12_paired_211 rfl (by decide) rfl ?_
        refine me1 (pc' := 215) (L' := [(7, ii 1), (6, ii 0), (5, ii 0), (0, .ref 102), (1, ii vb), (2, ii (hd : Int)), (3, ii (hd2 : Int)), (4, ii place)]) (S' := [.ref 102]) dm_X12_paired_214 rfl rfl rfl rfl ?_
        refine me1 (pc' := 216) (L' := [(7, ii 1), (6, ii 0), (5, ii 0), (0, .ref 102), (1, ii vb), (2, ii (hd : Int)), (3, ii (hd2 : Int)), (4, ii place)]) (S' := [ii (hd : Int), .ref 102]) dm_X12_paired_215 rfl rfl rfl rfl ?_
        refine x_cp (pc' := 219) (v := zz (decide (2 ≤ vk v ∧ vk v ≤ 5))) (rest := []) dm_X12_paired_216 rfl (q_inv (As := [ii (hd : Int)]) (S := []) hm rfl rfl rfl) rfl rfl rfl (r_isRow_ hm (by omega) hB0 hv) ?_
        refine y_zne (c := decide (2 ≤ vk v ∧ vk v ≤ 5)) (t := 230) (pc' := 222) dm_X12_paired_219 rfl rfl (fun hb4 => ?_) (fun hb4 => ?_)
        · replace hb4 := dT hb4
          refine me1 (pc' := 231) (L' := [(7, ii 1), (6, ii 0), (5, ii 0), (0, .ref 102), (1, ii vb), (2, ii (hd : Int)), (3, ii (hd2 : Int)), (4, ii place)]) (S' := [.ref 102]) dm_X12_paired_230 rfl rfl rfl rfl ?_
          refine me0 (pc' := 232) (S' := [ii 3, .ref 102]) dm_X12_paired_231 rfl rfl rfl rfl ?_
          refine me1 (pc' := 234) (L' := [(7, ii 1), (6, ii 0), (5, ii 0), (0, .ref 102), (1, ii vb), (2, ii (hd : Int)), (3, ii (hd2 : Int)), (4, ii place)]) (S' := [ii place, ii 3, .ref 102]) dm_X12_paired_232 rfl rfl rfl rfl ?_
          refine x_cv (pc' := 237) (rest := []) dm_X12_paired_234 rfl (q_inv (As := [ii 3, ii place]) (S := []) hm rfl rfl rfl) rfl rfl rfl (r_fail_ (s := s) hm (by omega) he0 hca.1 hca.2) ?_
          rintro _ _ ⟨rfl, rfl⟩
          refine y_ret (r := some (ii (-1))) dm_X12_paired_237 rfl rfl rfl ?_
          rw [show pfl vb v w = .inl 3 by unfold pfl flE; rw [if_neg ha, show askF v w = 3 by unfold askF; rw [if_neg (by omega), if_pos (by omega)]]; rfl]
          exact ⟨_, rfl, rresN_f (rext_fail (rext_rf s) _ _) (rfr_fail (rfr_rf s) _ _) (by show s.1 3 ≤ _; omega) (by show s.1 4 ≤ _; omega) rfl rfl (by decide)⟩
        · replace hb4 := dF hb4
          refine me1 (pc' := 223) (L' := [(7, ii 1), (6, ii 0), (5, ii 0), (0, .ref 102), (1, ii vb), (2, ii (hd : Int)), (3, ii (hd2 : Int)), (4, ii place)]) (S' := [.ref 102]) dm_X12_paired_222 rfl rfl rfl rfl ?_
          refine me1 (pc' := 224) (L' := [(7, ii 1), (6, ii 0), (5, ii 0), (0, .ref 102), (1, ii vb), (2, ii (hd : Int)), (3, ii (hd2 : Int)), (4, ii place)]) (S' := [ii (hd2 : Int), .ref 102]) dm_X12_paired_223 rfl rfl rfl rfl ?_
          refine x_cp (pc' := 227) (v := zz (decide (2 ≤ vk w ∧ vk w ≤ 5))) (rest := []) dm_X12_paired_224 rfl (q_inv (As := [ii (hd2 : Int)]) (S := []) hm rfl rfl rfl) rfl rfl rfl (r_isRow_ hm (by omega) hB0 hw) ?_
          refine y_zeq (c := decide (2 ≤ vk w ∧ vk w ≤ 5)) (t := 238) (pc' := 230) dm_X12_paired_227 rfl rfl (fun hb5 => ?_) (fun hb5 => ?_)
          · replace hb5 := dF hb5
            refine me1 (pc' := 239) (L' := [(7, ii 1), (6, ii 0), (5, ii 0), (0, .ref 102), (1, ii vb), (2, ii (hd : Int)), (3, ii (hd2 : Int)), (4, ii place)]) (S' := [.ref 102]) dm_X12_paired_238 rfl rfl rfl rfl ?_
            refine me1 (pc' := 240) (L' := [(7, ii 1), (6, ii 0), (5, ii 0), (0, .ref 102), (1, ii vb), (2, ii (hd : Int)), (3, ii (hd2 : Int)), (4, ii place)]) (S' := [ii (hd : Int), .ref 102]) dm_X12_paired_239 rfl rfl rfl rfl ?_
            refine x_cp (pc' := 243) (v := zz (decide (vk v ≤ 1))) (rest := []) dm_X12_paired_240 rfl (q_inv (As := [ii (hd : Int)]) (S := []) hm rfl rfl rfl) rfl rfl rfl (r_isOne_ hm (by omega) hB0 hv) ?_
            refine y_zne (c := decide (vk v ≤ 1)) (t := 258) (pc' := 246) dm_X12_paired_243 rfl rfl (fun hb6 => ?_) (fun hb6 => ?_)
            · replace hb6 := dT hb6; exfalso; omega
            · replace hb6 := dF hb6
              refine me1 (pc' := 247) (L' := [(7, ii 1), (6, ii 0), (5, ii 0), (0, .ref 102), (1, ii vb), (2, ii (hd : Int)), (3, ii (hd2 : Int)), (4, ii place)]) (S' := [.ref 102]) dm_X12_paired_246 rfl rfl rfl rfl ?_
              refine me1 (pc' := 248) (L' := [(7, ii 1), (6, ii 0), (5, ii 0), (0, .ref 102), (1, ii vb), (2, ii (hd : Int)), (3, ii (hd2 : Int)), (4, ii place)]) (S' := [ii (hd2 : Int), .ref 102]) dm_X12_paired_247 rfl rfl rfl rfl ?_
              refine x_cp (pc' := 251) (v := zz (decide (vk w ≤ 1))) (rest := []) dm_X12_paired_248 rfl (q_inv (As := [ii (hd2 : Int)]) (S := []) hm rfl rfl rfl) rfl rfl rfl (r_isOne_ hm (by omega) hB0 hw) ?_
              refine y_zne (c := decide (vk w ≤ 1)) (t := 258) (pc' := 254) dm_X12_paired_251 rfl rfl (fun hb7 => ?_) (fun hb7 => ?_)
              · replace hb7 := dT hb7; exfalso; omega
              · replace hb7 := dF hb7
                refine me0 (pc' := 255) (S' := [ii 1]) dm_X12_paired_254 rfl rfl rfl rfl ?_
                refine me2 (pc' := 259) (S' := [ii 1]) dm_X12_paired_255 rfl rfl rfl ?_
                refine me1 (pc' := 261) (L' := [(8, ii 1), (7, ii 1), (6, ii 0), (5, ii 0), (0, .ref 102), (1, ii vb), (2, ii (hd : Int)), (3, ii (hd2 : Int)), (4, ii place)]) (S' := []) dm_X12_paired_259 rfl rfl rfl rfl ?_
                refine me1 (pc' := 263) (L' := [(8, ii 1), (7, ii 1), (6, ii 0), (5, ii 0), (0, .ref 102), (1, ii vb), (2, ii (hd : Int)), (3, ii (hd2 : Int)), (4, ii place)]) (S' := [ii 1]) dm_X12_paired_261 rfl rfl rfl rfl ?_
                refine me_1f (pc' := 266) dm_X12_paired_263 rfl (by decide) rfl ?_
                refine me1 (pc' := 267) (L' := [(8, ii 1), (7, ii 1), (6, ii 0), (5, ii 0), (0, .ref 102), (1, ii vb), (2, ii (hd : Int)), (3, ii (hd2 : Int)), (4, ii place)]) (S' := [.ref 102]) dm_X12_paired_266 rfl rfl rfl rfl ?_
                refine me1 (pc' := 268) (L' := [(8, ii 1), (7, ii 1), (6, ii 0), (5, ii 0), (0, .ref 102), (1, ii vb), (2, ii (hd : Int)), (3, ii (hd2 : Int)), (4, ii place)]) (S' := [ii (hd : Int), .ref 102]) dm_X12_paired_267 rfl rfl rfl rfl ?_
                refine x_cp (pc' := 271) (v := ii (vm v : Int)) (rest := []) dm_X12_paired_268 rfl (q_inv (As := [ii (hd : Int)]) (S := []) hm rfl rfl rfl) rfl rfl rfl (r_many_ hm (by omega) hB0 hv) ?_
                refine me1 (pc' := 272) (L' := [(8, ii 1), (7, ii 1), (6, ii 0), (5, ii 0), (0, .ref 102), (1, ii vb), (2, ii (hd : Int)), (3, ii (hd2 : Int)), (4, ii place)]) (S' := [.ref 102, ii (vm v : Int)]) dm_X12_paired_271 rfl rfl rfl rfl ?_
                refine me1 (pc' := 273) (L' := [(8, ii 1), (7, ii 1), (6, ii 0), (5, ii 0), (0, .ref 102), (1, ii vb), (2, ii (hd : Int)), (3, ii (hd2 : Int)), (4, ii place)]) (S' := [ii (hd2 : Int), .ref 102, ii (vm v : Int)]) dm_X12_paired_272 rfl rfl rfl rfl ?_
                refine x_cp (pc' := 276) (v := ii (vm w : Int)) (rest := [ii (vm v : Int)]) dm_X12_paired_273 rfl (q_inv (As := [ii (hd2 : Int)]) (S := [ii (vm v : Int)]) hm rfl rfl rfl) rfl rfl rfl (r_many_ hm (by omega) hB0 hw) ?_
                refine y_2ne (a := (vm v : Int)) (b := (vm w : Int)) (t := 292) (pc' := 279) dm_X12_paired_276 rfl rfl (by omega) (fun hb8 => ?_) (fun hb8 => ?_)
                · refine me1 (pc' := 293) (L' := [(8, ii 1), (7, ii 1), (6, ii 0), (5, ii 0), (0, .ref 102), (1, ii vb), (2, ii (hd : Int)), (3, ii (hd2 : Int)), (4, ii place)]) (S' := [.ref 102]) dm_X12_paired_292 rfl rfl rfl rfl ?_
                  refine me0 (pc' := 294) (S' := [ii 4, .ref 102]) dm_X12_paired_293 rfl rfl rfl rfl ?_
                  refine me1 (pc' := 296) (L' := [(8, ii 1), (7, ii 1), (6, ii 0), (5, ii 0), (0, .ref 102), (1, ii vb), (2, ii (hd : Int)), (3, ii (hd2 : Int)), (4, ii place)]) (S' := [ii place, ii 4, .ref 102]) dm_X12_paired_294 rfl rfl rfl rfl ?_
                  refine x_cv (pc' := 299) (rest := []) dm_X12_paired_296 rfl (q_inv (As := [ii 4, ii place]) (S := []) hm rfl rfl rfl) rfl rfl rfl (r_fail_ (s := s) hm (by omega) he0 hca.1 hca.2) ?_
                  rintro _ _ ⟨rfl, rfl⟩
                  refine y_ret (r := some (ii (-1))) dm_X12_paired_299 rfl rfl rfl ?_
                  rw [show pfl vb v w = .inl 4 by unfold pfl flE; rw [if_neg ha, show askF v w = 4 by unfold askF; rw [if_neg (by omega), if_neg (by omega), if_pos (by omega)]]; rfl]
                  exact ⟨_, rfl, rresN_f (rext_fail (rext_rf s) _ _) (rfr_fail (rfr_rf s) _ _) (by show s.1 3 ≤ _; omega) (by show s.1 4 ≤ _; omega) rfl rfl (by decide)⟩
                · refine me1 (pc' := 280) (L' := [(8, ii 1), (7, ii 1), (6, ii 0), (5, ii 0), (0, .ref 102), (1, ii vb), (2, ii (hd : Int)), (3, ii (hd2 : Int)), (4, ii place)]) (S' := [.ref 102]) dm_X12_paired_279 rfl rfl rfl rfl ?_
                  refine me1 (pc' := 281) (L' := [(8, ii 1), (7, ii 1), (6, ii 0), (5, ii 0), (0, .ref 102), (1, ii vb), (2, ii (hd : Int)), (3, ii (hd2 : Int)), (4, ii place)]) (S' := [ii (hd : Int), .ref 102]) dm_X12_paired_280 rfl rfl rfl rfl ?_
                  refine x_cp (pc' := 284) (v := ii (vc v : Int)) (rest := []) dm_X12_paired_281 rfl (q_inv (As := [ii (hd : Int)]) (S := []) hm rfl rfl rfl) rfl rfl rfl (r_columns_ hm (by omega) hB0 hv) ?_
                  refine me1 (pc' := 285) (L' := [(8, ii 1), (7, ii 1), (6, ii 0), (5, ii 0), (0, .ref 102), (1, ii vb), (2, ii (hd : Int)), (3, ii (hd2 : Int)), (4, ii place)]) (S' := [.ref 102, ii (vc v : Int)]) dm_X12_paired_284 rfl rfl rfl rfl ?_
                  refine me1 (pc' := 286) (L' := [(8, ii 1), (7, ii 1), (6, ii 0), (5, ii 0), (0, .ref 102), (1, ii vb), (2, ii (hd : Int)), (3, ii (hd2 : Int)), (4, ii place)]) (S' := [ii (hd2 : Int), .ref 102, ii (vc v : Int)]) dm_X12_paired_285 rfl rfl rfl rfl ?_
                  refine x_cp (pc' := 289) (v := ii (vc w : Int)) (rest := [ii (vc v : Int)]) dm_X12_paired_286 rfl (q_inv (As := [ii (hd2 : Int)]) (S := [ii (vc v : Int)]) hm rfl rfl rfl) rfl rfl rfl (r_columns_ hm (by omega) hB0 hw) ?_
                  refine y_2eq (a := (vc v : Int)) (b := (vc w : Int)) (t := 300) (pc' := 292) dm_X12_paired_289 rfl rfl (by omega) (fun hb9 => ?_) (fun hb9 => ?_)
                  · exfalso; omega
                  · refine me1 (pc' := 293) (L' := [(8, ii 1), (7, ii 1), (6, ii 0), (5, ii 0), (0, .ref 102), (1, ii vb), (2, ii (hd : Int)), (3, ii (hd2 : Int)), (4, ii place)]) (S' := [.ref 102]) dm_X12_paired_292 rfl rfl rfl rfl ?_
                    refine me0 (pc' := 294) (S' := [ii 4, .ref 102]) dm_X12_paired_293 rfl rfl rfl rfl ?_
                    refine me1 (pc' := 296) (L' := [(8, ii 1), (7, ii 1), (6, ii 0), (5, ii 0), (0, .ref 102), (1, ii vb), (2, ii (hd : Int)), (3, ii (hd2 : Int)), (4, ii place)]) (S' := [ii place, ii 4, .ref 102]) dm_X12_paired_294 rfl rfl rfl rfl ?_
                    refine x_cv (pc' := 299) (rest := []) dm_X12_paired_296 rfl (q_inv (As := [ii 4, ii place]) (S := []) hm rfl rfl rfl) rfl rfl rfl (r_fail_ (s := s) hm (by omega) he0 hca.1 hca.2) ?_
                    rintro _ _ ⟨rfl, rfl⟩
                    refine y_ret (r := some (ii (-1))) dm_X12_paired_299 rfl rfl rfl ?_
                    rw [show pfl vb v w = .inl 4 by unfold pfl flE; rw [if_neg ha, show askF v w = 4 by unfold askF; rw [if_neg (by omega), if_neg (by omega), if_pos (by omega)]]; rfl]
                    exact ⟨_, rfl, rresN_f (rext_fail (rext_rf s) _ _) (rfr_fail (rfr_rf s) _ _) (by show s.1 3 ≤ _; omega) (by show s.1 4 ≤ _; omega) rfl rfl (by decide)⟩
          · replace hb5 := dT hb5
            refine me1 (pc' := 231) (L' := [(7, ii 1), (6, ii 0), (5, ii 0), (0, .ref 102), (1, ii vb), (2, ii (hd : Int)), (3, ii (hd2 : Int)), (4, ii place)]) (S' := [.ref 102]) dm_X12_paired_230 rfl rfl rfl rfl ?_
            refine me0 (pc' := 232) (S' := [ii 3, .ref 102]) dm_X12_paired_231 rfl rfl rfl rfl ?_
            refine me1 (pc' := 234) (L' := [(7, ii 1), (6, ii 0), (5, ii 0), (0, .ref 102), (1, ii vb), (2, ii (hd : Int)), (3, ii (hd2 : Int)), (4, ii place)]) (S' := [ii place, ii 3, .ref 102]) dm_X12_paired_232 rfl rfl rfl rfl ?_
            refine x_cv (pc' := 237) (rest := []) dm_X12_paired_234 rfl (q_inv (As := [ii 3, ii place]) (S := []) hm rfl rfl rfl) rfl rfl rfl (r_fail_ (s := s) hm (by omega) he0 hca.1 hca.2) ?_
            rintro _ _ ⟨rfl, rfl⟩
            refine y_ret (r := some (ii (-1))) dm_X12_paired_237 rfl rfl rfl ?_
            rw [show pfl vb v w = .inl 3 by unfold pfl flE; rw [if_neg ha, show askF v w = 3 by unfold askF; rw [if_neg (by omega), if_pos (by omega)]]; rfl]
            exact ⟨_, rfl, rresN_f (rext_fail (rext_rf s) _ _) (rfr_fail (rfr_rf s) _ _) (by show s.1 3 ≤ _; omega) (by show s.1 4 ≤ _; omega) rfl rfl (by decide)⟩
      · refine me1 (pc' := 193) (L' := [(6, ii 0), (5, ii 0), (0, .ref 102), (1, ii vb), (2, ii (hd : Int)), (3, ii (hd2 : Int)), (4, ii place)]) (S' := [.ref 102]) dm_X12_paired_192 rfl rfl rfl rfl ?_
        refine me1 (pc' := 194) (L' := [(6, ii 0), (5, ii 0), (0, .ref 102), (1, ii vb), (2, ii (hd : Int)), (3, ii (hd2 : Int)), (4, ii place)]) (S' := [ii (hd2 : Int), .ref 102]) dm_X12_paired_193 rfl rfl rfl rfl ?_
        refine x_cp (pc' := 197) (v := ii (vk w : Int)) (rest := []) dm_X12_paired_194 rfl (q_inv (As := [ii (hd2 : Int)]) (S := []) hm rfl rfl rfl) rfl rfl rfl (r_kindOf_ hm (by omega) hB0 hw) ?_
        refine me0 (pc' := 199) (S' := [ii 6, ii (vk w : Int)]) dm_X12_paired_197 rfl rfl rfl rfl ?_
        refine y_2ne (a := (vk w : Int)) (b := 6) (t := 206) (pc' := 202) dm_X12_paired_199 rfl rfl (by omega) (fun hb10 => ?_) (fun hb10 => ?_)
        · refine me0 (pc' := 207) (S' := [ii 0]) dm_X12_paired_206 rfl rfl rfl rfl ?_
          refine me1 (pc' := 209) (L' := [(7, ii 0), (6, ii 0), (5, ii 0), (0, .ref 102), (1, ii vb), (2, ii (hd : Int)), (3, ii (hd2 : Int)), (4, ii place)]) (S' := []) dm_X12_paired_207 rfl rfl rfl rfl ?_
          refine me1 (pc' := 211) (L' := [(7, ii 0), (6, ii 0), (5, ii 0), (0, .ref 102), (1, ii vb), (2, ii (hd : Int)), (3, ii (hd2 : Int)), (4, ii place)]) (S' := [ii 0]) dm_X12_paired_209 rfl rfl rfl rfl ?_
          refine me_1t (pc' := 238) dm_X12_paired_211 rfl (by decide) ?_
          refine me1 (pc' := 239) (L' := [(7, ii 0), (6, ii 0), (5, ii 0), (0, .ref 102), (1, ii vb), (2, ii (hd : Int)), (3, ii (hd2 : Int)), (4, ii place)]) (S' := [.ref 102]) dm_X12_paired_238 rfl rfl rfl rfl ?_
          refine me1 (pc' := 240) (L' := [(7, ii 0), (6, ii 0), (5, ii 0), (0, .ref 102), (1, ii vb), (2, ii (hd : Int)), (3, ii (hd2 : Int)), (4, ii place)]) (S' := [ii (hd : Int), .ref 102]) dm_X12_paired_239 rfl rfl rfl rfl ?_
          refine x_cp (pc' := 243) (v := zz (decide (vk v ≤ 1))) (rest := []) dm_X12_paired_240 rfl (q_inv (As := [ii (hd : Int)]) (S := []) hm rfl rfl rfl) rfl rfl rfl (r_isOne_ hm (by omega) hB0 hv) ?_
          refine y_zne (c := decide (vk v ≤ 1)) (t := 258) (pc' := 246) dm_X12_paired_243 rfl rfl (fun hb11 => ?_) (fun hb11 => ?_)
          · replace hb11 := dT hb11; exfalso; omega
          · replace hb11 := dF hb11
            refine me1 (pc' := 247) (L' := [(7, ii 0), (6, ii 0), (5, ii 0), (0, .ref 102), (1, ii vb), (2, ii (hd : Int)), (3, ii (hd2 : Int)), (4, ii place)]) (S' := [.ref 102]) dm_X12_paired_246 rfl rfl rfl rfl ?_
            refine me1 (pc' := 248) (L' := [(7, ii 0), (6, ii 0), (5, ii 0), (0, .ref 102), (1, ii vb), (2, ii (hd : Int)), (3, ii (hd2 : Int)), (4, ii place)]) (S' := [ii (hd2 : Int), .ref 102]) dm_X12_paired_247 rfl rfl rfl rfl ?_
            refine x_cp (pc' := 251) (v := zz (decide (vk w ≤ 1))) (rest := []) dm_X12_paired_248 rfl (q_inv (As := [ii (hd2 : Int)]) (S := []) hm rfl rfl rfl) rfl rfl rfl (r_isOne_ hm (by omega) hB0 hw) ?_
            refine y_zne (c := decide (vk w ≤ 1)) (t := 258) (pc' := 254) dm_X12_paired_251 rfl rfl (fun hb12 => ?_) (fun hb12 => ?_)
            · replace hb12 := dT hb12; exfalso; omega
            · replace hb12 := dF hb12
              refine me0 (pc' := 255) (S' := [ii 1]) dm_X12_paired_254 rfl rfl rfl rfl ?_
              refine me2 (pc' := 259) (S' := [ii 1]) dm_X12_paired_255 rfl rfl rfl ?_
              refine me1 (pc' := 261) (L' := [(8, ii 1), (7, ii 0), (6, ii 0), (5, ii 0), (0, .ref 102), (1, ii vb), (2, ii (hd : Int)), (3, ii (hd2 : Int)), (4, ii place)]) (S' := []) dm_X12_paired_259 rfl rfl rfl rfl ?_
              refine me1 (pc' := 263) (L' := [(8, ii 1), (7, ii 0), (6, ii 0), (5, ii 0), (0, .ref 102), (1, ii vb), (2, ii (hd : Int)), (3, ii (hd2 : Int)), (4, ii place)]) (S' := [ii 1]) dm_X12_paired_261 rfl rfl rfl rfl ?_
              refine me_1f (pc' := 266) dm_X12_paired_263 rfl (by decide) rfl ?_
              refine me1 (pc' := 267) (L' := [(8, ii 1), (7, ii 0), (6, ii 0), (5, ii 0), (0, .ref 102), (1, ii vb), (2, ii (hd : Int)), (3, ii (hd2 : Int)), (4, ii place)]) (S' := [.ref 102]) dm_X12_paired_266 rfl rfl rfl rfl ?_
              refine me1 (pc' := 268) (L' := [(8, ii 1), (7, ii 0), (6, ii 0), (5, ii 0), (0, .ref 102), (1, ii vb), (2, ii (hd : Int)), (3, ii (hd2 : Int)), (4, ii place)]) (S' := [ii (hd : Int), .ref 102]) dm_X12_paired_267 rfl rfl rfl rfl ?_
              refine x_cp (pc' := 271) (v := ii (vm v : Int)) (rest := []) dm_X12_paired_268 rfl (q_inv (As := [ii (hd : Int)]) (S := []) hm rfl rfl rfl) rfl rfl rfl (r_many_ hm (by omega) hB0 hv) ?_
              refine me1 (pc' := 272) (L' := [(8, ii 1), (7, ii 0), (6, ii 0), (5, ii 0), (0, .ref 102), (1, ii vb), (2, ii (hd : Int)), (3, ii (hd2 : Int)), (4, ii place)]) (S' := [.ref 102, ii (vm v : Int)]) dm_X12_paired_271 rfl rfl rfl rfl ?_
              refine me1 (pc' := 273) (L' := [(8, ii 1), (7, ii 0), (6, ii 0), (5, ii 0), (0, .ref 102), (1, ii vb), (2, ii (hd : Int)), (3, ii (hd2 : Int)), (4, ii place)]) (S' := [ii (hd2 : Int), .ref 102, ii (vm v : Int)]) dm_X12_paired_272 rfl rfl rfl rfl ?_
              refine x_cp (pc' := 276) (v := ii (vm w : Int)) (rest := [ii (vm v : Int)]) dm_X12_paired_273 rfl (q_inv (As := [ii (hd2 : Int)]) (S := [ii (vm v : Int)]) hm rfl rfl rfl) rfl rfl rfl (r_many_ hm (by omega) hB0 hw) ?_
              refine y_2ne (a := (vm v : Int)) (b := (vm w : Int)) (t := 292) (pc' := 279) dm_X12_paired_276 rfl rfl (by omega) (fun hb13 => ?_) (fun hb13 => ?_)
              · refine me1 (pc' := 293) (L' := [(8, ii 1), (7, ii 0), (6, ii 0), (5, ii 0), (0, .ref 102), (1, ii vb), (2, ii (hd : Int)), (3, ii (hd2 : Int)), (4, ii place)]) (S' := [.ref 102]) dm_X12_paired_292 rfl rfl rfl rfl ?_
                refine me0 (pc' := 294) (S' := [ii 4, .ref 102]) dm_X12_paired_293 rfl rfl rfl rfl ?_
                refine me1 (pc' := 296) (L' := [(8, ii 1), (7, ii 0), (6, ii 0), (5, ii 0), (0, .ref 102), (1, ii vb), (2, ii (hd : Int)), (3, ii (hd2 : Int)), (4, ii place)]) (S' := [ii place, ii 4, .ref 102]) dm_X12_paired_294 rfl rfl rfl rfl ?_
                refine x_cv (pc' := 299) (rest := []) dm_X12_paired_296 rfl (q_inv (As := [ii 4, ii place]) (S := []) hm rfl rfl rfl) rfl rfl rfl (r_fail_ (s := s) hm (by omega) he0 hca.1 hca.2) ?_
                rintro _ _ ⟨rfl, rfl⟩
                refine y_ret (r := some (ii (-1))) dm_X12_paired_299 rfl rfl rfl ?_
                rw [show pfl vb v w = .inl 4 by unfold pfl flE; rw [if_neg ha, show askF v w = 4 by unfold askF; rw [if_neg (by omega), if_neg (by omega), if_pos (by omega)]]; rfl]
                exact ⟨_, rfl, rresN_f (rext_fail (rext_rf s) _ _) (rfr_fail (rfr_rf s) _ _) (by show s.1 3 ≤ _; omega) (by show s.1 4 ≤ _; omega) rfl rfl (by decide)⟩
              · refine me1 (pc' := 280) (L' := [(8, ii 1), (7, ii 0), (6, ii 0), (5, ii 0), (0, .ref 102), (1, ii vb), (2, ii (hd : Int)), (3, ii (hd2 : Int)), (4, ii place)]) (S' := [.ref 102]) dm_X12_paired_279 rfl rfl rfl rfl ?_
                refine me1 (pc' := 281) (L' := [(8, ii 1), (7, ii 0), (6, ii 0), (5, ii 0), (0, .ref 102), (1, ii vb), (2, ii (hd : Int)), (3, ii (hd2 : Int)), (4, ii place)]) (S' := [ii (hd : Int), .ref 102]) dm_X12_paired_280 rfl rfl rfl rfl ?_
                refine x_cp (pc' := 284) (v := ii (vc v : Int)) (rest := []) dm_X12_paired_281 rfl (q_inv (As := [ii (hd : Int)]) (S := []) hm rfl rfl rfl) rfl rfl rfl (r_columns_ hm (by omega) hB0 hv) ?_
                refine me1 (pc' := 285) (L' := [(8, ii 1), (7, ii 0), (6, ii 0), (5, ii 0), (0, .ref 102), (1, ii vb), (2, ii (hd : Int)), (3, ii (hd2 : Int)), (4, ii place)]) (S' := [.ref 102, ii (vc v : Int)]) dm_X12_paired_284 rfl rfl rfl rfl ?_
                refine me1 (pc' := 286) (L' := [(8, ii 1), (7, ii 0), (6, ii 0), (5, ii 0), (0, .ref 102), (1, ii vb), (2, ii (hd : Int)), (3, ii (hd2 : Int)), (4, ii place)]) (S' := [ii (hd2 : Int), .ref 102, ii (vc v : Int)]) dm_X12_paired_285 rfl rfl rfl rfl ?_
                refine x_cp (pc' := 289) (v := ii (vc w : Int)) (rest := [ii (vc v : Int)]) dm_X12_paired_286 rfl (q_inv (As := [ii (hd2 : Int)]) (S := [ii (vc v : Int)]) hm rfl rfl rfl) rfl rfl rfl (r_columns_ hm (by omega) hB0 hw) ?_
                refine y_2eq (a := (vc v : Int)) (b := (vc w : Int)) (t := 300) (pc' := 292) dm_X12_paired_289 rfl rfl (by omega) (fun hb14 => ?_) (fun hb14 => ?_)
                · exfalso; omega
                · refine me1 (pc' := 293) (L' := [(8, ii 1), (7, ii 0), (6, ii 0), (5, ii 0), (0, .ref 102), (1, ii vb), (2, ii (hd : Int)), (3, ii (hd2 : Int)), (4, ii place)]) (S' := [.ref 102]) dm_X12_paired_292 rfl rfl rfl rfl ?_
                  refine me0 (pc' := 294) (S' := [ii 4, .ref 102]) dm_X12_paired_293 rfl rfl rfl rfl ?_
                  refine me1 (pc' := 296) (L' := [(8, ii 1), (7, ii 0), (6, ii 0), (5, ii 0), (0, .ref 102), (1, ii vb), (2, ii (hd : Int)), (3, ii (hd2 : Int)), (4, ii place)]) (S' := [ii place, ii 4, .ref 102]) dm_X12_paired_294 rfl rfl rfl rfl ?_
                  refine x_cv (pc' := 299) (rest := []) dm_X12_paired_296 rfl (q_inv (As := [ii 4, ii place]) (S := []) hm rfl rfl rfl) rfl rfl rfl (r_fail_ (s := s) hm (by omega) he0 hca.1 hca.2) ?_
                  rintro _ _ ⟨rfl, rfl⟩
                  refine y_ret (r := some (ii (-1))) dm_X12_paired_299 rfl rfl rfl ?_
                  rw [show pfl vb v w = .inl 4 by unfold pfl flE; rw [if_neg ha, show askF v w = 4 by unfold askF; rw [if_neg (by omega), if_neg (by omega), if_pos (by omega)]]; rfl]
                  exact ⟨_, rfl, rresN_f (rext_fail (rext_rf s) _ _) (rfr_fail (rfr_rf s) _ _) (by show s.1 3 ≤ _; omega) (by show s.1 4 ≤ _; omega) rfl rfl (by decide)⟩
        · refine me0 (pc' := 203) (S' := [ii 1]) dm_X12_paired_202 rfl rfl rfl rfl ?_
          refine me2 (pc' := 207) (S' := [ii 1]) dm_X12_paired_203 rfl rfl rfl ?_
          refine me1 (pc' := 209) (L' := [(7, ii 1), (6, ii 0), (5, ii 0), (0, .ref 102), (1, ii vb), (2, ii (hd : Int)), (3, ii (hd2 : Int)), (4, ii place)]) (S' := []) dm_X12_paired_207 rfl rfl rfl rfl ?_
          refine me1 (pc' := 211) (L' := [(7, ii 1), (6, ii 0), (5, ii 0), (0, .ref 102), (1, ii vb), (2, ii (hd : Int)), (3, ii (hd2 : Int)), (4, ii place)]) (S' := [ii 1]) dm_X12_paired_209 rfl rfl rfl rfl ?_
          refine me_1f (pc' := 214) dm_X12_paired_211 rfl (by decide) rfl ?_
          refine me1 (pc' := 215) (L' := [(7, ii 1), (6, ii 0), (5, ii 0), (0, .ref 102), (1, ii vb), (2, ii (hd : Int)), (3, ii (hd2 : Int)), (4, ii place)]) (S' := [.ref 102]) dm_X12_paired_214 rfl rfl rfl rfl ?_
          refine me1 (pc' := 216) (L' := [(7, ii 1), (6, ii 0), (5, ii 0), (0, .ref 102), (1, ii vb), (2, ii (hd : Int)), (3, ii (hd2 : Int)), (4, ii place)]) (S' := [ii (hd : Int), .ref 102]) dm_X12_paired_215 rfl rfl rfl rfl ?_
          refine x_cp (pc' := 219) (v := zz (decide (2 ≤ vk v ∧ vk v ≤ 5))) (rest := []) dm_X12_paired_216 rfl (q_inv (As := [ii (hd : Int)]) (S := []) hm rfl rfl rfl) rfl rfl rfl (r_isRow_ hm (by omega) hB0 hv) ?_
          refine y_zne (c := decide (2 ≤ vk v ∧ vk v ≤ 5)) (t := 230) (pc' := 222) dm_X12_paired_219 rfl rfl (fun hb15 => ?_) (fun hb15 => ?_)
          · replace hb15 := dT hb15
            refine me1 (pc' := 231) (L' := [(7, ii 1), (6, ii 0), (5, ii 0), (0, .ref 102), (1, ii vb), (2, ii (hd : Int)), (3, ii (hd2 : Int)), (4, ii place)]) (S' := [.ref 102]) dm_X12_paired_230 rfl rfl rfl rfl ?_
            refine me0 (pc' := 232) (S' := [ii 3, .ref 102]) dm_X12_paired_231 rfl rfl rfl rfl ?_
            refine me1 (pc' := 234) (L' := [(7, ii 1), (6, ii 0), (5, ii 0), (0, .ref 102), (1, ii vb), (2, ii (hd : Int)), (3, ii (hd2 : Int)), (4, ii place)]) (S' := [ii place, ii 3, .ref 102]) dm_X12_paired_232 rfl rfl rfl rfl ?_
            refine x_cv (pc' := 237) (rest := []) dm_X12_paired_234 rfl (q_inv (As := [ii 3, ii place]) (S := []) hm rfl rfl rfl) rfl rfl rfl (r_fail_ (s := s) hm (by omega) he0 hca.1 hca.2) ?_
            rintro _ _ ⟨rfl, rfl⟩
            refine y_ret (r := some (ii (-1))) dm_X12_paired_237 rfl rfl rfl ?_
            rw [show pfl vb v w = .inl 3 by unfold pfl flE; rw [if_neg ha, show askF v w = 3 by unfold askF; rw [if_neg (by omega), if_pos (by omega)]]; rfl]
            exact ⟨_, rfl, rresN_f (rext_fail (rext_rf s) _ _) (rfr_fail (rfr_rf s) _ _) (by show s.1 3 ≤ _; omega) (by show s.1 4 ≤ _; omega) rfl rfl (by decide)⟩
          · replace hb15 := dF hb15
            refine me1 (pc' := 223) (L' := [(7, ii 1), (6, ii 0), (5, ii 0), (0, .ref 102), (1, ii vb), (2, ii (hd : Int)), (3, ii (hd2 : Int)), (4, ii place)]) (S' := [.ref 102]) dm_X12_paired_222 rfl rfl rfl rfl ?_
            refine me1 (pc' := 224) (L' := [(7, ii 1), (6, ii 0), (5, ii 0), (0, .ref 102), (1, ii vb), (2, ii (hd : Int)), (3, ii (hd2 : Int)), (4, ii place)]) (S' := [ii (hd2 : Int), .ref 102]) dm_X12_paired_223 rfl rfl rfl rfl ?_
            refine x_cp (pc' := 227) (v := zz (decide (2 ≤ vk w ∧ vk w ≤ 5))) (rest := []) dm_X12_paired_224 rfl (q_inv (As := [ii (hd2 : Int)]) (S := []) hm rfl rfl rfl) rfl rfl rfl (r_isRow_ hm (by omega) hB0 hw) ?_
            refine y_zeq (c := decide (2 ≤ vk w ∧ vk w ≤ 5)) (t := 238) (pc' := 230) dm_X12_paired_227 rfl rfl (fun hb16 => ?_) (fun hb16 => ?_)
            · replace hb16 := dF hb16
              refine me1 (pc' := 239) (L' := [(7, ii 1), (6, ii 0), (5, ii 0), (0, .ref 102), (1, ii vb), (2, ii (hd : Int)), (3, ii (hd2 : Int)), (4, ii place)]) (S' := [.ref 102]) dm_X12_paired_238 rfl rfl rfl rfl ?_
              refine me1 (pc' := 240) (L' := [(7, ii 1), (6, ii 0), (5, ii 0), (0, .ref 102), (1, ii vb), (2, ii (hd : Int)), (3, ii (hd2 : Int)), (4, ii place)]) (S' := [ii (hd : Int), .ref 102]) dm_X12_paired_239 rfl rfl rfl rfl ?_
              refine x_cp (pc' := 243) (v := zz (decide (vk v ≤ 1))) (rest := []) dm_X12_paired_240 rfl (q_inv (As := [ii (hd : Int)]) (S := []) hm rfl rfl rfl) rfl rfl rfl (r_isOne_ hm (by omega) hB0 hv) ?_
              refine y_zne (c := decide (vk v ≤ 1)) (t := 258) (pc' := 246) dm_X12_paired_243 rfl rfl (fun hb17 => ?_) (fun hb17 => ?_)
              · replace hb17 := dT hb17; exfalso; omega
              · replace hb17 := dF hb17
                refine me1 (pc' := 247) (L' := [(7, ii 1), (6, ii 0), (5, ii 0), (0, .ref 102), (1, ii vb), (2, ii (hd : Int)), (3, ii (hd2 : Int)), (4, ii place)]) (S' := [.ref 102]) dm_X12_paired_246 rfl rfl rfl rfl ?_
                refine me1 (pc' := 248) (L' := [(7, ii 1), (6, ii 0), (5, ii 0), (0, .ref 102), (1, ii vb), (2, ii (hd : Int)), (3, ii (hd2 : Int)), (4, ii place)]) (S' := [ii (hd2 : Int), .ref 102]) dm_X12_paired_247 rfl rfl rfl rfl ?_
                refine x_cp (pc' := 251) (v := zz (decide (vk w ≤ 1))) (rest := []) dm_X12_paired_248 rfl (q_inv (As := [ii (hd2 : Int)]) (S := []) hm rfl rfl rfl) rfl rfl rfl (r_isOne_ hm (by omega) hB0 hw) ?_
                refine y_zne (c := decide (vk w ≤ 1)) (t := 258) (pc' := 254) dm_X12_paired_251 rfl rfl (fun hb18 => ?_) (fun hb18 => ?_)
                · replace hb18 := dT hb18; exfalso; omega
                · replace hb18 := dF hb18
                  refine me0 (pc' := 255) (S' := [ii 1]) dm_X12_paired_254 rfl rfl rfl rfl ?_
                  refine me2 (pc' := 259) (S' := [ii 1]) dm_X12_paired_255 rfl rfl rfl ?_
                  refine me1 (pc' := 261) (L' := [(8, ii 1), (7, ii 1), (6, ii 0), (5, ii 0), (0, .ref 102), (1, ii vb), (2, ii (hd : Int)), (3, ii (hd2 : Int)), (4, ii place)]) (S' := []) dm_X12_paired_259 rfl rfl rfl rfl ?_
                  refine me1 (pc' := 263) (L' := [(8, ii 1), (7, ii 1), (6, ii 0), (5, ii 0), (0, .ref 102), (1, ii vb), (2, ii (hd : Int)), (3, ii (hd2 : Int)), (4, ii place)]) (S' := [ii 1]) dm_X12_paired_261 rfl rfl rfl rfl ?_
                  refine me_1f (pc' := 266) dm_X12_paired_263 rfl (by decide) rfl ?_
                  refine me1 (pc' := 267) (L' := [(8, ii 1), (7, ii 1), (6, ii 0), (5, ii 0), (0, .ref 102), (1, ii vb), (2, ii (hd : Int)), (3, ii (hd2 : Int)), (4, ii place)]) (S' := [.ref 102]) dm_X12_paired_266 rfl rfl rfl rfl ?_
                  refine me1 (pc' := 268) (L' := [(8, ii 1), (7, ii 1), (6, ii 0), (5, ii 0), (0, .ref 102), (1, ii vb), (2, ii (hd : Int)), (3, ii (hd2 : Int)), (4, ii place)]) (S' := [ii (hd : Int), .ref 102]) dm_X12_paired_267 rfl rfl rfl rfl ?_
                  refine x_cp (pc' := 271) (v := ii (vm v : Int)) (rest := []) dm_X12_paired_268 rfl (q_inv (As := [ii (hd : Int)]) (S := []) hm rfl rfl rfl) rfl rfl rfl (r_many_ hm (by omega) hB0 hv) ?_
                  refine me1 (pc' := 272) (L' := [(8, ii 1), (7, ii 1), (6, ii 0), (5, ii 0), (0, .ref 102), (1, ii vb), (2, ii (hd : Int)), (3, ii (hd2 : Int)), (4, ii place)]) (S' := [.ref 102, ii (vm v : Int)]) dm_X12_paired_271 rfl rfl rfl rfl ?_
                  refine me1 (pc' := 273) (L' := [(8, ii 1), (7, ii 1), (6, ii 0), (5, ii 0), (0, .ref 102), (1, ii vb), (2, ii (hd : Int)), (3, ii (hd2 : Int)), (4, ii place)]) (S' := [ii (hd2 : Int), .ref 102, ii (vm v : Int)]) dm_X12_paired_272 rfl rfl rfl rfl ?_
                  refine x_cp (pc' := 276) (v := ii (vm w : Int)) (rest := [ii (vm v : Int)]) dm_X12_paired_273 rfl (q_inv (As := [ii (hd2 : Int)]) (S := [ii (vm v : Int)]) hm rfl rfl rfl) rfl rfl rfl (r_many_ hm (by omega) hB0 hw) ?_
                  refine y_2ne (a := (vm v : Int)) (b := (vm w : Int)) (t := 292) (pc' := 279) dm_X12_paired_276 rfl rfl (by omega) (fun hb19 => ?_) (fun hb19 => ?_)
                  · refine me1 (pc' := 293) (L' := [(8, ii 1), (7, ii 1), (6, ii 0), (5, ii 0), (0, .ref 102), (1, ii vb), (2, ii (hd : Int)), (3, ii (hd2 : Int)), (4, ii place)]) (S' := [.ref 102]) dm_X12_paired_292 rfl rfl rfl rfl ?_
                    refine me0 (pc' := 294) (S' := [ii 4, .ref 102]) dm_X12_paired_293 rfl rfl rfl rfl ?_
                    refine me1 (pc' := 296) (L' := [(8, ii 1), (7, ii 1), (6, ii 0), (5, ii 0), (0, .ref 102), (1, ii vb), (2, ii (hd : Int)), (3, ii (hd2 : Int)), (4, ii place)]) (S' := [ii place, ii 4, .ref 102]) dm_X12_paired_294 rfl rfl rfl rfl ?_
                    refine x_cv (pc' := 299) (rest := []) dm_X12_paired_296 rfl (q_inv (As := [ii 4, ii place]) (S := []) hm rfl rfl rfl) rfl rfl rfl (r_fail_ (s := s) hm (by omega) he0 hca.1 hca.2) ?_
                    rintro _ _ ⟨rfl, rfl⟩
                    refine y_ret (r := some (ii (-1))) dm_X12_paired_299 rfl rfl rfl ?_
                    rw [show pfl vb v w = .inl 4 by unfold pfl flE; rw [if_neg ha, show askF v w = 4 by unfold askF; rw [if_neg (by omega), if_neg (by omega), if_pos (by omega)]]; rfl]
                    exact ⟨_, rfl, rresN_f (rext_fail (rext_rf s) _ _) (rfr_fail (rfr_rf s) _ _) (by show s.1 3 ≤ _; omega) (by show s.1 4 ≤ _; omega) rfl rfl (by decide)⟩
                  · refine me1 (pc' := 280) (L' := [(8, ii 1), (7, ii 1), (6, ii 0), (5, ii 0), (0, .ref 102), (1, ii vb), (2, ii (hd : Int)), (3, ii (hd2 : Int)), (4, ii place)]) (S' := [.ref 102]) dm_X12_paired_279 rfl rfl rfl rfl ?_
                    refine me1 (pc' := 281) (L' := [(8, ii 1), (7, ii 1), (6, ii 0), (5, ii 0), (0, .ref 102), (1, ii vb), (2, ii (hd : Int)), (3, ii (hd2 : Int)), (4, ii place)]) (S' := [ii (hd : Int), .ref 102]) dm_X12_paired_280 rfl rfl rfl rfl ?_
                    refine x_cp (pc' := 284) (v := ii (vc v : Int)) (rest := []) dm_X12_paired_281 rfl (q_inv (As := [ii (hd : Int)]) (S := []) hm rfl rfl rfl) rfl rfl rfl (r_columns_ hm (by omega) hB0 hv) ?_
                    refine me1 (pc' := 285) (L' := [(8, ii 1), (7, ii 1), (6, ii 0), (5, ii 0), (0, .ref 102), (1, ii vb), (2, ii (hd : Int)), (3, ii (hd2 : Int)), (4, ii place)]) (S' := [.ref 102, ii (vc v : Int)]) dm_X12_paired_284 rfl rfl rfl rfl ?_
                    refine me1 (pc' := 286) (L' := [(8, ii 1), (7, ii 1), (6, ii 0), (5, ii 0), (0, .ref 102), (1, ii vb), (2, ii (hd : Int)), (3, ii (hd2 : Int)), (4, ii place)]) (S' := [ii (hd2 : Int), .ref 102, ii (vc v : Int)]) dm_X12_paired_285 rfl rfl rfl rfl ?_
                    refine x_cp (pc' := 289) (v := ii (vc w : Int)) (rest := [ii (vc v : Int)]) dm_X12_paired_286 rfl (q_inv (As := [ii (hd2 : Int)]) (S := [ii (vc v : Int)]) hm rfl rfl rfl) rfl rfl rfl (r_columns_ hm (by omega) hB0 hw) ?_
                    refine y_2eq (a := (vc v : Int)) (b := (vc w : Int)) (t := 300) (pc' := 292) dm_X12_paired_289 rfl rfl (by omega) (fun hb20 => ?_) (fun hb20 => ?_)
                    · exfalso; omega
                    · refine me1 (pc' := 293) (L' := [(8, ii 1), (7, ii 1), (6, ii 0), (5, ii 0), (0, .ref 102), (1, ii vb), (2, ii (hd : Int)), (3, ii (hd2 : Int)), (4, ii place)]) (S' := [.ref 102]) dm_X12_paired_292 rfl rfl rfl rfl ?_
                      refine me0 (pc' := 294) (S' := [ii 4, .ref 102]) dm_X12_paired_293 rfl rfl rfl rfl ?_
                      refine me1 (pc' := 296) (L' := [(8, ii 1), (7, ii 1), (6, ii 0), (5, ii 0), (0, .ref 102), (1, ii vb), (2, ii (hd : Int)), (3, ii (hd2 : Int)), (4, ii place)]) (S' := [ii place, ii 4, .ref 102]) dm_X12_paired_294 rfl rfl rfl rfl ?_
                      refine x_cv (pc' := 299) (rest := []) dm_X12_paired_296 rfl (q_inv (As := [ii 4, ii place]) (S := []) hm rfl rfl rfl) rfl rfl rfl (r_fail_ (s := s) hm (by omega) he0 hca.1 hca.2) ?_
                      rintro _ _ ⟨rfl, rfl⟩
                      refine y_ret (r := some (ii (-1))) dm_X12_paired_299 rfl rfl rfl ?_
                      rw [show pfl vb v w = .inl 4 by unfold pfl flE; rw [if_neg ha, show askF v w = 4 by unfold askF; rw [if_neg (by omega), if_neg (by omega), if_pos (by omega)]]; rfl]
                      exact ⟨_, rfl, rresN_f (rext_fail (rext_rf s) _ _) (rfr_fail (rfr_rf s) _ _) (by show s.1 3 ≤ _; omega) (by show s.1 4 ≤ _; omega) rfl rfl (by decide)⟩
            · replace hb16 := dT hb16
              refine me1 (pc' := 231) (L' := [(7, ii 1), (6, ii 0), (5, ii 0), (0, .ref 102), (1, ii vb), (2, ii (hd : Int)), (3, ii (hd2 : Int)), (4, ii place)]) (S' := [.ref 102]) dm_X12_paired_230 rfl rfl rfl rfl ?_
              refine me0 (pc' := 232) (S' := [ii 3, .ref 102]) dm_X12_paired_231 rfl rfl rfl rfl ?_
              refine me1 (pc' := 234) (L' := [(7, ii 1), (6, ii 0), (5, ii 0), (0, .ref 102), (1, ii vb), (2, ii (hd : Int)), (3, ii (hd2 : Int)), (4, ii place)]) (S' := [ii place, ii 3, .ref 102]) dm_X12_paired_232 rfl rfl rfl rfl ?_
              refine x_cv (pc' := 237) (rest := []) dm_X12_paired_234 rfl (q_inv (As := [ii 3, ii place]) (S := []) hm rfl rfl rfl) rfl rfl rfl (r_fail_ (s := s) hm (by omega) he0 hca.1 hca.2) ?_
              rintro _ _ ⟨rfl, rfl⟩
              refine y_ret (r := some (ii (-1))) dm_X12_paired_237 rfl rfl rfl ?_
              rw [show pfl vb v w = .inl 3 by unfold pfl flE; rw [if_neg ha, show askF v w = 3 by unfold askF; rw [if_neg (by omega), if_pos (by omega)]]; rfl]
              exact ⟨_, rfl, rresN_f (rext_fail (rext_rf s) _ _) (rfr_fail (rfr_rf s) _ _) (by show s.1 3 ≤ _; omega) (by show s.1 4 ≤ _; omega) rfl rfl (by decide)⟩
    · exfalso; omega
  · exfalso; omega
theorem rresN_up {pre post : mj_H} {s : RS} {e cb vb c1 v1 : Nat} {o : Nat ⊕ VV} {place : Int} {x : Value} {h' : mj_H} (h : rresN pre post s e o place cb vb x h') (hc : cb ≤ c1) (hv : vb ≤ v1) : rresN pre post s e o place c1 v1 x h' := by
  obtain ⟨s1, a1, a2, a3, a4, a5, a6⟩ := h
  exact ⟨s1, a1, a2, a3, by omega, by omega, a6⟩
theorem pgV_mono {xt : mj_X} {d k : Nat} {As : List Value} {h : mj_H} {P Q : Value → mj_H → Prop} (hp : pgV xt d k As h P) (hi : ∀ x h', P x h' → Q x h') : pgV xt d k As h Q := by
  obtain ⟨r, h', a, x, b, c⟩ := hp
  exact ⟨r, h', a, x, b, hi x h' c⟩
theorem r_pairF {vb : Int} {xt : mj_X} {d e hd hd2 q b : Nat} {pre post : mj_H} {s : RS} {v w : VV} {place : Int} (hm : pre.length = 102) (hd1 : 6 ≤ d) (hB : rB s) (hv : rv s (e + 1) hd v) (hh3 : 3 ≤ hd) (hw : rv s (e + 1) hd2 w) (hh4 : 3 ≤ hd2) (hq : s.1 4 = (q : Int)) (hb : s.1 3 = (b : Int)) (hq3 : 3 ≤ q) (hV2 : q < 310000) (he0 : s.1 5 = 0) (hca : 0 ≤ s.1 10 ∧ s.1 10 ≤ 100) (hC : b + 300 ≤ 820000) (hvb : vb = 43 ∨ vb = 45 ∨ vb = 42 ∨ vb = 37 ∨ vb = 38 ∨ vb = 124 ∨ vb = 60 ∨ vb = 62 ∨ vb = 61 ∨ vb = 33) (h7v : vk v ≠ 7) (h7w : vk w ≠ 7) : pgV xt d 276 [.ref 102, ii vb, ii (hd : Int), ii (hd2 : Int), ii place] (rS pre post s) (rresN pre post s (e + 1) (pfl vb v w) place (vq (lkV v w)) 1) := by
  have hvm := vw1_m hv.1
  have hwm := vw1_m hw.1
  by_cases ha : askF v w = 0
  · by_cases h1 : vk v ≤ 1
    · by_cases h6 : vk w = 6
      · exact r_pairWT hm hd1 hB hv hh3 hw hh4 hq hb hq3 hV2 he0 hca hC hvb h7v h7w ha h1 h6
      · by_cases h2 : vk w ≤ 1
        · exact r_pairW1 hm hd1 hB hv hh3 hw hh4 hq hb hq3 hV2 he0 hca hC hvb h7v h7w ha h1 h2
        · by_cases hc : vb = 60 ∨ vb = 62 ∨ vb = 61
          · exact r_pairWB hm hd1 hB hv hh3 hw hh4 hq hb hq3 hV2 he0 hca hC hvb h7v h7w ha h1 (by omega) hc
          · exact r_pairWL hm hd1 hB hv hh3 hw hh4 hq hb hq3 hV2 he0 hca hC hvb h7v h7w ha h1 (by omega) hc
    · by_cases h6 : vk v = 6
      · exact r_pairVT hm hd1 hB hv hh3 hw hh4 hq hb hq3 hV2 he0 hca hC hvb h7v h7w ha (by omega) h6
      · by_cases hc : vb = 60 ∨ vb = 62 ∨ vb = 61
        · exact r_pairVB hm hd1 hB hv hh3 hw hh4 hq hb hq3 hV2 he0 hca hC hvb h7v h7w ha (by omega) (by omega) hc
        · exact r_pairVL hm hd1 hB hv hh3 hw hh4 hq hb hq3 hV2 he0 hca hC hvb h7v h7w ha (by omega) (by omega) hc
  · exact pgV_mono (r_pairA hm hd1 hB hv hh3 hw hh4 hq hb hq3 hV2 he0 hca hC h7v h7w ha) (fun x h' z => rresN_up z (Nat.zero_le _) (Nat.zero_le _))
theorem dm_X12_paired_10 : mj_dec prog_14_method_50_code 10 = some (.iconst 1, 1) := by decide +kernel
theorem dm_X12_paired_11 : mj_dec prog_14_method_50_code 11 = some (.goto 4, 3) := by decide +kernel
theorem dm_X12_paired_27 : mj_dec prog_14_method_50_code 27 = some (.iconst 1, 1) := by decide +kernel
theorem dm_X12_paired_28 : mj_dec prog_14_method_50_code 28 = some (.goto 4, 3) := by decide +kernel
theorem dm_X12_paired_44 : mj_dec prog_14_method_50_code 44 = some (.iload 5, 2) := by decide +kernel
theorem dm_X12_paired_46 : mj_dec prog_14_method_50_code 46 = some (.ifCond .eq 29, 3) := by decide +kernel
theorem dm_X12_paired_49 : mj_dec prog_14_method_50_code 49 = some (.iload 6, 2) := by decide +kernel
theorem dm_X12_paired_51 : mj_dec prog_14_method_50_code 51 = some (.ifCond .eq 24, 3) := by decide +kernel
theorem dm_X12_paired_54 : mj_dec prog_14_method_50_code 54 = some (.aload_n 0, 1) := by decide +kernel
theorem dm_X12_paired_55 : mj_dec prog_14_method_50_code 55 = some (.iload_n 2, 1) := by decide +kernel
theorem dm_X12_paired_56 : mj_dec prog_14_method_50_code 56 = some (.invokevirtual 134, 3) := by decide +kernel
theorem dm_X12_paired_59 : mj_dec prog_14_method_50_code 59 = some (.aload_n 0, 1) := by decide +kernel
theorem dm_X12_paired_60 : mj_dec prog_14_method_50_code 60 = some (.iload_n 3, 1) := by decide +kernel
theorem dm_X12_paired_61 : mj_dec prog_14_method_50_code 61 = some (.invokevirtual 134, 3) := by decide +kernel
theorem dm_X12_paired_64 : mj_dec prog_14_method_50_code 64 = some (.if_icmp .eq 11, 3) := by decide +kernel
theorem dm_X12_paired_67 : mj_dec prog_14_method_50_code 67 = some (.aload_n 0, 1) := by decide +kernel
theorem dm_X12_paired_68 : mj_dec prog_14_method_50_code 68 = some (.iconst 4, 1) := by decide +kernel
theorem dm_X12_paired_69 : mj_dec prog_14_method_50_code 69 = some (.iload 4, 2) := by decide +kernel
theorem dm_X12_paired_71 : mj_dec prog_14_method_50_code 71 = some (.invokevirtual 190, 3) := by decide +kernel
theorem dm_X12_paired_74 : mj_dec prog_14_method_50_code 74 = some (.ireturn, 1) := by decide +kernel
theorem dm_X12_paired_75 : mj_dec prog_14_method_50_code 75 = some (.aload_n 0, 1) := by decide +kernel
theorem dm_X12_paired_76 : mj_dec prog_14_method_50_code 76 = some (.iload 5, 2) := by decide +kernel
theorem dm_X12_paired_78 : mj_dec prog_14_method_50_code 78 = some (.ifCond .eq 7, 3) := by decide +kernel
theorem dm_X12_paired_81 : mj_dec prog_14_method_50_code 81 = some (.iload_n 2, 1) := by decide +kernel
theorem dm_X12_paired_82 : mj_dec prog_14_method_50_code 82 = some (.goto 4, 3) := by decide +kernel
theorem dm_X12_paired_85 : mj_dec prog_14_method_50_code 85 = some (.iload_n 3, 1) := by decide +kernel
theorem dm_X12_paired_86 : mj_dec prog_14_method_50_code 86 = some (.invokevirtual 134, 3) := by decide +kernel
theorem dm_X12_paired_89 : mj_dec prog_14_method_50_code 89 = some (.istore 7, 2) := by decide +kernel
theorem dm_X12_paired_91 : mj_dec prog_14_method_50_code 91 = some (.aload_n 0, 1) := by decide +kernel
theorem dm_X12_paired_92 : mj_dec prog_14_method_50_code 92 = some (.bipush 7, 2) := by decide +kernel
theorem dm_X12_paired_94 : mj_dec prog_14_method_50_code 94 = some (.iload 7, 2) := by decide +kernel
theorem dm_X12_paired_96 : mj_dec prog_14_method_50_code 96 = some (.invokevirtual 126, 3) := by decide +kernel
theorem dm_X12_paired_99 : mj_dec prog_14_method_50_code 99 = some (.istore 8, 2) := by decide +kernel
theorem dm_X12_paired_101 : mj_dec prog_14_method_50_code 101 = some (.iconst 0, 1) := by decide +kernel
theorem dm_X12_paired_102 : mj_dec prog_14_method_50_code 102 = some (.istore 9, 2) := by decide +kernel
theorem dm_X12_paired_104 : mj_dec prog_14_method_50_code 104 = some (.iload 9, 2) := by decide +kernel
theorem dm_X12_paired_106 : mj_dec prog_14_method_50_code 106 = some (.iload 7, 2) := by decide +kernel
theorem dm_X12_paired_108 : mj_dec prog_14_method_50_code 108 = some (.if_icmp .ge 71, 3) := by decide +kernel
theorem dm_X12_paired_111 : mj_dec prog_14_method_50_code 111 = some (.aload_n 0, 1) := by decide +kernel
theorem dm_X12_paired_112 : mj_dec prog_14_method_50_code 112 = some (.getfield 181, 3) := by decide +kernel
theorem dm_X12_paired_115 : mj_dec prog_14_method_50_code 115 = some (.ifCond .ne 64, 3) := by decide +kernel
theorem dm_X12_paired_118 : mj_dec prog_14_method_50_code 118 = some (.aload_n 0, 1) := by decide +kernel
theorem dm_X12_paired_119 : mj_dec prog_14_method_50_code 119 = some (.getfield 8, 3) := by decide +kernel
theorem dm_X12_paired_122 : mj_dec prog_14_method_50_code 122 = some (.aload_n 0, 1) := by decide +kernel
theorem dm_X12_paired_123 : mj_dec prog_14_method_50_code 123 = some (.getfield 15, 3) := by decide +kernel
theorem dm_X12_paired_126 : mj_dec prog_14_method_50_code 126 = some (.iload 8, 2) := by decide +kernel
theorem dm_X12_paired_128 : mj_dec prog_14_method_50_code 128 = some (.iaload, 1) := by decide +kernel
theorem dm_X12_paired_129 : mj_dec prog_14_method_50_code 129 = some (.iload 9, 2) := by decide +kernel
theorem dm_X12_paired_131 : mj_dec prog_14_method_50_code 131 = some (.iadd, 1) := by decide +kernel
theorem dm_X12_paired_132 : mj_dec prog_14_method_50_code 132 = some (.aload_n 0, 1) := by decide +kernel
theorem dm_X12_paired_133 : mj_dec prog_14_method_50_code 133 = some (.iload_n 1, 1) := by decide +kernel
theorem dm_X12_paired_134 : mj_dec prog_14_method_50_code 134 = some (.iload 5, 2) := by decide +kernel
theorem dm_X12_paired_136 : mj_dec prog_14_method_50_code 136 = some (.ifCond .eq 13, 3) := by decide +kernel
theorem dm_X12_paired_139 : mj_dec prog_14_method_50_code 139 = some (.aload_n 0, 1) := by decide +kernel
theorem dm_X12_paired_140 : mj_dec prog_14_method_50_code 140 = some (.iload_n 2, 1) := by decide +kernel
theorem dm_X12_paired_141 : mj_dec prog_14_method_50_code 141 = some (.iload 9, 2) := by decide +kernel
theorem dm_X12_paired_143 : mj_dec prog_14_method_50_code 143 = some (.invokevirtual 153, 3) := by decide +kernel
theorem dm_X12_paired_146 : mj_dec prog_14_method_50_code 146 = some (.goto 4, 3) := by decide +kernel
theorem dm_X12_paired_149 : mj_dec prog_14_method_50_code 149 = some (.iload_n 2, 1) := by decide +kernel
theorem dm_X12_paired_150 : mj_dec prog_14_method_50_code 150 = some (.iload 6, 2) := by decide +kernel
theorem dm_X12_paired_152 : mj_dec prog_14_method_50_code 152 = some (.ifCond .eq 13, 3) := by decide +kernel
theorem dm_X12_paired_155 : mj_dec prog_14_method_50_code 155 = some (.aload_n 0, 1) := by decide +kernel
theorem dm_X12_paired_156 : mj_dec prog_14_method_50_code 156 = some (.iload_n 3, 1) := by decide +kernel
theorem dm_X12_paired_157 : mj_dec prog_14_method_50_code 157 = some (.iload 9, 2) := by decide +kernel
theorem dm_X12_paired_159 : mj_dec prog_14_method_50_code 159 = some (.invokevirtual 153, 3) := by decide +kernel
theorem dm_X12_paired_162 : mj_dec prog_14_method_50_code 162 = some (.goto 4, 3) := by decide +kernel
theorem dm_X12_paired_165 : mj_dec prog_14_method_50_code 165 = some (.iload_n 3, 1) := by decide +kernel
theorem dm_X12_paired_166 : mj_dec prog_14_method_50_code 166 = some (.iload 4, 2) := by decide +kernel
theorem dm_X12_paired_168 : mj_dec prog_14_method_50_code 168 = some (.invokevirtual 329, 3) := by decide +kernel
theorem dm_X12_paired_171 : mj_dec prog_14_method_50_code 171 = some (.i2l, 1) := by decide +kernel
theorem dm_X12_paired_172 : mj_dec prog_14_method_50_code 172 = some (.lastore, 1) := by decide +kernel
theorem dm_X12_paired_173 : mj_dec prog_14_method_50_code 173 = some (.iinc 9 1, 3) := by decide +kernel
theorem dm_X12_paired_176 : mj_dec prog_14_method_50_code 176 = some (.goto (-72), 3) := by decide +kernel
theorem dm_X12_paired_179 : mj_dec prog_14_method_50_code 179 = some (.iload 8, 2) := by decide +kernel
theorem dm_X12_paired_181 : mj_dec prog_14_method_50_code 181 = some (.ireturn, 1) := by decide +kernel
theorem r_paired_ {xt : mj_X} {pre post : mj_H} {place vb : Int} (hm : pre.length = 102) (hvb : vb = 43 ∨ vb = 45 ∨ vb = 42 ∨ vb = 37 ∨ vb = 38 ∨ vb = 124 ∨ vb = 60 ∨ vb = 62 ∨ vb = 61 ∨ vb = 33) : ∀ (e : Nat) {d hd hd2 q b : Nat} {s : RS} {v w : VV}, 7 + e ≤ d → rB s → rv s e hd v → 3 ≤ hd → rv s e hd2 w → 3 ≤ hd2 → s.1 4 = (q : Int) → s.1 3 = (b : Int) → 3 ≤ q → q + paK e v w + 1 < 310000 → s.1 5 = 0 → (0 ≤ s.1 10 ∧ s.1 10 ≤ 100) → b + (paC e v w + paM e v w) + 300 ≤ 820000 → pgV xt d 276 [.ref 102, ii vb, ii (hd : Int), ii (hd2 : Int), ii place] (rS pre post s) (rresN pre post s e (pno vb e v w) place (paC e v w + paM e v w) (paK e v w)) := by
  intro e
  induction e with
  | zero => intro d hd hd2 q b s v w _ _ hv; exact hv.elim
  | succ e ih =>
    intro d hd hd2 q b s v w hd1 hB hv hh3 hw hh4 hq hb hq3 hV2 he0 hca hC
    by_cases hpf : pflat v w
    · rw [pno_f hpf, paC_s, if_pos hpf, paM_s, if_pos hpf, paK_s, if_pos hpf]
      rw [paC_s, if_pos hpf, paM_s, if_pos hpf] at hC
      rw [paK_s, if_pos hpf] at hV2
      exact r_pairF hm (by omega) hB hv hh3 hw hh4 hq hb hq3 (by omega) he0 hca (by omega) hvb hpf.1 hpf.2
    have hB0 := hB
    obtain ⟨hB1, hB2, hB3, hB4⟩ := hB
    obtain ⟨fr, hfr, hsh, hlt, hcl, hvk, hvm, hvc, hvq, hvcl⟩ := rv_val hv
    obtain ⟨fw, hfw, hshw, hltw, hclw, hwk, hwm, hwc, hwq, hwcl⟩ := rv_val hw
    have hm7 : pnN v w ≤ 24 := pnN_b (fun z => (hv.1.2.2.2.2.1 z).1) (fun z => (hw.1.2.2.2.2.1 (by omega)).1)
    have hnf : ¬ pflat v w := fun z => by have z1 := z.1; have z2 := z.2; omega
    have hCs : paC (e + 1) v w + paM (e + 1) v w = pnN v w + sumN (pnN v w) (fun i => paC e (pat v i) (pat w i) + paM e (pat v i) (pat w i)) := by rw [paC_s, if_neg hnf, paM_s, if_neg hnf, sumN_add]; omega
    have hKs : paK (e + 1) v w = 1 + sumN (pnN v w) (fun i => paK e (pat v i) (pat w i)) := by rw [paK_s, if_neg hnf]
    refine x_enter pm_X12_paired (L0 := [(0, .ref 102), (1, ii vb), (2, ii (hd : Int)), (3, ii (hd2 : Int)), (4, ii place)]) rfl (Nat.le_of_ble_eq_true rfl) (by omega) ?_
    refine me1 (pc' := 1) (L' := [(0, .ref 102), (1, ii vb), (2, ii (hd : Int)), (3, ii (hd2 : Int)), (4, ii place)]) (S' := [.ref 102]) dm_X12_paired_0 rfl rfl rfl rfl ?_
    refine me1 (pc' := 2) (L' := [(0, .ref 102), (1, ii vb), (2, ii (hd : Int)), (3, ii (hd2 : Int)), (4, ii place)]) (S' := [ii (hd : Int), .ref 102]) dm_X12_paired_1 rfl rfl rfl rfl ?_
    refine x_cp (pc' := 5) (v := ii (vk v : Int)) (rest := []) dm_X12_paired_2 rfl (q_inv (As := [ii (hd : Int)]) (S := []) hm rfl rfl rfl) rfl rfl rfl (r_kindOf_ hm (by omega) hB0 hv) ?_
    refine me0 (pc' := 7) (S' := [ii 7, ii (vk v : Int)]) dm_X12_paired_5 rfl rfl rfl rfl ?_
    refine y_2ne (a := (vk v : Int)) (b := 7) (t := 14) (pc' := 10) dm_X12_paired_7 rfl rfl (by omega) (fun hb1 => ?_) (fun hb1 => ?_)
    · refine me0 (pc' := 15) (S' := [ii 0]) dm_X12_paired_14 rfl rfl rfl rfl ?_
      refine me1 (pc' := 17) (L' := [(5, ii 0), (0, .ref 102), (1, ii vb), (2, ii (hd : Int)), (3, ii (hd2 : Int)), (4, ii place)]) (S' := []) dm_X12_paired_15 rfl rfl rfl rfl ?_
      refine me1 (pc' := 18) (L' := [(5, ii 0), (0, .ref 102), (1, ii vb), (2, ii (hd : Int)), (3, ii (hd2 : Int)), (4, ii place)]) (S' := [.ref 102]) dm_X12_paired_17 rfl rfl rfl rfl ?_
      refine me1 (pc' := 19) (L' := [(5, ii 0), (0, .ref 102), (1, ii vb), (2, ii (hd : Int)), (3, ii (hd2 : Int)), (4, ii place)]) (S' := [ii (hd2 : Int), .ref 102]) dm_X12_paired_18 rfl rfl rfl rfl ?_
      refine x_cp (pc' := 22) (v := ii (vk w : Int)) (rest := []) dm_X12_paired_19 rfl (q_inv (As := [ii (hd2 : Int)]) (S := []) hm rfl rfl rfl) rfl rfl rfl (r_kindOf_ hm (by omega) hB0 hw) ?_
      refine me0 (pc' := 24) (S' := [ii 7, ii (vk w : Int)]) dm_X12_paired_22 rfl rfl rfl rfl ?_
      refine y_2ne (a := (vk w : Int)) (b := 7) (t := 31) (pc' := 27) dm_X12_paired_24 rfl rfl (by omega) (fun hb2 => ?_) (fun hb2 => ?_)
      · refine me0 (pc' := 32) (S' := [ii 0]) dm_X12_paired_31 rfl rfl rfl rfl ?_
        refine me1 (pc' := 34) (L' := [(6, ii 0), (5, ii 0), (0, .ref 102), (1, ii vb), (2, ii (hd : Int)), (3, ii (hd2 : Int)), (4, ii place)]) (S' := []) dm_X12_paired_32 rfl rfl rfl rfl ?_
        refine me1 (pc' := 36) (L' := [(6, ii 0), (5, ii 0), (0, .ref 102), (1, ii vb), (2, ii (hd : Int)), (3, ii (hd2 : Int)), (4, ii place)]) (S' := [ii 0]) dm_X12_paired_34 rfl rfl rfl rfl ?_
        refine me_1f (pc' := 39) dm_X12_paired_36 rfl (by decide) rfl ?_
        refine me1 (pc' := 41) (L' := [(6, ii 0), (5, ii 0), (0, .ref 102), (1, ii vb), (2, ii (hd : Int)), (3, ii (hd2 : Int)), (4, ii place)]) (S' := [ii 0]) dm_X12_paired_39 rfl rfl rfl rfl ?_
        refine me_1t (pc' := 182) dm_X12_paired_41 rfl (by decide) ?_
        exfalso; omega
      · refine me0 (pc' := 28) (S' := [ii 1]) dm_X12_paired_27 rfl rfl rfl rfl ?_
        refine me2 (pc' := 32) (S' := [ii 1]) dm_X12_paired_28 rfl rfl rfl ?_
        refine me1 (pc' := 34) (L' := [(6, ii 1), (5, ii 0), (0, .ref 102), (1, ii vb), (2, ii (hd : Int)), (3, ii (hd2 : Int)), (4, ii place)]) (S' := []) dm_X12_paired_32 rfl rfl rfl rfl ?_
        refine me1 (pc' := 36) (L' := [(6, ii 1), (5, ii 0), (0, .ref 102), (1, ii vb), (2, ii (hd : Int)), (3, ii (hd2 : Int)), (4, ii place)]) (S' := [ii 0]) dm_X12_paired_34 rfl rfl rfl rfl ?_
        refine me_1f (pc' := 39) dm_X12_paired_36 rfl (by decide) rfl ?_
        refine me1 (pc' := 41) (L' := [(6, ii 1), (5, ii 0), (0, .ref 102), (1, ii vb), (2, ii (hd : Int)), (3, ii (hd2 : Int)), (4, ii place)]) (S' := [ii 1]) dm_X12_paired_39 rfl rfl rfl rfl ?_
        refine me_1f (pc' := 44) dm_X12_paired_41 rfl (by decide) rfl ?_
        refine me1 (pc' := 46) (L' := [(6, ii 1), (5, ii 0), (0, .ref 102), (1, ii vb), (2, ii (hd : Int)), (3, ii (hd2 : Int)), (4, ii place)]) (S' := [ii 0]) dm_X12_paired_44 rfl rfl rfl rfl ?_
        refine me_1t (pc' := 75) dm_X12_paired_46 rfl (by decide) ?_
        refine me1 (pc' := 76) (L' := [(6, ii 1), (5, ii 0), (0, .ref 102), (1, ii vb), (2, ii (hd : Int)), (3, ii (hd2 : Int)), (4, ii place)]) (S' := [.ref 102]) dm_X12_paired_75 rfl rfl rfl rfl ?_
        refine me1 (pc' := 78) (L' := [(6, ii 1), (5, ii 0), (0, .ref 102), (1, ii vb), (2, ii (hd : Int)), (3, ii (hd2 : Int)), (4, ii place)]) (S' := [ii 0, .ref 102]) dm_X12_paired_76 rfl rfl rfl rfl ?_
        refine me_1t (pc' := 85) dm_X12_paired_78 rfl (by decide) ?_
        refine me1 (pc' := 86) (L' := [(6, ii 1), (5, ii 0), (0, .ref 102), (1, ii vb), (2, ii (hd : Int)), (3, ii (hd2 : Int)), (4, ii place)]) (S' := [ii (hd2 : Int), .ref 102]) dm_X12_paired_85 rfl rfl rfl rfl ?_
        refine x_cp (pc' := 89) (v := ii (vm w : Int)) (rest := []) dm_X12_paired_86 rfl (q_inv (As := [ii (hd2 : Int)]) (S := []) hm rfl rfl rfl) rfl rfl rfl (r_many_ hm (by omega) hB0 hw) ?_
        refine pg_st (S' := [ii ((pnN v w : Nat) : Int)]) (congrArg (fun z => ii z :: []) (by rw [pnN_e (by omega)]; first | rw [if_pos (by omega)] | rw [if_neg (by omega)])) ?_
        refine me1 (pc' := 91) (L' := [(7, ii ((pnN v w : Nat) : Int)), (6, ii 1), (5, ii 0), (0, .ref 102), (1, ii vb), (2, ii (hd : Int)), (3, ii (hd2 : Int)), (4, ii place)]) (S' := []) dm_X12_paired_89 rfl rfl rfl rfl ?_
        refine me1 (pc' := 92) (L' := [(7, ii ((pnN v w : Nat) : Int)), (6, ii 1), (5, ii 0), (0, .ref 102), (1, ii vb), (2, ii (hd : Int)), (3, ii (hd2 : Int)), (4, ii place)]) (S' := [.ref 102]) dm_X12_paired_91 rfl rfl rfl rfl ?_
        refine me0 (pc' := 94) (S' := [ii 7, .ref 102]) dm_X12_paired_92 rfl rfl rfl rfl ?_
        refine me1 (pc' := 96) (L' := [(7, ii ((pnN v w : Nat) : Int)), (6, ii 1), (5, ii 0), (0, .ref 102), (1, ii vb), (2, ii (hd : Int)), (3, ii (hd2 : Int)), (4, ii place)]) (S' := [ii ((pnN v w : Nat) : Int), ii 7, .ref 102]) dm_X12_paired_94 rfl rfl rfl rfl ?_
        refine x_cv (pc' := 99) (rest := []) dm_X12_paired_96 rfl (q_inv (As := [ii 7, ii ((pnN v w : Nat) : Int)]) (S := []) hm rfl rfl rfl) rfl rfl rfl (r_row_ (q := q) (b := b) (s := s) hm (by omega) hq hb (by omega) (by omega) (by omega)) ?_
        rintro _ _ ⟨rfl, rfl⟩
        refine me1 (pc' := 101) (L' := [(8, ii (q : Int)), (7, ii ((pnN v w : Nat) : Int)), (6, ii 1), (5, ii 0), (0, .ref 102), (1, ii vb), (2, ii (hd : Int)), (3, ii (hd2 : Int)), (4, ii place)]) (S' := []) dm_X12_paired_99 rfl rfl rfl rfl ?_
        refine me0 (pc' := 102) (S' := [ii 0]) dm_X12_paired_101 rfl rfl rfl rfl ?_
        refine me1 (pc' := 104) (L' := [(9, ii 0), (8, ii (q : Int)), (7, ii ((pnN v w : Nat) : Int)), (6, ii 1), (5, ii 0), (0, .ref 102), (1, ii vb), (2, ii (hd : Int)), (3, ii (hd2 : Int)), (4, ii place)]) (S' := []) dm_X12_paired_102 rfl rfl rfl rfl ?_
        have lp104 : ∀ (n104 : Nat) (k : Nat) (t : RS), pnN v w - k = n104 → (k ≤ pnN v w) → (pnI s t q b (pnN v w) k e (fun i => paV vb e (pat v i) (pat w i)) (sumN k (fun i => paC e (pat v i) (pat w i) + paM e (pat v i) (pat w i))) (sumN k (fun i => paK e (pat v i) (pat w i)))) → (errs (fun i => paF vb e (pat v i) (pat w i)) k = 0) → pgE xt (d - 1) 12 17 false (Option.some Jvm.ClassFile.FieldType.int) (mj_dec prog_14_method_50_code) 104 [(0, .ref 102), (1, ii vb), (2, ii (hd : Int)), (3, ii (hd2 : Int)), (4, ii place), (5, ii 0), (6, ii 1), (7, ii ((pnN v w : Nat) : Int)), (8, ii (q : Int)), (9, ii ((k : Nat) : Int))] [] (rI pre post t.1 t.2.1 t.2.2.1 t.2.2.2) (fun r h' => ∃ x, r = some x ∧ rresN pre post s (e + 1) (pno vb (e + 1) v w) place (paC (e + 1) v w + paM (e + 1) v w) (paK (e + 1) v w) x h') := by
          intro n104
          induction n104 using Nat.strongRecOn with
          | ind n104 ih104 =>
            intro k t hm104 hk hpn hes
            obtain ⟨qt, hqt⟩ : ∃ qt : Nat, t.1 4 = (qt : Int) := ⟨(t.1 4).toNat, by have := hpn.2.2.2.2.1; omega⟩
            obtain ⟨bt, hbt⟩ : ∃ bt : Nat, t.1 3 = (bt : Int) := ⟨(t.1 3).toNat, by have := hpn.2.2.2.2.2.2.2.1; omega⟩
            have hp5 := hpn.2.2.2.2.1
            have hp8 := hpn.2.2.2.2.2.2.2.1
            have hp9 := hpn.2.2.2.2.2.2.2.2.1
            have hp10 := hpn.2.2.2.2.2.2.2.2.2.1
            have hsC : sumN k (fun i => paC e (pat v i) (pat w i) + paM e (pat v i) (pat w i)) ≤ sumN (pnN v w) (fun i => paC e (pat v i) (pat w i) + paM e (pat v i) (pat w i)) := sumN_nm hk
            have hsK : sumN k (fun i => paK e (pat v i) (pat w i)) ≤ sumN (pnN v w) (fun i => paK e (pat v i) (pat w i)) := sumN_nm hk
            have hBt : rB t := ⟨by omega, by omega, by omega, by omega⟩
            have hvt := rv_ext hpn.1 hh3 hv
            have hwt := rv_ext hpn.1 hh4 hw
            have he0t := hpn.2.2.1
            have h10t : t.1 10 = s.1 10 := hpn.2.1.1 10 (by decide) (by decide) (by decide) (by decide) (by decide)
            refine me1 (pc' := 106) (L' := [(0, .ref 102), (1, ii vb), (2, ii (hd : Int)), (3, ii (hd2 : Int)), (4, ii place), (5, ii 0), (6, ii 1), (7, ii ((pnN v w : Nat) : Int)), (8, ii (q : Int)), (9, ii ((k : Nat) : Int))]) (S' := [ii ((k : Nat) : Int)]) dm_X12_paired_104 rfl rfl rfl rfl ?_
            refine me1 (pc' := 108) (L' := [(0, .ref 102), (1, ii vb), (2, ii (hd : Int)), (3, ii (hd2 : Int)), (4, ii place), (5, ii 0), (6, ii 1), (7, ii ((pnN v w : Nat) : Int)), (8, ii (q : Int)), (9, ii ((k : Nat) : Int))]) (S' := [ii ((pnN v w : Nat) : Int), ii ((k : Nat) : Int)]) dm_X12_paired_106 rfl rfl rfl rfl ?_
            refine y_2ge (a := ((k : Nat) : Int)) (b := ((pnN v w : Nat) : Int)) (t := 179) (pc' := 111) dm_X12_paired_108 rfl rfl (by omega) (fun hb3 => ?_) (fun hb3 => ?_)
            · refine me1 (pc' := 181) (L' := [(0, .ref 102), (1, ii vb), (2, ii (hd : Int)), (3, ii (hd2 : Int)), (4, ii place), (5, ii 0), (6, ii 1), (7, ii ((pnN v w : Nat) : Int)), (8, ii (q : Int)), (9, ii ((k : Nat) : Int))]) (S' := [ii (q : Int)]) dm_X12_paired_179 rfl rfl rfl rfl ?_
              refine y_ret (r := some (ii (q : Int))) dm_X12_paired_181 rfl rfl rfl ?_
              have hkn : k = pnN v w := by omega
              rw [hkn] at hpn hes
              have h4 : paF vb (e + 1) v w = 0 := by rw [paF_s, if_neg hnf, if_neg (by omega)]; exact hes
              rw [show pno vb (e + 1) v w = .inr (vnest (pnN v w) (fun i => paV vb e (pat v i) (pat w i))) by rw [pno_v h4, paV_s, if_neg hnf]]
              exact ⟨_, rfl, pnI_end hpn hb hq hq3 (by omega) (by omega) (by omega)⟩
            · refine me1 (pc' := 112) (L' := [(0, .ref 102), (1, ii vb), (2, ii (hd : Int)), (3, ii (hd2 : Int)), (4, ii place), (5, ii 0), (6, ii 1), (7, ii ((pnN v w : Nat) : Int)), (8, ii (q : Int)), (9, ii ((k : Nat) : Int))]) (S' := [.ref 102]) dm_X12_paired_111 rfl rfl rfl rfl ?_
              refine me3 (pc' := 115) (S' := [ii (t.1 5)]) dm_X12_paired_112 (q_geti (v := t.1 5) hm rfl (fun m i l => rg_5 m i l) rfl) rfl rfl rfl ?_
              refine pg_st (S' := [ii 0]) (congrArg (fun z => ii z :: []) (he0t)) ?_
              refine me_1f (pc' := 118) dm_X12_paired_115 rfl (by decide) rfl ?_
              have hs1 : sumN (k + 1) (fun i => paC e (pat v i) (pat w i) + paM e (pat v i) (pat w i)) = sumN k (fun i => paC e (pat v i) (pat w i) + paM e (pat v i) (pat w i)) + (paC e (pat v k) (pat w k) + paM e (pat v k) (pat w k)) := rfl
              have hs2 : sumN (k + 1) (fun i => paK e (pat v i) (pat w i)) = sumN k (fun i => paK e (pat v i) (pat w i)) + paK e (pat v k) (pat w k) := rfl
              have hs3 : sumN (k + 1) (fun i => paC e (pat v i) (pat w i) + paM e (pat v i) (pat w i)) ≤ sumN (pnN v w) (fun i => paC e (pat v i) (pat w i) + paM e (pat v i) (pat w i)) := sumN_nm (by omega)
              have hs4 : sumN (k + 1) (fun i => paK e (pat v i) (pat w i)) ≤ sumN (pnN v w) (fun i => paK e (pat v i) (pat w i)) := sumN_nm (by omega)
              refine me1 (pc' := 119) (L' := [(0, .ref 102), (1, ii vb), (2, ii (hd : Int)), (3, ii (hd2 : Int)), (4, ii place), (5, ii 0), (6, ii 1), (7, ii ((pnN v w : Nat) : Int)), (8, ii (q : Int)), (9, ii ((k : Nat) : Int))]) (S' := [.ref 102]) dm_X12_paired_118 rfl rfl rfl rfl ?_
              refine me3 (pc' := 122) (S' := [.ref (102 + 1)]) dm_X12_paired_119 (q_getr hm rfl (fun m i l => rg_0 m i l)) rfl rfl rfl ?_
              refine me1 (pc' := 123) (L' := [(0, .ref 102), (1, ii vb), (2, ii (hd : Int)), (3, ii (hd2 : Int)), (4, ii place), (5, ii 0), (6, ii 1), (7, ii ((pnN v w : Nat) : Int)), (8, ii (q : Int)), (9, ii ((k : Nat) : Int))]) (S' := [.ref 102, .ref (102 + 1)]) dm_X12_paired_122 rfl rfl rfl rfl ?_
              refine me3 (pc' := 126) (S' := [.ref (102 + 2), .ref (102 + 1)]) dm_X12_paired_123 (q_getr hm rfl (fun m i l => rg_1 m i l)) rfl rfl rfl ?_
              refine me1 (pc' := 128) (L' := [(0, .ref 102), (1, ii vb), (2, ii (hd : Int)), (3, ii (hd2 : Int)), (4, ii place), (5, ii 0), (6, ii 1), (7, ii ((pnN v w : Nat) : Int)), (8, ii (q : Int)), (9, ii ((k : Nat) : Int))]) (S' := [ii (q : Int), .ref (102 + 2), .ref (102 + 1)]) dm_X12_paired_126 rfl rfl rfl rfl ?_
              refine me3 (pc' := 129) (S' := [ii ((t.2.2.1 1) q), .ref (102 + 1)]) dm_X12_paired_128 (q_iald (v := (t.2.2.1 1) q) (k := 1) (n := 310000) hm (fun m i l I J => rc_1 m i l I J) (by omega) (by omega) (by decide) rfl) rfl rfl rfl ?_
              refine pg_st (S' := [ii (b : Int), .ref (102 + 1)]) (congrArg (fun z => ii z :: [.ref (102 + 1)]) (hpn.2.2.2.2.2.1)) ?_
              refine me1 (pc' := 131) (L' := [(0, .ref 102), (1, ii vb), (2, ii (hd : Int)), (3, ii (hd2 : Int)), (4, ii place), (5, ii 0), (6, ii 1), (7, ii ((pnN v w : Nat) : Int)), (8, ii (q : Int)), (9, ii ((k : Nat) : Int))]) (S' := [ii ((k : Nat) : Int), ii (b : Int), .ref (102 + 1)]) dm_X12_paired_129 rfl rfl rfl rfl ?_
              refine y_iadd (a := (b : Int)) (b := ((k : Nat) : Int)) dm_X12_paired_131 (pc' := 132) rfl ?_
              refine me1 (pc' := 133) (L' := [(0, .ref 102), (1, ii vb), (2, ii (hd : Int)), (3, ii (hd2 : Int)), (4, ii place), (5, ii 0), (6, ii 1), (7, ii ((pnN v w : Nat) : Int)), (8, ii (q : Int)), (9, ii ((k : Nat) : Int))]) (S' := [.ref 102, ii ((b : Int) + ((k : Nat) : Int)), .ref (102 + 1)]) dm_X12_paired_132 rfl rfl rfl rfl ?_
              refine me1 (pc' := 134) (L' := [(0, .ref 102), (1, ii vb), (2, ii (hd : Int)), (3, ii (hd2 : Int)), (4, ii place), (5, ii 0), (6, ii 1), (7, ii ((pnN v w : Nat) : Int)), (8, ii (q : Int)), (9, ii ((k : Nat) : Int))]) (S' := [ii vb, .ref 102, ii ((b : Int) + ((k : Nat) : Int)), .ref (102 + 1)]) dm_X12_paired_133 rfl rfl rfl rfl ?_
              refine me1 (pc' := 136) (L' := [(0, .ref 102), (1, ii vb), (2, ii (hd : Int)), (3, ii (hd2 : Int)), (4, ii place), (5, ii 0), (6, ii 1), (7, ii ((pnN v w : Nat) : Int)), (8, ii (q : Int)), (9, ii ((k : Nat) : Int))]) (S' := [ii 0, ii vb, .ref 102, ii ((b : Int) + ((k : Nat) : Int)), .ref (102 + 1)]) dm_X12_paired_134 rfl rfl rfl rfl ?_
              refine me_1t (pc' := 149) dm_X12_paired_136 rfl (by decide) ?_
              refine me1 (pc' := 150) (L' := [(0, .ref 102), (1, ii vb), (2, ii (hd : Int)), (3, ii (hd2 : Int)), (4, ii place), (5, ii 0), (6, ii 1), (7, ii ((pnN v w : Nat) : Int)), (8, ii (q : Int)), (9, ii ((k : Nat) : Int))]) (S' := [ii (hd : Int), ii vb, .ref 102, ii ((b : Int) + ((k : Nat) : Int)), .ref (102 + 1)]) dm_X12_paired_149 rfl rfl rfl rfl ?_
              refine me1 (pc' := 152) (L' := [(0, .ref 102), (1, ii vb), (2, ii (hd : Int)), (3, ii (hd2 : Int)), (4, ii place), (5, ii 0), (6, ii 1), (7, ii ((pnN v w : Nat) : Int)), (8, ii (q : Int)), (9, ii ((k : Nat) : Int))]) (S' := [ii 1, ii (hd : Int), ii vb, .ref 102, ii ((b : Int) + ((k : Nat) : Int)), .ref (102 + 1)]) dm_X12_paired_150 rfl rfl rfl rfl ?_
              refine me_1f (pc' := 155) dm_X12_paired_152 rfl (by decide) rfl ?_
              refine me1 (pc' := 156) (L' := [(0, .ref 102), (1, ii vb), (2, ii (hd : Int)), (3, ii (hd2 : Int)), (4, ii place), (5, ii 0), (6, ii 1), (7, ii ((pnN v w : Nat) : Int)), (8, ii (q : Int)), (9, ii ((k : Nat) : Int))]) (S' := [.ref 102, ii (hd : Int), ii vb, .ref 102, ii ((b : Int) + ((k : Nat) : Int)), .ref (102 + 1)]) dm_X12_paired_155 rfl rfl rfl rfl ?_
              refine me1 (pc' := 157) (L' := [(0, .ref 102), (1, ii vb), (2, ii (hd : Int)), (3, ii (hd2 : Int)), (4, ii place), (5, ii 0), (6, ii 1), (7, ii ((pnN v w : Nat) : Int)), (8, ii (q : Int)), (9, ii ((k : Nat) : Int))]) (S' := [ii (hd2 : Int), .ref 102, ii (hd : Int), ii vb, .ref 102, ii ((b : Int) + ((k : Nat) : Int)), .ref (102 + 1)]) dm_X12_paired_156 rfl rfl rfl rfl ?_
              refine me1 (pc' := 159) (L' := [(0, .ref 102), (1, ii vb), (2, ii (hd : Int)), (3, ii (hd2 : Int)), (4, ii place), (5, ii 0), (6, ii 1), (7, ii ((pnN v w : Nat) : Int)), (8, ii (q : Int)), (9, ii ((k : Nat) : Int))]) (S' := [ii ((k : Nat) : Int), ii (hd2 : Int), .ref 102, ii (hd : Int), ii vb, .ref 102, ii ((b : Int) + ((k : Nat) : Int)), .ref (102 + 1)]) dm_X12_paired_157 rfl rfl rfl rfl ?_
              have hk9w : k < vm w := by have hz : pnN v w = vm w := (by rw [pnN_e (by omega)]; first | rw [if_neg (by omega)] | (rw [if_pos (by omega)]; done) | (rw [if_pos (by omega)]; omega)); omega
              obtain ⟨qw, hwq3, hwqlt, hwqk, hcwq⟩ := r_value_ (xt := xt) (d := d - 1) (pre := pre) (post := post) (k := k) hm (by omega) hBt hwt (by omega) hk9w
              have he1 : 1 ≤ e := rv_pos hwqk
              refine x_cp (pc' := 162) (v := ii ((qw : Nat) : Int)) (rest := [ii (hd : Int), ii vb, .ref 102, ii ((b : Int) + ((k : Nat) : Int)), .ref (102 + 1)]) dm_X12_paired_159 rfl (q_inv (As := [ii (hd2 : Int), ii ((k : Nat) : Int)]) (S := [ii (hd : Int), ii vb, .ref 102, ii ((b : Int) + ((k : Nat) : Int)), .ref (102 + 1)]) hm rfl rfl rfl) rfl rfl rfl (hcwq) ?_
              refine me2 (pc' := 166) (S' := [ii ((qw : Nat) : Int), ii (hd : Int), ii vb, .ref 102, ii ((b : Int) + ((k : Nat) : Int)), .ref (102 + 1)]) dm_X12_paired_162 rfl rfl rfl ?_
              refine me1 (pc' := 168) (L' := [(0, .ref 102), (1, ii vb), (2, ii (hd : Int)), (3, ii (hd2 : Int)), (4, ii place), (5, ii 0), (6, ii 1), (7, ii ((pnN v w : Nat) : Int)), (8, ii (q : Int)), (9, ii ((k : Nat) : Int))]) (S' := [ii place, ii ((qw : Nat) : Int), ii (hd : Int), ii vb, .ref 102, ii ((b : Int) + ((k : Nat) : Int)), .ref (102 + 1)]) dm_X12_paired_166 rfl rfl rfl rfl ?_
              by_cases hof : paF vb e (pat v k) (pat w k) = 0
              · refine x_cv (pc' := 171) (rest := [ii ((b : Int) + ((k : Nat) : Int)), .ref (102 + 1)]) dm_X12_paired_168 rfl (q_inv (As := [ii vb, ii (hd : Int), ii ((qw : Nat) : Int), ii place]) (S := [ii ((b : Int) + ((k : Nat) : Int)), .ref (102 + 1)]) hm rfl rfl rfl) rfl rfl rfl (by have z := ih (d := d - 1) (s := t) (q := qt) (b := bt) (v := pat v k) (w := pat w k) (by omega) hBt (by rw [pat_n (by omega)]; exact rv_dn hvt he1 (by omega)) hh3 (by rw [pat_7 (by omega)]; exact hwqk) hwq3 hqt hbt (by omega) (by omega) he0t (by rw [h10t]; exact hca) (by omega); rw [pno_v hof] at z; exact z) ?_
                rintro _ _ ⟨t1, rfl, r1, r2, r3, r4, r5, r6, p1, r7, rfl, r8⟩
                have hp1 : (p1 : Int) < t1.1 4 := by have z := rv_lt (rvN_rv r8); exact z
                refine y_i2l (a := (p1 : Int)) dm_X12_paired_171 (pc' := 172) rfl (by omega) (by omega) ?_
                refine me3 (pc' := 173) (S' := []) (h1 := rI pre post t1.1 t1.2.1 t1.2.2.1 (va_up t1.2.2.2 0 (va_up (t1.2.2.2 0) (b + k) (Int64.ofInt (p1 : Int))))) dm_X12_paired_172 (q_last (j := (b : Int) + ((k : Nat) : Int)) (k := 0) (n := 820000) hm (fun m i l I J => rc_0 m i l I J) (fun m i l I J f => rs_0 m i l I J f) (by omega) (by omega) (by decide)) rfl rfl rfl ?_
                refine pg_cast (h2 := rI pre post ((putC t1 (b + k) (Int64.ofInt (p1 : Int))).1) ((putC t1 (b + k) (Int64.ofInt (p1 : Int))).2.1) ((putC t1 (b + k) (Int64.ofInt (p1 : Int))).2.2.1) ((putC t1 (b + k) (Int64.ofInt (p1 : Int))).2.2.2)) rfl ?_
                refine y_iinc (pc' := 176) (L' := [(9, ii (((k : Nat) : Int) + 1)), (0, .ref 102), (1, ii vb), (2, ii (hd : Int)), (3, ii (hd2 : Int)), (4, ii place), (5, ii 0), (6, ii 1), (7, ii ((pnN v w : Nat) : Int)), (8, ii (q : Int))]) dm_X12_paired_173 (y_incp (a := ((k : Nat) : Int)) (c := 1) rfl rfl (by decide)) rfl ?_
                refine me2 (pc' := 104) (S' := []) dm_X12_paired_176 rfl rfl rfl ?_
                exact pg_sub (L := [(0, .ref 102), (1, ii vb), (2, ii (hd : Int)), (3, ii (hd2 : Int)), (4, ii place), (5, ii 0), (6, ii 1), (7, ii ((pnN v w : Nat) : Int)), (8, ii (q : Int)), (9, ii (((k + 1) : Nat) : Int))]) rfl rfl rfl (ih104 (pnN v w - (k + 1)) (by omega) (k + 1) (putC t1 (b + k) (Int64.ofInt (p1 : Int))) rfl (by omega) (pnI_s hpn hb (by omega) hq3 r1 r2 r3 r4 r5 r6 r7 r8) ((errs_s0 hes).trans hof))
              · refine x_cv (pc' := 171) (rest := [ii ((b : Int) + ((k : Nat) : Int)), .ref (102 + 1)]) dm_X12_paired_168 rfl (q_inv (As := [ii vb, ii (hd : Int), ii ((qw : Nat) : Int), ii place]) (S := [ii ((b : Int) + ((k : Nat) : Int)), .ref (102 + 1)]) hm rfl rfl rfl) rfl rfl rfl (by have z := ih (d := d - 1) (s := t) (q := qt) (b := bt) (v := pat v k) (w := pat w k) (by omega) hBt (by rw [pat_n (by omega)]; exact rv_dn hvt he1 (by omega)) hh3 (by rw [pat_7 (by omega)]; exact hwqk) hwq3 hqt hbt (by omega) (by omega) he0t (by rw [h10t]; exact hca) (by omega); rw [pno_e hof] at z; exact z) ?_
                rintro _ _ ⟨t1, rfl, r1, r2, r3, r4, ⟨z1, rfl, r7, r8⟩, r5, r6⟩
                refine y_i2l (a := z1) dm_X12_paired_171 (pc' := 172) rfl (by omega) (by omega) ?_
                refine me3 (pc' := 173) (S' := []) (h1 := rI pre post t1.1 t1.2.1 t1.2.2.1 (va_up t1.2.2.2 0 (va_up (t1.2.2.2 0) (b + k) (Int64.ofInt z1)))) dm_X12_paired_172 (q_last (j := (b : Int) + ((k : Nat) : Int)) (k := 0) (n := 820000) hm (fun m i l I J => rc_0 m i l I J) (fun m i l I J f => rs_0 m i l I J f) (by omega) (by omega) (by decide)) rfl rfl rfl ?_
                refine pg_cast (h2 := rI pre post ((putC t1 (b + k) (Int64.ofInt z1)).1) ((putC t1 (b + k) (Int64.ofInt z1)).2.1) ((putC t1 (b + k) (Int64.ofInt z1)).2.2.1) ((putC t1 (b + k) (Int64.ofInt z1)).2.2.2)) rfl ?_
                have hE1 : paF vb e (pat v k) (pat w k) ≠ 0 := hof
                refine y_iinc (pc' := 176) (L' := [(9, ii (((k : Nat) : Int) + 1)), (0, .ref 102), (1, ii vb), (2, ii (hd : Int)), (3, ii (hd2 : Int)), (4, ii place), (5, ii 0), (6, ii 1), (7, ii ((pnN v w : Nat) : Int)), (8, ii (q : Int))]) dm_X12_paired_173 (y_incp (a := ((k : Nat) : Int)) (c := 1) rfl rfl (by decide)) rfl ?_
                refine me2 (pc' := 104) (S' := []) dm_X12_paired_176 rfl rfl rfl ?_
                refine me1 (pc' := 106) (L' := [(9, ii (((k : Nat) : Int) + 1)), (0, .ref 102), (1, ii vb), (2, ii (hd : Int)), (3, ii (hd2 : Int)), (4, ii place), (5, ii 0), (6, ii 1), (7, ii ((pnN v w : Nat) : Int)), (8, ii (q : Int))]) (S' := [ii (((k : Nat) : Int) + 1)]) dm_X12_paired_104 rfl rfl rfl rfl ?_
                refine me1 (pc' := 108) (L' := [(9, ii (((k : Nat) : Int) + 1)), (0, .ref 102), (1, ii vb), (2, ii (hd : Int)), (3, ii (hd2 : Int)), (4, ii place), (5, ii 0), (6, ii 1), (7, ii ((pnN v w : Nat) : Int)), (8, ii (q : Int))]) (S' := [ii ((pnN v w : Nat) : Int), ii (((k : Nat) : Int) + 1)]) dm_X12_paired_106 rfl rfl rfl rfl ?_
                refine y_2ge (a := ((k : Nat) : Int) + 1) (b := ((pnN v w : Nat) : Int)) (t := 179) (pc' := 111) dm_X12_paired_108 rfl rfl (by omega) (fun hb4 => ?_) (fun hb4 => ?_)
                · refine me1 (pc' := 181) (L' := [(9, ii (((k : Nat) : Int) + 1)), (0, .ref 102), (1, ii vb), (2, ii (hd : Int)), (3, ii (hd2 : Int)), (4, ii place), (5, ii 0), (6, ii 1), (7, ii ((pnN v w : Nat) : Int)), (8, ii (q : Int))]) (S' := [ii (q : Int)]) dm_X12_paired_179 rfl rfl rfl rfl ?_
                  refine y_ret (r := some (ii (q : Int))) dm_X12_paired_181 rfl rfl rfl ?_
                  have hEn : errs (fun i => paF vb e (pat v i) (pat w i)) (pnN v w) = paF vb e (pat v k) (pat w k) := by have y := errs_mono (g := (fun i => paF vb e (pat v i) (pat w i))) (k := k + 1) (by rw [errs_s0 hes]; exact hof) (pnN v w - (k + 1)); rw [show k + 1 + (pnN v w - (k + 1)) = pnN v w by omega, errs_s0 hes] at y; exact y
                  have h4 : paF vb (e + 1) v w = paF vb e (pat v k) (pat w k) := by rw [paF_s, if_neg hnf, if_neg (by omega)]; exact hEn
                  rw [show pno vb (e + 1) v w = .inl (paF vb e (pat v k) (pat w k)).toNat by rw [pno_e (by rw [h4]; exact hof), h4]]
                  exact ⟨_, rfl, rresN_f (rext_putC (rext_tr hpn.1 r1) (by omega) _) (rfr_putC (rfr_tr hpn.2.1 r2) _ _) (show t1.1 3 ≤ _ by omega) (show t1.1 4 ≤ _ by omega) r5 (r6.trans (by rw [hpn.2.1.1 10 (by decide) (by decide) (by decide) (by decide) (by decide), hpn.2.1.1 11 (by decide) (by decide) (by decide) (by decide) (by decide)])) (by omega)⟩
                · refine me1 (pc' := 112) (L' := [(9, ii (((k : Nat) : Int) + 1)), (0, .ref 102), (1, ii vb), (2, ii (hd : Int)), (3, ii (hd2 : Int)), (4, ii place), (5, ii 0), (6, ii 1), (7, ii ((pnN v w : Nat) : Int)), (8, ii (q : Int))]) (S' := [.ref 102]) dm_X12_paired_111 rfl rfl rfl rfl ?_
                  refine me3 (pc' := 115) (S' := [ii (((putC t1 (b + k) (Int64.ofInt z1)).1) 5)]) dm_X12_paired_112 (q_geti (v := ((putC t1 (b + k) (Int64.ofInt z1)).1) 5) hm rfl (fun m i l => rg_5 m i l) rfl) rfl rfl rfl ?_
                  have hfr := paF_r vb e (pat v k) (pat w k)
                  refine pg_st (S' := [ii ((paF vb e (pat v k) (pat w k)).toNat : Int)]) (congrArg (fun z => ii z :: []) (r5)) ?_
                  refine y_1ne (a := ((paF vb e (pat v k) (pat w k)).toNat : Int)) (t := 179) (pc' := 118) dm_X12_paired_115 rfl rfl (by omega) (fun hb5 => ?_) (fun hb5 => ?_)
                  · refine me1 (pc' := 181) (L' := [(9, ii (((k : Nat) : Int) + 1)), (0, .ref 102), (1, ii vb), (2, ii (hd : Int)), (3, ii (hd2 : Int)), (4, ii place), (5, ii 0), (6, ii 1), (7, ii ((pnN v w : Nat) : Int)), (8, ii (q : Int))]) (S' := [ii (q : Int)]) dm_X12_paired_179 rfl rfl rfl rfl ?_
                    refine y_ret (r := some (ii (q : Int))) dm_X12_paired_181 rfl rfl rfl ?_
                    have hEn : errs (fun i => paF vb e (pat v i) (pat w i)) (pnN v w) = paF vb e (pat v k) (pat w k) := by have y := errs_mono (g := (fun i => paF vb e (pat v i) (pat w i))) (k := k + 1) (by rw [errs_s0 hes]; exact hof) (pnN v w - (k + 1)); rw [show k + 1 + (pnN v w - (k + 1)) = pnN v w by omega, errs_s0 hes] at y; exact y
                    have h4 : paF vb (e + 1) v w = paF vb e (pat v k) (pat w k) := by rw [paF_s, if_neg hnf, if_neg (by omega)]; exact hEn
                    rw [show pno vb (e + 1) v w = .inl (paF vb e (pat v k) (pat w k)).toNat by rw [pno_e (by rw [h4]; exact hof), h4]]
                    exact ⟨_, rfl, rresN_f (rext_putC (rext_tr hpn.1 r1) (by omega) _) (rfr_putC (rfr_tr hpn.2.1 r2) _ _) (show t1.1 3 ≤ _ by omega) (show t1.1 4 ≤ _ by omega) r5 (r6.trans (by rw [hpn.2.1.1 10 (by decide) (by decide) (by decide) (by decide) (by decide), hpn.2.1.1 11 (by decide) (by decide) (by decide) (by decide) (by decide)])) (by omega)⟩
                  · exfalso; omega
        exact pg_sub (L := [(0, .ref 102), (1, ii vb), (2, ii (hd : Int)), (3, ii (hd2 : Int)), (4, ii place), (5, ii 0), (6, ii 1), (7, ii ((pnN v w : Nat) : Int)), (8, ii (q : Int)), (9, ii ((0 : Nat) : Int))]) rfl rfl rfl (lp104 _ 0 (rowS s q b 7 ((pnN v w : Nat) : Int)) rfl (Nat.zero_le _) (pnI_0 hq hb he0) rfl)
    · refine me0 (pc' := 11) (S' := [ii 1]) dm_X12_paired_10 rfl rfl rfl rfl ?_
      refine me2 (pc' := 15) (S' := [ii 1]) dm_X12_paired_11 rfl rfl rfl ?_
      refine me1 (pc' := 17) (L' := [(5, ii 1), (0, .ref 102), (1, ii vb), (2, ii (hd : Int)), (3, ii (hd2 : Int)), (4, ii place)]) (S' := []) dm_X12_paired_15 rfl rfl rfl rfl ?_
      refine me1 (pc' := 18) (L' := [(5, ii 1), (0, .ref 102), (1, ii vb), (2, ii (hd : Int)), (3, ii (hd2 : Int)), (4, ii place)]) (S' := [.ref 102]) dm_X12_paired_17 rfl rfl rfl rfl ?_
      refine me1 (pc' := 19) (L' := [(5, ii 1), (0, .ref 102), (1, ii vb), (2, ii (hd : Int)), (3, ii (hd2 : Int)), (4, ii place)]) (S' := [ii (hd2 : Int), .ref 102]) dm_X12_paired_18 rfl rfl rfl rfl ?_
      refine x_cp (pc' := 22) (v := ii (vk w : Int)) (rest := []) dm_X12_paired_19 rfl (q_inv (As := [ii (hd2 : Int)]) (S := []) hm rfl rfl rfl) rfl rfl rfl (r_kindOf_ hm (by omega) hB0 hw) ?_
      refine me0 (pc' := 24) (S' := [ii 7, ii (vk w : Int)]) dm_X12_paired_22 rfl rfl rfl rfl ?_
      refine y_2ne (a := (vk w : Int)) (b := 7) (t := 31) (pc' := 27) dm_X12_paired_24 rfl rfl (by omega) (fun hb6 => ?_) (fun hb6 => ?_)
      · refine me0 (pc' := 32) (S' := [ii 0]) dm_X12_paired_31 rfl rfl rfl rfl ?_
        refine me1 (pc' := 34) (L' := [(6, ii 0), (5, ii 1), (0, .ref 102), (1, ii vb), (2, ii (hd : Int)), (3, ii (hd2 : Int)), (4, ii place)]) (S' := []) dm_X12_paired_32 rfl rfl rfl rfl ?_
        refine me1 (pc' := 36) (L' := [(6, ii 0), (5, ii 1), (0, .ref 102), (1, ii vb), (2, ii (hd : Int)), (3, ii (hd2 : Int)), (4, ii place)]) (S' := [ii 1]) dm_X12_paired_34 rfl rfl rfl rfl ?_
        refine me_1t (pc' := 44) dm_X12_paired_36 rfl (by decide) ?_
        refine me1 (pc' := 46) (L' := [(6, ii 0), (5, ii 1), (0, .ref 102), (1, ii vb), (2, ii (hd : Int)), (3, ii (hd2 : Int)), (4, ii place)]) (S' := [ii 1]) dm_X12_paired_44 rfl rfl rfl rfl ?_
        refine me_1f (pc' := 49) dm_X12_paired_46 rfl (by decide) rfl ?_
        refine me1 (pc' := 51) (L' := [(6, ii 0), (5, ii 1), (0, .ref 102), (1, ii vb), (2, ii (hd : Int)), (3, ii (hd2 : Int)), (4, ii place)]) (S' := [ii 0]) dm_X12_paired_49 rfl rfl rfl rfl ?_
        refine me_1t (pc' := 75) dm_X12_paired_51 rfl (by decide) ?_
        refine me1 (pc' := 76) (L' := [(6, ii 0), (5, ii 1), (0, .ref 102), (1, ii vb), (2, ii (hd : Int)), (3, ii (hd2 : Int)), (4, ii place)]) (S' := [.ref 102]) dm_X12_paired_75 rfl rfl rfl rfl ?_
        refine me1 (pc' := 78) (L' := [(6, ii 0), (5, ii 1), (0, .ref 102), (1, ii vb), (2, ii (hd : Int)), (3, ii (hd2 : Int)), (4, ii place)]) (S' := [ii 1, .ref 102]) dm_X12_paired_76 rfl rfl rfl rfl ?_
        refine me_1f (pc' := 81) dm_X12_paired_78 rfl (by decide) rfl ?_
        refine me1 (pc' := 82) (L' := [(6, ii 0), (5, ii 1), (0, .ref 102), (1, ii vb), (2, ii (hd : Int)), (3, ii (hd2 : Int)), (4, ii place)]) (S' := [ii (hd : Int), .ref 102]) dm_X12_paired_81 rfl rfl rfl rfl ?_
        refine me2 (pc' := 86) (S' := [ii (hd : Int), .ref 102]) dm_X12_paired_82 rfl rfl rfl ?_
        refine x_cp (pc' := 89) (v := ii (vm v : Int)) (rest := []) dm_X12_paired_86 rfl (q_inv (As := [ii (hd : Int)]) (S := []) hm rfl rfl rfl) rfl rfl rfl (r_many_ hm (by omega) hB0 hv) ?_
        refine pg_st (S' := [ii ((pnN v w : Nat) : Int)]) (congrArg (fun z => ii z :: []) (by rw [pnN_e (by omega)]; first | rw [if_pos (by omega)] | rw [if_neg (by omega)])) ?_
        refine me1 (pc' := 91) (L' := [(7, ii ((pnN v w : Nat) : Int)), (6, ii 0), (5, ii 1), (0, .ref 102), (1, ii vb), (2, ii (hd : Int)), (3, ii (hd2 : Int)), (4, ii place)]) (S' := []) dm_X12_paired_89 rfl rfl rfl rfl ?_
        refine me1 (pc' := 92) (L' := [(7, ii ((pnN v w : Nat) : Int)), (6, ii 0), (5, ii 1), (0, .ref 102), (1, ii vb), (2, ii (hd : Int)), (3, ii (hd2 : Int)), (4, ii place)]) (S' := [.ref 102]) dm_X12_paired_91 rfl rfl rfl rfl ?_
        refine me0 (pc' := 94) (S' := [ii 7, .ref 102]) dm_X12_paired_92 rfl rfl rfl rfl ?_
        refine me1 (pc' := 96) (L' := [(7, ii ((pnN v w : Nat) : Int)), (6, ii 0), (5, ii 1), (0, .ref 102), (1, ii vb), (2, ii (hd : Int)), (3, ii (hd2 : Int)), (4, ii place)]) (S' := [ii ((pnN v w : Nat) : Int), ii 7, .ref 102]) dm_X12_paired_94 rfl rfl rfl rfl ?_
        refine x_cv (pc' := 99) (rest := []) dm_X12_paired_96 rfl (q_inv (As := [ii 7, ii ((pnN v w : Nat) : Int)]) (S := []) hm rfl rfl rfl) rfl rfl rfl (r_row_ (q := q) (b := b) (s := s) hm (by omega) hq hb (by omega) (by omega) (by omega)) ?_
        rintro _ _ ⟨rfl, rfl⟩
        refine me1 (pc' := 101) (L' := [(8, ii (q : Int)), (7, ii ((pnN v w : Nat) : Int)), (6, ii 0), (5, ii 1), (0, .ref 102), (1, ii vb), (2, ii (hd : Int)), (3, ii (hd2 : Int)), (4, ii place)]) (S' := []) dm_X12_paired_99 rfl rfl rfl rfl ?_
        refine me0 (pc' := 102) (S' := [ii 0]) dm_X12_paired_101 rfl rfl rfl rfl ?_
        refine me1 (pc' := 104) (L' := [(9, ii 0), (8, ii (q : Int)), (7, ii ((pnN v w : Nat) : Int)), (6, ii 0), (5, ii 1), (0, .ref 102), (1, ii vb), (2, ii (hd : Int)), (3, ii (hd2 : Int)), (4, ii place)]) (S' := []) dm_X12_paired_102 rfl rfl rfl rfl ?_
        have lp104 : ∀ (n104 : Nat) (k : Nat) (t : RS), pnN v w - k = n104 → (k ≤ pnN v w) → (pnI s t q b (pnN v w) k e (fun i => paV vb e (pat v i) (pat w i)) (sumN k (fun i => paC e (pat v i) (pat w i) + paM e (pat v i) (pat w i))) (sumN k (fun i => paK e (pat v i) (pat w i)))) → (errs (fun i => paF vb e (pat v i) (pat w i)) k = 0) → pgE xt (d - 1) 12 17 false (Option.some Jvm.ClassFile.FieldType.int) (mj_dec prog_14_method_50_code) 104 [(0, .ref 102), (1, ii vb), (2, ii (hd : Int)), (3, ii (hd2 : Int)), (4, ii place), (5, ii 1), (6, ii 0), (7, ii ((pnN v w : Nat) : Int)), (8, ii (q : Int)), (9, ii ((k : Nat) : Int))] [] (rI pre post t.1 t.2.1 t.2.2.1 t.2.2.2) (fun r h' => ∃ x, r = some x ∧ rresN pre post s (e + 1) (pno vb (e + 1) v w) place (paC (e + 1) v w + paM (e + 1) v w) (paK (e + 1) v w) x h') := by
          intro n104
          induction n104 using Nat.strongRecOn with
          | ind n104 ih104 =>
            intro k t hm104 hk hpn hes
            obtain ⟨qt, hqt⟩ : ∃ qt : Nat, t.1 4 = (qt : Int) := ⟨(t.1 4).toNat, by have := hpn.2.2.2.2.1; omega⟩
            obtain ⟨bt, hbt⟩ : ∃ bt : Nat, t.1 3 = (bt : Int) := ⟨(t.1 3).toNat, by have := hpn.2.2.2.2.2.2.2.1; omega⟩
            have hp5 := hpn.2.2.2.2.1
            have hp8 := hpn.2.2.2.2.2.2.2.1
            have hp9 := hpn.2.2.2.2.2.2.2.2.1
            have hp10 := hpn.2.2.2.2.2.2.2.2.2.1
            have hsC : sumN k (fun i => paC e (pat v i) (pat w i) + paM e (pat v i) (pat w i)) ≤ sumN (pnN v w) (fun i => paC e (pat v i) (pat w i) + paM e (pat v i) (pat w i)) := sumN_nm hk
            have hsK : sumN k (fun i => paK e (pat v i) (pat w i)) ≤ sumN (pnN v w) (fun i => paK e (pat v i) (pat w i)) := sumN_nm hk
            have hBt : rB t := ⟨by omega, by omega, by omega, by omega⟩
            have hvt := rv_ext hpn.1 hh3 hv
            have hwt := rv_ext hpn.1 hh4 hw
            have he0t := hpn.2.2.1
            have h10t : t.1 10 = s.1 10 := hpn.2.1.1 10 (by decide) (by decide) (by decide) (by decide) (by decide)
            refine me1 (pc' := 106) (L' := [(0, .ref 102), (1, ii vb), (2, ii (hd : Int)), (3, ii (hd2 : Int)), (4, ii place), (5, ii 1), (6, ii 0), (7, ii ((pnN v w : Nat) : Int)), (8, ii (q : Int)), (9, ii ((k : Nat) : Int))]) (S' := [ii ((k : Nat) : Int)]) dm_X12_paired_104 rfl rfl rfl rfl ?_
            refine me1 (pc' := 108) (L' := [(0, .ref 102), (1, ii vb), (2, ii (hd : Int)), (3, ii (hd2 : Int)), (4, ii place), (5, ii 1), (6, ii 0), (7, ii ((pnN v w : Nat) : Int)), (8, ii (q : Int)), (9, ii ((k : Nat) : Int))]) (S' := [ii ((pnN v w : Nat) : Int), ii ((k : Nat) : Int)]) dm_X12_paired_106 rfl rfl rfl rfl ?_
            refine y_2ge (a := ((k : Nat) : Int)) (b := ((pnN v w : Nat) : Int)) (t := 179) (pc' := 111) dm_X12_paired_108 rfl rfl (by omega) (fun hb7 => ?_) (fun hb7 => ?_)
            · refine me1 (pc' := 181) (L' := [(0, .ref 102), (1, ii vb), (2, ii (hd : Int)), (3, ii (hd2 : Int)), (4, ii place), (5, ii 1), (6, ii 0), (7, ii ((pnN v w : Nat) : Int)), (8, ii (q : Int)), (9, ii ((k : Nat) : Int))]) (S' := [ii (q : Int)]) dm_X12_paired_179 rfl rfl rfl rfl ?_
              refine y_ret (r := some (ii (q : Int))) dm_X12_paired_181 rfl rfl rfl ?_
              have hkn : k = pnN v w := by omega
              rw [hkn] at hpn hes
              have h4 : paF vb (e + 1) v w = 0 := by rw [paF_s, if_neg hnf, if_neg (by omega)]; exact hes
              rw [show pno vb (e + 1) v w = .inr (vnest (pnN v w) (fun i => paV vb e (pat v i) (pat w i))) by rw [pno_v h4, paV_s, if_neg hnf]]
              exact ⟨_, rfl, pnI_end hpn hb hq hq3 (by omega) (by omega) (by omega)⟩
            · refine me1 (pc' := 112) (L' := [(0, .ref 102), (1, ii vb), (2, ii (hd : Int)), (3, ii (hd2 : Int)), (4, ii place), (5, ii 1), (6, ii 0), (7, ii ((pnN v w : Nat) : Int)), (8, ii (q : Int)), (9, ii ((k : Nat) : Int))]) (S' := [.ref 102]) dm_X12_paired_111 rfl rfl rfl rfl ?_
              refine me3 (pc' := 115) (S' := [ii (t.1 5)]) dm_X12_paired_112 (q_geti (v := t.1 5) hm rfl (fun m i l => rg_5 m i l) rfl) rfl rfl rfl ?_
              refine pg_st (S' := [ii 0]) (congrArg (fun z => ii z :: []) (he0t)) ?_
              refine me_1f (pc' := 118) dm_X12_paired_115 rfl (by decide) rfl ?_
              have hs1 : sumN (k + 1) (fun i => paC e (pat v i) (pat w i) + paM e (pat v i) (pat w i)) = sumN k (fun i => paC e (pat v i) (pat w i) + paM e (pat v i) (pat w i)) + (paC e (pat v k) (pat w k) + paM e (pat v k) (pat w k)) := rfl
              have hs2 : sumN (k + 1) (fun i => paK e (pat v i) (pat w i)) = sumN k (fun i => paK e (pat v i) (pat w i)) + paK e (pat v k) (pat w k) := rfl
              have hs3 : sumN (k + 1) (fun i => paC e (pat v i) (pat w i) + paM e (pat v i) (pat w i)) ≤ sumN (pnN v w) (fun i => paC e (pat v i) (pat w i) + paM e (pat v i) (pat w i)) := sumN_nm (by omega)
              have hs4 : sumN (k + 1) (fun i => paK e (pat v i) (pat w i)) ≤ sumN (pnN v w) (fun i => paK e (pat v i) (pat w i)) := sumN_nm (by omega)
              refine me1 (pc' := 119) (L' := [(0, .ref 102), (1, ii vb), (2, ii (hd : Int)), (3, ii (hd2 : Int)), (4, ii place), (5, ii 1), (6, ii 0), (7, ii ((pnN v w : Nat) : Int)), (8, ii (q : Int)), (9, ii ((k : Nat) : Int))]) (S' := [.ref 102]) dm_X12_paired_118 rfl rfl rfl rfl ?_
              refine me3 (pc' := 122) (S' := [.ref (102 + 1)]) dm_X12_paired_119 (q_getr hm rfl (fun m i l => rg_0 m i l)) rfl rfl rfl ?_
              refine me1 (pc' := 123) (L' := [(0, .ref 102), (1, ii vb), (2, ii (hd : Int)), (3, ii (hd2 : Int)), (4, ii place), (5, ii 1), (6, ii 0), (7, ii ((pnN v w : Nat) : Int)), (8, ii (q : Int)), (9, ii ((k : Nat) : Int))]) (S' := [.ref 102, .ref (102 + 1)]) dm_X12_paired_122 rfl rfl rfl rfl ?_
              refine me3 (pc' := 126) (S' := [.ref (102 + 2), .ref (102 + 1)]) dm_X12_paired_123 (q_getr hm rfl (fun m i l => rg_1 m i l)) rfl rfl rfl ?_
              refine me1 (pc' := 128) (L' := [(0, .ref 102), (1, ii vb), (2, ii (hd : Int)), (3, ii (hd2 : Int)), (4, ii place), (5, ii 1), (6, ii 0), (7, ii ((pnN v w : Nat) : Int)), (8, ii (q : Int)), (9, ii ((k : Nat) : Int))]) (S' := [ii (q : Int), .ref (102 + 2), .ref (102 + 1)]) dm_X12_paired_126 rfl rfl rfl rfl ?_
              refine me3 (pc' := 129) (S' := [ii ((t.2.2.1 1) q), .ref (102 + 1)]) dm_X12_paired_128 (q_iald (v := (t.2.2.1 1) q) (k := 1) (n := 310000) hm (fun m i l I J => rc_1 m i l I J) (by omega) (by omega) (by decide) rfl) rfl rfl rfl ?_
              refine pg_st (S' := [ii (b : Int), .ref (102 + 1)]) (congrArg (fun z => ii z :: [.ref (102 + 1)]) (hpn.2.2.2.2.2.1)) ?_
              refine me1 (pc' := 131) (L' := [(0, .ref 102), (1, ii vb), (2, ii (hd : Int)), (3, ii (hd2 : Int)), (4, ii place), (5, ii 1), (6, ii 0), (7, ii ((pnN v w : Nat) : Int)), (8, ii (q : Int)), (9, ii ((k : Nat) : Int))]) (S' := [ii ((k : Nat) : Int), ii (b : Int), .ref (102 + 1)]) dm_X12_paired_129 rfl rfl rfl rfl ?_
              refine y_iadd (a := (b : Int)) (b := ((k : Nat) : Int)) dm_X12_paired_131 (pc' := 132) rfl ?_
              refine me1 (pc' := 133) (L' := [(0, .ref 102), (1, ii vb), (2, ii (hd : Int)), (3, ii (hd2 : Int)), (4, ii place), (5, ii 1), (6, ii 0), (7, ii ((pnN v w : Nat) : Int)), (8, ii (q : Int)), (9, ii ((k : Nat) : Int))]) (S' := [.ref 102, ii ((b : Int) + ((k : Nat) : Int)), .ref (102 + 1)]) dm_X12_paired_132 rfl rfl rfl rfl ?_
              refine me1 (pc' := 134) (L' := [(0, .ref 102), (1, ii vb), (2, ii (hd : Int)), (3, ii (hd2 : Int)), (4, ii place), (5, ii 1), (6, ii 0), (7, ii ((pnN v w : Nat) : Int)), (8, ii (q : Int)), (9, ii ((k : Nat) : Int))]) (S' := [ii vb, .ref 102, ii ((b : Int) + ((k : Nat) : Int)), .ref (102 + 1)]) dm_X12_paired_133 rfl rfl rfl rfl ?_
              refine me1 (pc' := 136) (L' := [(0, .ref 102), (1, ii vb), (2, ii (hd : Int)), (3, ii (hd2 : Int)), (4, ii place), (5, ii 1), (6, ii 0), (7, ii ((pnN v w : Nat) : Int)), (8, ii (q : Int)), (9, ii ((k : Nat) : Int))]) (S' := [ii 1, ii vb, .ref 102, ii ((b : Int) + ((k : Nat) : Int)), .ref (102 + 1)]) dm_X12_paired_134 rfl rfl rfl rfl ?_
              refine me_1f (pc' := 139) dm_X12_paired_136 rfl (by decide) rfl ?_
              refine me1 (pc' := 140) (L' := [(0, .ref 102), (1, ii vb), (2, ii (hd : Int)), (3, ii (hd2 : Int)), (4, ii place), (5, ii 1), (6, ii 0), (7, ii ((pnN v w : Nat) : Int)), (8, ii (q : Int)), (9, ii ((k : Nat) : Int))]) (S' := [.ref 102, ii vb, .ref 102, ii ((b : Int) + ((k : Nat) : Int)), .ref (102 + 1)]) dm_X12_paired_139 rfl rfl rfl rfl ?_
              refine me1 (pc' := 141) (L' := [(0, .ref 102), (1, ii vb), (2, ii (hd : Int)), (3, ii (hd2 : Int)), (4, ii place), (5, ii 1), (6, ii 0), (7, ii ((pnN v w : Nat) : Int)), (8, ii (q : Int)), (9, ii ((k : Nat) : Int))]) (S' := [ii (hd : Int), .ref 102, ii vb, .ref 102, ii ((b : Int) + ((k : Nat) : Int)), .ref (102 + 1)]) dm_X12_paired_140 rfl rfl rfl rfl ?_
              refine me1 (pc' := 143) (L' := [(0, .ref 102), (1, ii vb), (2, ii (hd : Int)), (3, ii (hd2 : Int)), (4, ii place), (5, ii 1), (6, ii 0), (7, ii ((pnN v w : Nat) : Int)), (8, ii (q : Int)), (9, ii ((k : Nat) : Int))]) (S' := [ii ((k : Nat) : Int), ii (hd : Int), .ref 102, ii vb, .ref 102, ii ((b : Int) + ((k : Nat) : Int)), .ref (102 + 1)]) dm_X12_paired_141 rfl rfl rfl rfl ?_
              have hk9v : k < vm v := by have hz : pnN v w = vm v := (by rw [pnN_e (by omega)]; first | rw [if_neg (by omega)] | (rw [if_pos (by omega)]; done) | (rw [if_pos (by omega)]; omega)); omega
              obtain ⟨qv, hvq3, hvqlt, hvqk, hcvq⟩ := r_value_ (xt := xt) (d := d - 1) (pre := pre) (post := post) (k := k) hm (by omega) hBt hvt (by omega) hk9v
              have he1 : 1 ≤ e := rv_pos hvqk
              refine x_cp (pc' := 146) (v := ii ((qv : Nat) : Int)) (rest := [ii vb, .ref 102, ii ((b : Int) + ((k : Nat) : Int)), .ref (102 + 1)]) dm_X12_paired_143 rfl (q_inv (As := [ii (hd : Int), ii ((k : Nat) : Int)]) (S := [ii vb, .ref 102, ii ((b : Int) + ((k : Nat) : Int)), .ref (102 + 1)]) hm rfl rfl rfl) rfl rfl rfl (hcvq) ?_
              refine me2 (pc' := 150) (S' := [ii ((qv : Nat) : Int), ii vb, .ref 102, ii ((b : Int) + ((k : Nat) : Int)), .ref (102 + 1)]) dm_X12_paired_146 rfl rfl rfl ?_
              refine me1 (pc' := 152) (L' := [(0, .ref 102), (1, ii vb), (2, ii (hd : Int)), (3, ii (hd2 : Int)), (4, ii place), (5, ii 1), (6, ii 0), (7, ii ((pnN v w : Nat) : Int)), (8, ii (q : Int)), (9, ii ((k : Nat) : Int))]) (S' := [ii 0, ii ((qv : Nat) : Int), ii vb, .ref 102, ii ((b : Int) + ((k : Nat) : Int)), .ref (102 + 1)]) dm_X12_paired_150 rfl rfl rfl rfl ?_
              refine me_1t (pc' := 165) dm_X12_paired_152 rfl (by decide) ?_
              refine me1 (pc' := 166) (L' := [(0, .ref 102), (1, ii vb), (2, ii (hd : Int)), (3, ii (hd2 : Int)), (4, ii place), (5, ii 1), (6, ii 0), (7, ii ((pnN v w : Nat) : Int)), (8, ii (q : Int)), (9, ii ((k : Nat) : Int))]) (S' := [ii (hd2 : Int), ii ((qv : Nat) : Int), ii vb, .ref 102, ii ((b : Int) + ((k : Nat) : Int)), .ref (102 + 1)]) dm_X12_paired_165 rfl rfl rfl rfl ?_
              refine me1 (pc' := 168) (L' := [(0, .ref 102), (1, ii vb), (2, ii (hd : Int)), (3, ii (hd2 : Int)), (4, ii place), (5, ii 1), (6, ii 0), (7, ii ((pnN v w : Nat) : Int)), (8, ii (q : Int)), (9, ii ((k : Nat) : Int))]) (S' := [ii place, ii (hd2 : Int), ii ((qv : Nat) : Int), ii vb, .ref 102, ii ((b : Int) + ((k : Nat) : Int)), .ref (102 + 1)]) dm_X12_paired_166 rfl rfl rfl rfl ?_
              by_cases hof : paF vb e (pat v k) (pat w k) = 0
              · refine x_cv (pc' := 171) (rest := [ii ((b : Int) + ((k : Nat) : Int)), .ref (102 + 1)]) dm_X12_paired_168 rfl (q_inv (As := [ii vb, ii ((qv : Nat) : Int), ii (hd2 : Int), ii place]) (S := [ii ((b : Int) + ((k : Nat) : Int)), .ref (102 + 1)]) hm rfl rfl rfl) rfl rfl rfl (by have z := ih (d := d - 1) (s := t) (q := qt) (b := bt) (v := pat v k) (w := pat w k) (by omega) hBt (by rw [pat_7 (by omega)]; exact hvqk) hvq3 (by rw [pat_n (by omega)]; exact rv_dn hwt he1 (by omega)) hh4 hqt hbt (by omega) (by omega) he0t (by rw [h10t]; exact hca) (by omega); rw [pno_v hof] at z; exact z) ?_
                rintro _ _ ⟨t1, rfl, r1, r2, r3, r4, r5, r6, p1, r7, rfl, r8⟩
                have hp1 : (p1 : Int) < t1.1 4 := by have z := rv_lt (rvN_rv r8); exact z
                refine y_i2l (a := (p1 : Int)) dm_X12_paired_171 (pc' := 172) rfl (by omega) (by omega) ?_
                refine me3 (pc' := 173) (S' := []) (h1 := rI pre post t1.1 t1.2.1 t1.2.2.1 (va_up t1.2.2.2 0 (va_up (t1.2.2.2 0) (b + k) (Int64.ofInt (p1 : Int))))) dm_X12_paired_172 (q_last (j := (b : Int) + ((k : Nat) : Int)) (k := 0) (n := 820000) hm (fun m i l I J => rc_0 m i l I J) (fun m i l I J f => rs_0 m i l I J f) (by omega) (by omega) (by decide)) rfl rfl rfl ?_
                refine pg_cast (h2 := rI pre post ((putC t1 (b + k) (Int64.ofInt (p1 : Int))).1) ((putC t1 (b + k) (Int64.ofInt (p1 : Int))).2.1) ((putC t1 (b + k) (Int64.ofInt (p1 : Int))).2.2.1) ((putC t1 (b + k) (Int64.ofInt (p1 : Int))).2.2.2)) rfl ?_
                refine y_iinc (pc' := 176) (L' := [(9, ii (((k : Nat) : Int) + 1)), (0, .ref 102), (1, ii vb), (2, ii (hd : Int)), (3, ii (hd2 : Int)), (4, ii place), (5, ii 1), (6, ii 0), (7, ii ((pnN v w : Nat) : Int)), (8, ii (q : Int))]) dm_X12_paired_173 (y_incp (a := ((k : Nat) : Int)) (c := 1) rfl rfl (by decide)) rfl ?_
                refine me2 (pc' := 104) (S' := []) dm_X12_paired_176 rfl rfl rfl ?_
                exact pg_sub (L := [(0, .ref 102), (1, ii vb), (2, ii (hd : Int)), (3, ii (hd2 : Int)), (4, ii place), (5, ii 1), (6, ii 0), (7, ii ((pnN v w : Nat) : Int)), (8, ii (q : Int)), (9, ii (((k + 1) : Nat) : Int))]) rfl rfl rfl (ih104 (pnN v w - (k + 1)) (by omega) (k + 1) (putC t1 (b + k) (Int64.ofInt (p1 : Int))) rfl (by omega) (pnI_s hpn hb (by omega) hq3 r1 r2 r3 r4 r5 r6 r7 r8) ((errs_s0 hes).trans hof))
              · refine x_cv (pc' := 171) (rest := [ii ((b : Int) + ((k : Nat) : Int)), .ref (102 + 1)]) dm_X12_paired_168 rfl (q_inv (As := [ii vb, ii ((qv : Nat) : Int), ii (hd2 : Int), ii place]) (S := [ii ((b : Int) + ((k : Nat) : Int)), .ref (102 + 1)]) hm rfl rfl rfl) rfl rfl rfl (by have z := ih (d := d - 1) (s := t) (q := qt) (b := bt) (v := pat v k) (w := pat w k) (by omega) hBt (by rw [pat_7 (by omega)]; exact hvqk) hvq3 (by rw [pat_n (by omega)]; exact rv_dn hwt he1 (by omega)) hh4 hqt hbt (by omega) (by omega) he0t (by rw [h10t]; exact hca) (by omega); rw [pno_e hof] at z; exact z) ?_
                rintro _ _ ⟨t1, rfl, r1, r2, r3, r4, ⟨z1, rfl, r7, r8⟩, r5, r6⟩
                refine y_i2l (a := z1) dm_X12_paired_171 (pc' := 172) rfl (by omega) (by omega) ?_
                refine me3 (pc' := 173) (S' := []) (h1 := rI pre post t1.1 t1.2.1 t1.2.2.1 (va_up t1.2.2.2 0 (va_up (t1.2.2.2 0) (b + k) (Int64.ofInt z1)))) dm_X12_paired_172 (q_last (j := (b : Int) + ((k : Nat) : Int)) (k := 0) (n := 820000) hm (fun m i l I J => rc_0 m i l I J) (fun m i l I J f => rs_0 m i l I J f) (by omega) (by omega) (by decide)) rfl rfl rfl ?_
                refine pg_cast (h2 := rI pre post ((putC t1 (b + k) (Int64.ofInt z1)).1) ((putC t1 (b + k) (Int64.ofInt z1)).2.1) ((putC t1 (b + k) (Int64.ofInt z1)).2.2.1) ((putC t1 (b + k) (Int64.ofInt z1)).2.2.2)) rfl ?_
                have hE1 : paF vb e (pat v k) (pat w k) ≠ 0 := hof
                refine y_iinc (pc' := 176) (L' := [(9, ii (((k : Nat) : Int) + 1)), (0, .ref 102), (1, ii vb), (2, ii (hd : Int)), (3, ii (hd2 : Int)), (4, ii place), (5, ii 1), (6, ii 0), (7, ii ((pnN v w : Nat) : Int)), (8, ii (q : Int))]) dm_X12_paired_173 (y_incp (a := ((k : Nat) : Int)) (c := 1) rfl rfl (by decide)) rfl ?_
                refine me2 (pc' := 104) (S' := []) dm_X12_paired_176 rfl rfl rfl ?_
                refine me1 (pc' := 106) (L' := [(9, ii (((k : Nat) : Int) + 1)), (0, .ref 102), (1, ii vb), (2, ii (hd : Int)), (3, ii (hd2 : Int)), (4, ii place), (5, ii 1), (6, ii 0), (7, ii ((pnN v w : Nat) : Int)), (8, ii (q : Int))]) (S' := [ii (((k : Nat) : Int) + 1)]) dm_X12_paired_104 rfl rfl rfl rfl ?_
                refine me1 (pc' := 108) (L' := [(9, ii (((k : Nat) : Int) + 1)), (0, .ref 102), (1, ii vb), (2, ii (hd : Int)), (3, ii (hd2 : Int)), (4, ii place), (5, ii 1), (6, ii 0), (7, ii ((pnN v w : Nat) : Int)), (8, ii (q : Int))]) (S' := [ii ((pnN v w : Nat) : Int), ii (((k : Nat) : Int) + 1)]) dm_X12_paired_106 rfl rfl rfl rfl ?_
                refine y_2ge (a := ((k : Nat) : Int) + 1) (b := ((pnN v w : Nat) : Int)) (t := 179) (pc' := 111) dm_X12_paired_108 rfl rfl (by omega) (fun hb8 => ?_) (fun hb8 => ?_)
                · refine me1 (pc' := 181) (L' := [(9, ii (((k : Nat) : Int) + 1)), (0, .ref 102), (1, ii vb), (2, ii (hd : Int)), (3, ii (hd2 : Int)), (4, ii place), (5, ii 1), (6, ii 0), (7, ii ((pnN v w : Nat) : Int)), (8, ii (q : Int))]) (S' := [ii (q : Int)]) dm_X12_paired_179 rfl rfl rfl rfl ?_
                  refine y_ret (r := some (ii (q : Int))) dm_X12_paired_181 rfl rfl rfl ?_
                  have hEn : errs (fun i => paF vb e (pat v i) (pat w i)) (pnN v w) = paF vb e (pat v k) (pat w k) := by have y := errs_mono (g := (fun i => paF vb e (pat v i) (pat w i))) (k := k + 1) (by rw [errs_s0 hes]; exact hof) (pnN v w - (k + 1)); rw [show k + 1 + (pnN v w - (k + 1)) = pnN v w by omega, errs_s0 hes] at y; exact y
                  have h4 : paF vb (e + 1) v w = paF vb e (pat v k) (pat w k) := by rw [paF_s, if_neg hnf, if_neg (by omega)]; exact hEn
                  rw [show pno vb (e + 1) v w = .inl (paF vb e (pat v k) (pat w k)).toNat by rw [pno_e (by rw [h4]; exact hof), h4]]
                  exact ⟨_, rfl, rresN_f (rext_putC (rext_tr hpn.1 r1) (by omega) _) (rfr_putC (rfr_tr hpn.2.1 r2) _ _) (show t1.1 3 ≤ _ by omega) (show t1.1 4 ≤ _ by omega) r5 (r6.trans (by rw [hpn.2.1.1 10 (by decide) (by decide) (by decide) (by decide) (by decide), hpn.2.1.1 11 (by decide) (by decide) (by decide) (by decide) (by decide)])) (by omega)⟩
                · refine me1 (pc' := 112) (L' := [(9, ii (((k : Nat) : Int) + 1)), (0, .ref 102), (1, ii vb), (2, ii (hd : Int)), (3, ii (hd2 : Int)), (4, ii place), (5, ii 1), (6, ii 0), (7, ii ((pnN v w : Nat) : Int)), (8, ii (q : Int))]) (S' := [.ref 102]) dm_X12_paired_111 rfl rfl rfl rfl ?_
                  refine me3 (pc' := 115) (S' := [ii (((putC t1 (b + k) (Int64.ofInt z1)).1) 5)]) dm_X12_paired_112 (q_geti (v := ((putC t1 (b + k) (Int64.ofInt z1)).1) 5) hm rfl (fun m i l => rg_5 m i l) rfl) rfl rfl rfl ?_
                  have hfr := paF_r vb e (pat v k) (pat w k)
                  refine pg_st (S' := [ii ((paF vb e (pat v k) (pat w k)).toNat : Int)]) (congrArg (fun z => ii z :: []) (r5)) ?_
                  refine y_1ne (a := ((paF vb e (pat v k) (pat w k)).toNat : Int)) (t := 179) (pc' := 118) dm_X12_paired_115 rfl rfl (by omega) (fun hb9 => ?_) (fun hb9 => ?_)
                  · refine me1 (pc' := 181) (L' := [(9, ii (((k : Nat) : Int) + 1)), (0, .ref 102), (1, ii vb), (2, ii (hd : Int)), (3, ii (hd2 : Int)), (4, ii place), (5, ii 1), (6, ii 0), (7, ii ((pnN v w : Nat) : Int)), (8, ii (q : Int))]) (S' := [ii (q : Int)]) dm_X12_paired_179 rfl rfl rfl rfl ?_
                    refine y_ret (r := some (ii (q : Int))) dm_X12_paired_181 rfl rfl rfl ?_
                    have hEn : errs (fun i => paF vb e (pat v i) (pat w i)) (pnN v w) = paF vb e (pat v k) (pat w k) := by have y := errs_mono (g := (fun i => paF vb e (pat v i) (pat w i))) (k := k + 1) (by rw [errs_s0 hes]; exact hof) (pnN v w - (k + 1)); rw [show k + 1 + (pnN v w - (k + 1)) = pnN v w by omega, errs_s0 hes] at y; exact y
                    have h4 : paF vb (e + 1) v w = paF vb e (pat v k) (pat w k) := by rw [paF_s, if_neg hnf, if_neg (by omega)]; exact hEn
                    rw [show pno vb (e + 1) v w = .inl (paF vb e (pat v k) (pat w k)).toNat by rw [pno_e (by rw [h4]; exact hof), h4]]
                    exact ⟨_, rfl, rresN_f (rext_putC (rext_tr hpn.1 r1) (by omega) _) (rfr_putC (rfr_tr hpn.2.1 r2) _ _) (show t1.1 3 ≤ _ by omega) (show t1.1 4 ≤ _ by omega) r5 (r6.trans (by rw [hpn.2.1.1 10 (by decide) (by decide) (by decide) (by decide) (by decide), hpn.2.1.1 11 (by decide) (by decide) (by decide) (by decide) (by decide)])) (by omega)⟩
                  · exfalso; omega
        exact pg_sub (L := [(0, .ref 102), (1, ii vb), (2, ii (hd : Int)), (3, ii (hd2 : Int)), (4, ii place), (5, ii 1), (6, ii 0), (7, ii ((pnN v w : Nat) : Int)), (8, ii (q : Int)), (9, ii ((0 : Nat) : Int))]) rfl rfl rfl (lp104 _ 0 (rowS s q b 7 ((pnN v w : Nat) : Int)) rfl (Nat.zero_le _) (pnI_0 hq hb he0) rfl)
      · refine me0 (pc' := 28) (S' := [ii 1]) dm_X12_paired_27 rfl rfl rfl rfl ?_
        refine me2 (pc' := 32) (S' := [ii 1]) dm_X12_paired_28 rfl rfl rfl ?_
        refine me1 (pc' := 34) (L' := [(6, ii 1), (5, ii 1), (0, .ref 102), (1, ii vb), (2, ii (hd : Int)), (3, ii (hd2 : Int)), (4, ii place)]) (S' := []) dm_X12_paired_32 rfl rfl rfl rfl ?_
        refine me1 (pc' := 36) (L' := [(6, ii 1), (5, ii 1), (0, .ref 102), (1, ii vb), (2, ii (hd : Int)), (3, ii (hd2 : Int)), (4, ii place)]) (S' := [ii 1]) dm_X12_paired_34 rfl rfl rfl rfl ?_
        refine me_1t (pc' := 44) dm_X12_paired_36 rfl (by decide) ?_
        refine me1 (pc' := 46) (L' := [(6, ii 1), (5, ii 1), (0, .ref 102), (1, ii vb), (2, ii (hd : Int)), (3, ii (hd2 : Int)), (4, ii place)]) (S' := [ii 1]) dm_X12_paired_44 rfl rfl rfl rfl ?_
        refine me_1f (pc' := 49) dm_X12_paired_46 rfl (by decide) rfl ?_
        refine me1 (pc' := 51) (L' := [(6, ii 1), (5, ii 1), (0, .ref 102), (1, ii vb), (2, ii (hd : Int)), (3, ii (hd2 : Int)), (4, ii place)]) (S' := [ii 1]) dm_X12_paired_49 rfl rfl rfl rfl ?_
        refine me_1f (pc' := 54) dm_X12_paired_51 rfl (by decide) rfl ?_
        refine me1 (pc' := 55) (L' := [(6, ii 1), (5, ii 1), (0, .ref 102), (1, ii vb), (2, ii (hd : Int)), (3, ii (hd2 : Int)), (4, ii place)]) (S' := [.ref 102]) dm_X12_paired_54 rfl rfl rfl rfl ?_
        refine me1 (pc' := 56) (L' := [(6, ii 1), (5, ii 1), (0, .ref 102), (1, ii vb), (2, ii (hd : Int)), (3, ii (hd2 : Int)), (4, ii place)]) (S' := [ii (hd : Int), .ref 102]) dm_X12_paired_55 rfl rfl rfl rfl ?_
        refine x_cp (pc' := 59) (v := ii (vm v : Int)) (rest := []) dm_X12_paired_56 rfl (q_inv (As := [ii (hd : Int)]) (S := []) hm rfl rfl rfl) rfl rfl rfl (r_many_ hm (by omega) hB0 hv) ?_
        refine me1 (pc' := 60) (L' := [(6, ii 1), (5, ii 1), (0, .ref 102), (1, ii vb), (2, ii (hd : Int)), (3, ii (hd2 : Int)), (4, ii place)]) (S' := [.ref 102, ii (vm v : Int)]) dm_X12_paired_59 rfl rfl rfl rfl ?_
        refine me1 (pc' := 61) (L' := [(6, ii 1), (5, ii 1), (0, .ref 102), (1, ii vb), (2, ii (hd : Int)), (3, ii (hd2 : Int)), (4, ii place)]) (S' := [ii (hd2 : Int), .ref 102, ii (vm v : Int)]) dm_X12_paired_60 rfl rfl rfl rfl ?_
        refine x_cp (pc' := 64) (v := ii (vm w : Int)) (rest := [ii (vm v : Int)]) dm_X12_paired_61 rfl (q_inv (As := [ii (hd2 : Int)]) (S := [ii (vm v : Int)]) hm rfl rfl rfl) rfl rfl rfl (r_many_ hm (by omega) hB0 hw) ?_
        refine y_2eq (a := (vm v : Int)) (b := (vm w : Int)) (t := 75) (pc' := 67) dm_X12_paired_64 rfl rfl (by omega) (fun hb10 => ?_) (fun hb10 => ?_)
        · refine me1 (pc' := 76) (L' := [(6, ii 1), (5, ii 1), (0, .ref 102), (1, ii vb), (2, ii (hd : Int)), (3, ii (hd2 : Int)), (4, ii place)]) (S' := [.ref 102]) dm_X12_paired_75 rfl rfl rfl rfl ?_
          refine me1 (pc' := 78) (L' := [(6, ii 1), (5, ii 1), (0, .ref 102), (1, ii vb), (2, ii (hd : Int)), (3, ii (hd2 : Int)), (4, ii place)]) (S' := [ii 1, .ref 102]) dm_X12_paired_76 rfl rfl rfl rfl ?_
          refine me_1f (pc' := 81) dm_X12_paired_78 rfl (by decide) rfl ?_
          refine me1 (pc' := 82) (L' := [(6, ii 1), (5, ii 1), (0, .ref 102), (1, ii vb), (2, ii (hd : Int)), (3, ii (hd2 : Int)), (4, ii place)]) (S' := [ii (hd : Int), .ref 102]) dm_X12_paired_81 rfl rfl rfl rfl ?_
          refine me2 (pc' := 86) (S' := [ii (hd : Int), .ref 102]) dm_X12_paired_82 rfl rfl rfl ?_
          refine x_cp (pc' := 89) (v := ii (vm v : Int)) (rest := []) dm_X12_paired_86 rfl (q_inv (As := [ii (hd : Int)]) (S := []) hm rfl rfl rfl) rfl rfl rfl (r_many_ hm (by omega) hB0 hv) ?_
          refine pg_st (S' := [ii ((pnN v w : Nat) : Int)]) (congrArg (fun z => ii z :: []) (by rw [pnN_e (by omega)]; first | rw [if_pos (by omega)] | rw [if_neg (by omega)])) ?_
          refine me1 (pc' := 91) (L' := [(7, ii ((pnN v w : Nat) : Int)), (6, ii 1), (5, ii 1), (0, .ref 102), (1, ii vb), (2, ii (hd : Int)), (3, ii (hd2 : Int)), (4, ii place)]) (S' := []) dm_X12_paired_89 rfl rfl rfl rfl ?_
          refine me1 (pc' := 92) (L' := [(7, ii ((pnN v w : Nat) : Int)), (6, ii 1), (5, ii 1), (0, .ref 102), (1, ii vb), (2, ii (hd : Int)), (3, ii (hd2 : Int)), (4, ii place)]) (S' := [.ref 102]) dm_X12_paired_91 rfl rfl rfl rfl ?_
          refine me0 (pc' := 94) (S' := [ii 7, .ref 102]) dm_X12_paired_92 rfl rfl rfl rfl ?_
          refine me1 (pc' := 96) (L' := [(7, ii ((pnN v w : Nat) : Int)), (6, ii 1), (5, ii 1), (0, .ref 102), (1, ii vb), (2, ii (hd : Int)), (3, ii (hd2 : Int)), (4, ii place)]) (S' := [ii ((pnN v w : Nat) : Int), ii 7, .ref 102]) dm_X12_paired_94 rfl rfl rfl rfl ?_
          refine x_cv (pc' := 99) (rest := []) dm_X12_paired_96 rfl (q_inv (As := [ii 7, ii ((pnN v w : Nat) : Int)]) (S := []) hm rfl rfl rfl) rfl rfl rfl (r_row_ (q := q) (b := b) (s := s) hm (by omega) hq hb (by omega) (by omega) (by omega)) ?_
          rintro _ _ ⟨rfl, rfl⟩
          refine me1 (pc' := 101) (L' := [(8, ii (q : Int)), (7, ii ((pnN v w : Nat) : Int)), (6, ii 1), (5, ii 1), (0, .ref 102), (1, ii vb), (2, ii (hd : Int)), (3, ii (hd2 : Int)), (4, ii place)]) (S' := []) dm_X12_paired_99 rfl rfl rfl rfl ?_
          refine me0 (pc' := 102) (S' := [ii 0]) dm_X12_paired_101 rfl rfl rfl rfl ?_
          refine me1 (pc' := 104) (L' := [(9, ii 0), (8, ii (q : Int)), (7, ii ((pnN v w : Nat) : Int)), (6, ii 1), (5, ii 1), (0, .ref 102), (1, ii vb), (2, ii (hd : Int)), (3, ii (hd2 : Int)), (4, ii place)]) (S' := []) dm_X12_paired_102 rfl rfl rfl rfl ?_
          have lp104 : ∀ (n104 : Nat) (k : Nat) (t : RS), pnN v w - k = n104 → (k ≤ pnN v w) → (pnI s t q b (pnN v w) k e (fun i => paV vb e (pat v i) (pat w i)) (sumN k (fun i => paC e (pat v i) (pat w i) + paM e (pat v i) (pat w i))) (sumN k (fun i => paK e (pat v i) (pat w i)))) → (errs (fun i => paF vb e (pat v i) (pat w i)) k = 0) → pgE xt (d - 1) 12 17 false (Option.some Jvm.ClassFile.FieldType.int) (mj_dec prog_14_method_50_code) 104 [(0, .ref 102), (1, ii vb), (2, ii (hd : Int)), (3, ii (hd2 : Int)), (4, ii place), (5, ii 1), (6, ii 1), (7, ii ((pnN v w : Nat) : Int)), (8, ii (q : Int)), (9, ii ((k : Nat) : Int))] [] (rI pre post t.1 t.2.1 t.2.2.1 t.2.2.2) (fun r h' => ∃ x, r = some x ∧ rresN pre post s (e + 1) (pno vb (e + 1) v w) place (paC (e + 1) v w + paM (e + 1) v w) (paK (e + 1) v w) x h') := by
            intro n104
            induction n104 using Nat.strongRecOn with
            | ind n104 ih104 =>
              intro k t hm104 hk hpn hes
              obtain ⟨qt, hqt⟩ : ∃ qt : Nat, t.1 4 = (qt : Int) := ⟨(t.1 4).toNat, by have := hpn.2.2.2.2.1; omega⟩
              obtain ⟨bt, hbt⟩ : ∃ bt : Nat, t.1 3 = (bt : Int) := ⟨(t.1 3).toNat, by have := hpn.2.2.2.2.2.2.2.1; omega⟩
              have hp5 := hpn.2.2.2.2.1
              have hp8 := hpn.2.2.2.2.2.2.2.1
              have hp9 := hpn.2.2.2.2.2.2.2.2.1
              have hp10 := hpn.2.2.2.2.2.2.2.2.2.1
              have hsC : sumN k (fun i => paC e (pat v i) (pat w i) + paM e (pat v i) (pat w i)) ≤ sumN (pnN v w) (fun i => paC e (pat v i) (pat w i) + paM e (pat v i) (pat w i)) := sumN_nm hk
              have hsK : sumN k (fun i => paK e (pat v i) (pat w i)) ≤ sumN (pnN v w) (fun i => paK e (pat v i) (pat w i)) := sumN_nm hk
              have hBt : rB t := ⟨by omega, by omega, by omega, by omega⟩
              have hvt := rv_ext hpn.1 hh3 hv
              have hwt := rv_ext hpn.1 hh4 hw
              have he0t := hpn.2.2.1
              have h10t : t.1 10 = s.1 10 := hpn.2.1.1 10 (by decide) (by decide) (by decide) (by decide) (by decide)
              refine me1 (pc' := 106) (L' := [(0, .ref 102), (1, ii vb), (2, ii (hd : Int)), (3, ii (hd2 : Int)), (4, ii place), (5, ii 1), (6, ii 1), (7, ii ((pnN v w : Nat) : Int)), (8, ii (q : Int)), (9, ii ((k : Nat) : Int))]) (S' := [ii ((k : Nat) : Int)]) dm_X12_paired_104 rfl rfl rfl rfl ?_
              refine me1 (pc' := 108) (L' := [(0, .ref 102), (1, ii vb), (2, ii (hd : Int)), (3, ii (hd2 : Int)), (4, ii place), (5, ii 1), (6, ii 1), (7, ii ((pnN v w : Nat) : Int)), (8, ii (q : Int)), (9, ii ((k : Nat) : Int))]) (S' := [ii ((pnN v w : Nat) : Int), ii ((k : Nat) : Int)]) dm_X12_paired_106 rfl rfl rfl rfl ?_
              refine y_2ge (a := ((k : Nat) : Int)) (b := ((pnN v w : Nat) : Int)) (t := 179) (pc' := 111) dm_X12_paired_108 rfl rfl (by omega) (fun hb11 => ?_) (fun hb11 => ?_)
              · refine me1 (pc' := 181) (L' := [(0, .ref 102), (1, ii vb), (2, ii (hd : Int)), (3, ii (hd2 : Int)), (4, ii place), (5, ii 1), (6, ii 1), (7, ii ((pnN v w : Nat) : Int)), (8, ii (q : Int)), (9, ii ((k : Nat) : Int))]) (S' := [ii (q : Int)]) dm_X12_paired_179 rfl rfl rfl rfl ?_
                refine y_ret (r := some (ii (q : Int))) dm_X12_paired_181 rfl rfl rfl ?_
                have hkn : k = pnN v w := by omega
                rw [hkn] at hpn hes
                have h4 : paF vb (e + 1) v w = 0 := by rw [paF_s, if_neg hnf, if_neg (by omega)]; exact hes
                rw [show pno vb (e + 1) v w = .inr (vnest (pnN v w) (fun i => paV vb e (pat v i) (pat w i))) by rw [pno_v h4, paV_s, if_neg hnf]]
                exact ⟨_, rfl, pnI_end hpn hb hq hq3 (by omega) (by omega) (by omega)⟩
              · refine me1 (pc' := 112) (L' := [(0, .ref 102), (1, ii vb), (2, ii (hd : Int)), (3, ii (hd2 : Int)), (4, ii place), (5, ii 1), (6, ii 1), (7, ii ((pnN v w : Nat) : Int)), (8, ii (q : Int)), (9, ii ((k : Nat) : Int))]) (S' := [.ref 102]) dm_X12_paired_111 rfl rfl rfl rfl ?_
                refine me3 (pc' := 115) (S' := [ii (t.1 5)]) dm_X12_paired_112 (q_geti (v := t.1 5) hm rfl (fun m i l => rg_5 m i l) rfl) rfl rfl rfl ?_
                refine pg_st (S' := [ii 0]) (congrArg (fun z => ii z :: []) (he0t)) ?_
                refine me_1f (pc' := 118) dm_X12_paired_115 rfl (by decide) rfl ?_
                have hs1 : sumN (k + 1) (fun i => paC e (pat v i) (pat w i) + paM e (pat v i) (pat w i)) = sumN k (fun i => paC e (pat v i) (pat w i) + paM e (pat v i) (pat w i)) + (paC e (pat v k) (pat w k) + paM e (pat v k) (pat w k)) := rfl
                have hs2 : sumN (k + 1) (fun i => paK e (pat v i) (pat w i)) = sumN k (fun i => paK e (pat v i) (pat w i)) + paK e (pat v k) (pat w k) := rfl
                have hs3 : sumN (k + 1) (fun i => paC e (pat v i) (pat w i) + paM e (pat v i) (pat w i)) ≤ sumN (pnN v w) (fun i => paC e (pat v i) (pat w i) + paM e (pat v i) (pat w i)) := sumN_nm (by omega)
                have hs4 : sumN (k + 1) (fun i => paK e (pat v i) (pat w i)) ≤ sumN (pnN v w) (fun i => paK e (pat v i) (pat w i)) := sumN_nm (by omega)
                refine me1 (pc' := 119) (L' := [(0, .ref 102), (1, ii vb), (2, ii (hd : Int)), (3, ii (hd2 : Int)), (4, ii place), (5, ii 1), (6, ii 1), (7, ii ((pnN v w : Nat) : Int)), (8, ii (q : Int)), (9, ii ((k : Nat) : Int))]) (S' := [.ref 102]) dm_X12_paired_118 rfl rfl rfl rfl ?_
                refine me3 (pc' := 122) (S' := [.ref (102 + 1)]) dm_X12_paired_119 (q_getr hm rfl (fun m i l => rg_0 m i l)) rfl rfl rfl ?_
                refine me1 (pc' := 123) (L' := [(0, .ref 102), (1, ii vb), (2, ii (hd : Int)), (3, ii (hd2 : Int)), (4, ii place), (5, ii 1), (6, ii 1), (7, ii ((pnN v w : Nat) : Int)), (8, ii (q : Int)), (9, ii ((k : Nat) : Int))]) (S' := [.ref 102, .ref (102 + 1)]) dm_X12_paired_122 rfl rfl rfl rfl ?_
                refine me3 (pc' := 126) (S' := [.ref (102 + 2), .ref (102 + 1)]) dm_X12_paired_123 (q_getr hm rfl (fun m i l => rg_1 m i l)) rfl rfl rfl ?_
                refine me1 (pc' := 128) (L' := [(0, .ref 102), (1, ii vb), (2, ii (hd : Int)), (3, ii (hd2 : Int)), (4, ii place), (5, ii 1), (6, ii 1), (7, ii ((pnN v w : Nat) : Int)), (8, ii (q : Int)), (9, ii ((k : Nat) : Int))]) (S' := [ii (q : Int), .ref (102 + 2), .ref (102 + 1)]) dm_X12_paired_126 rfl rfl rfl rfl ?_
                refine me3 (pc' := 129) (S' := [ii ((t.2.2.1 1) q), .ref (102 + 1)]) dm_X12_paired_128 (q_iald (v := (t.2.2.1 1) q) (k := 1) (n := 310000) hm (fun m i l I J => rc_1 m i l I J) (by omega) (by omega) (by decide) rfl) rfl rfl rfl ?_
                refine pg_st (S' := [ii (b : Int), .ref (102 + 1)]) (congrArg (fun z => ii z :: [.ref (102 + 1)]) (hpn.2.2.2.2.2.1)) ?_
                refine me1 (pc' := 131) (L' := [(0, .ref 102), (1, ii vb), (2, ii (hd : Int)), (3, ii (hd2 : Int)), (4, ii place), (5, ii 1), (6, ii 1), (7, ii ((pnN v w : Nat) : Int)), (8, ii (q : Int)), (9, ii ((k : Nat) : Int))]) (S' := [ii ((k : Nat) : Int), ii (b : Int), .ref (102 + 1)]) dm_X12_paired_129 rfl rfl rfl rfl ?_
                refine y_iadd (a := (b : Int)) (b := ((k : Nat) : Int)) dm_X12_paired_131 (pc' := 132) rfl ?_
                refine me1 (pc' := 133) (L' := [(0, .ref 102), (1, ii vb), (2, ii (hd : Int)), (3, ii (hd2 : Int)), (4, ii place), (5, ii 1), (6, ii 1), (7, ii ((pnN v w : Nat) : Int)), (8, ii (q : Int)), (9, ii ((k : Nat) : Int))]) (S' := [.ref 102, ii ((b : Int) + ((k : Nat) : Int)), .ref (102 + 1)]) dm_X12_paired_132 rfl rfl rfl rfl ?_
                refine me1 (pc' := 134) (L' := [(0, .ref 102), (1, ii vb), (2, ii (hd : Int)), (3, ii (hd2 : Int)), (4, ii place), (5, ii 1), (6, ii 1), (7, ii ((pnN v w : Nat) : Int)), (8, ii (q : Int)), (9, ii ((k : Nat) : Int))]) (S' := [ii vb, .ref 102, ii ((b : Int) + ((k : Nat) : Int)), .ref (102 + 1)]) dm_X12_paired_133 rfl rfl rfl rfl ?_
                refine me1 (pc' := 136) (L' := [(0, .ref 102), (1, ii vb), (2, ii (hd : Int)), (3, ii (hd2 : Int)), (4, ii place), (5, ii 1), (6, ii 1), (7, ii ((pnN v w : Nat) : Int)), (8, ii (q : Int)), (9, ii ((k : Nat) : Int))]) (S' := [ii 1, ii vb, .ref 102, ii ((b : Int) + ((k : Nat) : Int)), .ref (102 + 1)]) dm_X12_paired_134 rfl rfl rfl rfl ?_
                refine me_1f (pc' := 139) dm_X12_paired_136 rfl (by decide) rfl ?_
                refine me1 (pc' := 140) (L' := [(0, .ref 102), (1, ii vb), (2, ii (hd : Int)), (3, ii (hd2 : Int)), (4, ii place), (5, ii 1), (6, ii 1), (7, ii ((pnN v w : Nat) : Int)), (8, ii (q : Int)), (9, ii ((k : Nat) : Int))]) (S' := [.ref 102, ii vb, .ref 102, ii ((b : Int) + ((k : Nat) : Int)), .ref (102 + 1)]) dm_X12_paired_139 rfl rfl rfl rfl ?_
                refine me1 (pc' := 141) (L' := [(0, .ref 102), (1, ii vb), (2, ii (hd : Int)), (3, ii (hd2 : Int)), (4, ii place), (5, ii 1), (6, ii 1), (7, ii ((pnN v w : Nat) : Int)), (8, ii (q : Int)), (9, ii ((k : Nat) : Int))]) (S' := [ii (hd : Int), .ref 102, ii vb, .ref 102, ii ((b : Int) + ((k : Nat) : Int)), .ref (102 + 1)]) dm_X12_paired_140 rfl rfl rfl rfl ?_
                refine me1 (pc' := 143) (L' := [(0, .ref 102), (1, ii vb), (2, ii (hd : Int)), (3, ii (hd2 : Int)), (4, ii place), (5, ii 1), (6, ii 1), (7, ii ((pnN v w : Nat) : Int)), (8, ii (q : Int)), (9, ii ((k : Nat) : Int))]) (S' := [ii ((k : Nat) : Int), ii (hd : Int), .ref 102, ii vb, .ref 102, ii ((b : Int) + ((k : Nat) : Int)), .ref (102 + 1)]) dm_X12_paired_141 rfl rfl rfl rfl ?_
                have hk9v : k < vm v := by have hz : pnN v w = vm v := (by rw [pnN_e (by omega)]; first | rw [if_neg (by omega)] | (rw [if_pos (by omega)]; done) | (rw [if_pos (by omega)]; omega)); omega
                obtain ⟨qv, hvq3, hvqlt, hvqk, hcvq⟩ := r_value_ (xt := xt) (d := d - 1) (pre := pre) (post := post) (k := k) hm (by omega) hBt hvt (by omega) hk9v
                have he1 : 1 ≤ e := rv_pos hvqk
                refine x_cp (pc' := 146) (v := ii ((qv : Nat) : Int)) (rest := [ii vb, .ref 102, ii ((b : Int) + ((k : Nat) : Int)), .ref (102 + 1)]) dm_X12_paired_143 rfl (q_inv (As := [ii (hd : Int), ii ((k : Nat) : Int)]) (S := [ii vb, .ref 102, ii ((b : Int) + ((k : Nat) : Int)), .ref (102 + 1)]) hm rfl rfl rfl) rfl rfl rfl (hcvq) ?_
                refine me2 (pc' := 150) (S' := [ii ((qv : Nat) : Int), ii vb, .ref 102, ii ((b : Int) + ((k : Nat) : Int)), .ref (102 + 1)]) dm_X12_paired_146 rfl rfl rfl ?_
                refine me1 (pc' := 152) (L' := [(0, .ref 102), (1, ii vb), (2, ii (hd : Int)), (3, ii (hd2 : Int)), (4, ii place), (5, ii 1), (6, ii 1), (7, ii ((pnN v w : Nat) : Int)), (8, ii (q : Int)), (9, ii ((k : Nat) : Int))]) (S' := [ii 1, ii ((qv : Nat) : Int), ii vb, .ref 102, ii ((b : Int) + ((k : Nat) : Int)), .ref (102 + 1)]) dm_X12_paired_150 rfl rfl rfl rfl ?_
                refine me_1f (pc' := 155) dm_X12_paired_152 rfl (by decide) rfl ?_
                refine me1 (pc' := 156) (L' := [(0, .ref 102), (1, ii vb), (2, ii (hd : Int)), (3, ii (hd2 : Int)), (4, ii place), (5, ii 1), (6, ii 1), (7, ii ((pnN v w : Nat) : Int)), (8, ii (q : Int)), (9, ii ((k : Nat) : Int))]) (S' := [.ref 102, ii ((qv : Nat) : Int), ii vb, .ref 102, ii ((b : Int) + ((k : Nat) : Int)), .ref (102 + 1)]) dm_X12_paired_155 rfl rfl rfl rfl ?_
                refine me1 (pc' := 157) (L' := [(0, .ref 102), (1, ii vb), (2, ii (hd : Int)), (3, ii (hd2 : Int)), (4, ii place), (5, ii 1), (6, ii 1), (7, ii ((pnN v w : Nat) : Int)), (8, ii (q : Int)), (9, ii ((k : Nat) : Int))]) (S' := [ii (hd2 : Int), .ref 102, ii ((qv : Nat) : Int), ii vb, .ref 102, ii ((b : Int) + ((k : Nat) : Int)), .ref (102 + 1)]) dm_X12_paired_156 rfl rfl rfl rfl ?_
                refine me1 (pc' := 159) (L' := [(0, .ref 102), (1, ii vb), (2, ii (hd : Int)), (3, ii (hd2 : Int)), (4, ii place), (5, ii 1), (6, ii 1), (7, ii ((pnN v w : Nat) : Int)), (8, ii (q : Int)), (9, ii ((k : Nat) : Int))]) (S' := [ii ((k : Nat) : Int), ii (hd2 : Int), .ref 102, ii ((qv : Nat) : Int), ii vb, .ref 102, ii ((b : Int) + ((k : Nat) : Int)), .ref (102 + 1)]) dm_X12_paired_157 rfl rfl rfl rfl ?_
                have hk9w : k < vm w := by have hz : pnN v w = vm w := (by rw [pnN_e (by omega)]; first | rw [if_neg (by omega)] | (rw [if_pos (by omega)]; done) | (rw [if_pos (by omega)]; omega)); omega
                obtain ⟨qw, hwq3, hwqlt, hwqk, hcwq⟩ := r_value_ (xt := xt) (d := d - 1) (pre := pre) (post := post) (k := k) hm (by omega) hBt hwt (by omega) hk9w
                have he1 : 1 ≤ e := rv_pos hwqk
                refine x_cp (pc' := 162) (v := ii ((qw : Nat) : Int)) (rest := [ii ((qv : Nat) : Int), ii vb, .ref 102, ii ((b : Int) + ((k : Nat) : Int)), .ref (102 + 1)]) dm_X12_paired_159 rfl (q_inv (As := [ii (hd2 : Int), ii ((k : Nat) : Int)]) (S := [ii ((qv : Nat) : Int), ii vb, .ref 102, ii ((b : Int) + ((k : Nat) : Int)), .ref (102 + 1)]) hm rfl rfl rfl) rfl rfl rfl (hcwq) ?_
                refine me2 (pc' := 166) (S' := [ii ((qw : Nat) : Int), ii ((qv : Nat) : Int), ii vb, .ref 102, ii ((b : Int) + ((k : Nat) : Int)), .ref (102 + 1)]) dm_X12_paired_162 rfl rfl rfl ?_
                refine me1 (pc' := 168) (L' := [(0, .ref 102), (1, ii vb), (2, ii (hd : Int)), (3, ii (hd2 : Int)), (4, ii place), (5, ii 1), (6, ii 1), (7, ii ((pnN v w : Nat) : Int)), (8, ii (q : Int)), (9, ii ((k : Nat) : Int))]) (S' := [ii place, ii ((qw : Nat) : Int), ii ((qv : Nat) : Int), ii vb, .ref 102, ii ((b : Int) + ((k : Nat) : Int)), .ref (102 + 1)]) dm_X12_paired_166 rfl rfl rfl rfl ?_
                by_cases hof : paF vb e (pat v k) (pat w k) = 0
                · refine x_cv (pc' := 171) (rest := [ii ((b : Int) + ((k : Nat) : Int)), .ref (102 + 1)]) dm_X12_paired_168 rfl (q_inv (As := [ii vb, ii ((qv : Nat) : Int), ii ((qw : Nat) : Int), ii place]) (S := [ii ((b : Int) + ((k : Nat) : Int)), .ref (102 + 1)]) hm rfl rfl rfl) rfl rfl rfl (by have z := ih (d := d - 1) (s := t) (q := qt) (b := bt) (v := pat v k) (w := pat w k) (by omega) hBt (by rw [pat_7 (by omega)]; exact hvqk) hvq3 (by rw [pat_7 (by omega)]; exact hwqk) hwq3 hqt hbt (by omega) (by omega) he0t (by rw [h10t]; exact hca) (by omega); rw [pno_v hof] at z; exact z) ?_
                  rintro _ _ ⟨t1, rfl, r1, r2, r3, r4, r5, r6, p1, r7, rfl, r8⟩
                  have hp1 : (p1 : Int) < t1.1 4 := by have z := rv_lt (rvN_rv r8); exact z
                  refine y_i2l (a := (p1 : Int)) dm_X12_paired_171 (pc' := 172) rfl (by omega) (by omega) ?_
                  refine me3 (pc' := 173) (S' := []) (h1 := rI pre post t1.1 t1.2.1 t1.2.2.1 (va_up t1.2.2.2 0 (va_up (t1.2.2.2 0) (b + k) (Int64.ofInt (p1 : Int))))) dm_X12_paired_172 (q_last (j := (b : Int) + ((k : Nat) : Int)) (k := 0) (n := 820000) hm (fun m i l I J => rc_0 m i l I J) (fun m i l I J f => rs_0 m i l I J f) (by omega) (by omega) (by decide)) rfl rfl rfl ?_
                  refine pg_cast (h2 := rI pre post ((putC t1 (b + k) (Int64.ofInt (p1 : Int))).1) ((putC t1 (b + k) (Int64.ofInt (p1 : Int))).2.1) ((putC t1 (b + k) (Int64.ofInt (p1 : Int))).2.2.1) ((putC t1 (b + k) (Int64.ofInt (p1 : Int))).2.2.2)) rfl ?_
                  refine y_iinc (pc' := 176) (L' := [(9, ii (((k : Nat) : Int) + 1)), (0, .ref 102), (1, ii vb), (2, ii (hd : Int)), (3, ii (hd2 : Int)), (4, ii place), (5, ii 1), (6, ii 1), (7, ii ((pnN v w : Nat) : Int)), (8, ii (q : Int))]) dm_X12_paired_173 (y_incp (a := ((k : Nat) : Int)) (c := 1) rfl rfl (by decide)) rfl ?_
                  refine me2 (pc' := 104) (S' := []) dm_X12_paired_176 rfl rfl rfl ?_
                  exact pg_sub (L := [(0, .ref 102), (1, ii vb), (2, ii (hd : Int)), (3, ii (hd2 : Int)), (4, ii place), (5, ii 1), (6, ii 1), (7, ii ((pnN v w : Nat) : Int)), (8, ii (q : Int)), (9, ii (((k + 1) : Nat) : Int))]) rfl rfl rfl (ih104 (pnN v w - (k + 1)) (by omega) (k + 1) (putC t1 (b + k) (Int64.ofInt (p1 : Int))) rfl (by omega) (pnI_s hpn hb (by omega) hq3 r1 r2 r3 r4 r5 r6 r7 r8) ((errs_s0 hes).trans hof))
                · refine x_cv (pc' := 171) (rest := [ii ((b : Int) + ((k : Nat) : Int)), .ref (102 + 1)]) dm_X12_paired_168 rfl (q_inv (As := [ii vb, ii ((qv : Nat) : Int), ii ((qw : Nat) : Int), ii place]) (S := [ii ((b : Int) + ((k : Nat) : Int)), .ref (102 + 1)]) hm rfl rfl rfl) rfl rfl rfl (by have z := ih (d := d - 1) (s := t) (q := qt) (b := bt) (v := pat v k) (w := pat w k) (by omega) hBt (by rw [pat_7 (by omega)]; exact hvqk) hvq3 (by rw [pat_7 (by omega)]; exact hwqk) hwq3 hqt hbt (by omega) (by omega) he0t (by rw [h10t]; exact hca) (by omega); rw [pno_e hof] at z; exact z) ?_
                  rintro _ _ ⟨t1, rfl, r1, r2, r3, r4, ⟨z1, rfl, r7, r8⟩, r5, r6⟩
                  refine y_i2l (a := z1) dm_X12_paired_171 (pc' := 172) rfl (by omega) (by omega) ?_
                  refine me3 (pc' := 173) (S' := []) (h1 := rI pre post t1.1 t1.2.1 t1.2.2.1 (va_up t1.2.2.2 0 (va_up (t1.2.2.2 0) (b + k) (Int64.ofInt z1)))) dm_X12_paired_172 (q_last (j := (b : Int) + ((k : Nat) : Int)) (k := 0) (n := 820000) hm (fun m i l I J => rc_0 m i l I J) (fun m i l I J f => rs_0 m i l I J f) (by omega) (by omega) (by decide)) rfl rfl rfl ?_
                  refine pg_cast (h2 := rI pre post ((putC t1 (b + k) (Int64.ofInt z1)).1) ((putC t1 (b + k) (Int64.ofInt z1)).2.1) ((putC t1 (b + k) (Int64.ofInt z1)).2.2.1) ((putC t1 (b + k) (Int64.ofInt z1)).2.2.2)) rfl ?_
                  have hE1 : paF vb e (pat v k) (pat w k) ≠ 0 := hof
                  refine y_iinc (pc' := 176) (L' := [(9, ii (((k : Nat) : Int) + 1)), (0, .ref 102), (1, ii vb), (2, ii (hd : Int)), (3, ii (hd2 : Int)), (4, ii place), (5, ii 1), (6, ii 1), (7, ii ((pnN v w : Nat) : Int)), (8, ii (q : Int))]) dm_X12_paired_173 (y_incp (a := ((k : Nat) : Int)) (c := 1) rfl rfl (by decide)) rfl ?_
                  refine me2 (pc' := 104) (S' := []) dm_X12_paired_176 rfl rfl rfl ?_
                  refine me1 (pc' := 106) (L' := [(9, ii (((k : Nat) : Int) + 1)), (0, .ref 102), (1, ii vb), (2, ii (hd : Int)), (3, ii (hd2 : Int)), (4, ii place), (5, ii 1), (6, ii 1), (7, ii ((pnN v w : Nat) : Int)), (8, ii (q : Int))]) (S' := [ii (((k : Nat) : Int) + 1)]) dm_X12_paired_104 rfl rfl rfl rfl ?_
                  refine me1 (pc' := 108) (L' := [(9, ii (((k : Nat) : Int) + 1)), (0, .ref 102), (1, ii vb), (2, ii (hd : Int)), (3, ii (hd2 : Int)), (4, ii place), (5, ii 1), (6, ii 1), (7, ii ((pnN v w : Nat) : Int)), (8, ii (q : Int))]) (S' := [ii ((pnN v w : Nat) : Int), ii (((k : Nat) : Int) + 1)]) dm_X12_paired_106 rfl rfl rfl rfl ?_
                  refine y_2ge (a := ((k : Nat) : Int) + 1) (b := ((pnN v w : Nat) : Int)) (t := 179) (pc' := 111) dm_X12_paired_108 rfl rfl (by omega) (fun hb12 => ?_) (fun hb12 => ?_)
                  · refine me1 (pc' := 181) (L' := [(9, ii (((k : Nat) : Int) + 1)), (0, .ref 102), (1, ii vb), (2, ii (hd : Int)), (3, ii (hd2 : Int)), (4, ii place), (5, ii 1), (6, ii 1), (7, ii ((pnN v w : Nat) : Int)), (8, ii (q : Int))]) (S' := [ii (q : Int)]) dm_X12_paired_179 rfl rfl rfl rfl ?_
                    refine y_ret (r := some (ii (q : Int))) dm_X12_paired_181 rfl rfl rfl ?_
                    have hEn : errs (fun i => paF vb e (pat v i) (pat w i)) (pnN v w) = paF vb e (pat v k) (pat w k) := by have y := errs_mono (g := (fun i => paF vb e (pat v i) (pat w i))) (k := k + 1) (by rw [errs_s0 hes]; exact hof) (pnN v w - (k + 1)); rw [show k + 1 + (pnN v w - (k + 1)) = pnN v w by omega, errs_s0 hes] at y; exact y
                    have h4 : paF vb (e + 1) v w = paF vb e (pat v k) (pat w k) := by rw [paF_s, if_neg hnf, if_neg (by omega)]; exact hEn
                    rw [show pno vb (e + 1) v w = .inl (paF vb e (pat v k) (pat w k)).toNat by rw [pno_e (by rw [h4]; exact hof), h4]]
                    exact ⟨_, rfl, rresN_f (rext_putC (rext_tr hpn.1 r1) (by omega) _) (rfr_putC (rfr_tr hpn.2.1 r2) _ _) (show t1.1 3 ≤ _ by omega) (show t1.1 4 ≤ _ by omega) r5 (r6.trans (by rw [hpn.2.1.1 10 (by decide) (by decide) (by decide) (by decide) (by decide), hpn.2.1.1 11 (by decide) (by decide) (by decide) (by decide) (by decide)])) (by omega)⟩
                  · refine me1 (pc' := 112) (L' := [(9, ii (((k : Nat) : Int) + 1)), (0, .ref 102), (1, ii vb), (2, ii (hd : Int)), (3, ii (hd2 : Int)), (4, ii place), (5, ii 1), (6, ii 1), (7, ii ((pnN v w : Nat) : Int)), (8, ii (q : Int))]) (S' := [.ref 102]) dm_X12_paired_111 rfl rfl rfl rfl ?_
                    refine me3 (pc' := 115) (S' := [ii (((putC t1 (b + k) (Int64.ofInt z1)).1) 5)]) dm_X12_paired_112 (q_geti (v := ((putC t1 (b + k) (Int64.ofInt z1)).1) 5) hm rfl (fun m i l => rg_5 m i l) rfl) rfl rfl rfl ?_
                    have hfr := paF_r vb e (pat v k) (pat w k)
                    refine pg_st (S' := [ii ((paF vb e (pat v k) (pat w k)).toNat : Int)]) (congrArg (fun z => ii z :: []) (r5)) ?_
                    refine y_1ne (a := ((paF vb e (pat v k) (pat w k)).toNat : Int)) (t := 179) (pc' := 118) dm_X12_paired_115 rfl rfl (by omega) (fun hb13 => ?_) (fun hb13 => ?_)
                    · refine me1 (pc' := 181) (L' := [(9, ii (((k : Nat) : Int) + 1)), (0, .ref 102), (1, ii vb), (2, ii (hd : Int)), (3, ii (hd2 : Int)), (4, ii place), (5, ii 1), (6, ii 1), (7, ii ((pnN v w : Nat) : Int)), (8, ii (q : Int))]) (S' := [ii (q : Int)]) dm_X12_paired_179 rfl rfl rfl rfl ?_
                      refine y_ret (r := some (ii (q : Int))) dm_X12_paired_181 rfl rfl rfl ?_
                      have hEn : errs (fun i => paF vb e (pat v i) (pat w i)) (pnN v w) = paF vb e (pat v k) (pat w k) := by have y := errs_mono (g := (fun i => paF vb e (pat v i) (pat w i))) (k := k + 1) (by rw [errs_s0 hes]; exact hof) (pnN v w - (k + 1)); rw [show k + 1 + (pnN v w - (k + 1)) = pnN v w by omega, errs_s0 hes] at y; exact y
                      have h4 : paF vb (e + 1) v w = paF vb e (pat v k) (pat w k) := by rw [paF_s, if_neg hnf, if_neg (by omega)]; exact hEn
                      rw [show pno vb (e + 1) v w = .inl (paF vb e (pat v k) (pat w k)).toNat by rw [pno_e (by rw [h4]; exact hof), h4]]
                      exact ⟨_, rfl, rresN_f (rext_putC (rext_tr hpn.1 r1) (by omega) _) (rfr_putC (rfr_tr hpn.2.1 r2) _ _) (show t1.1 3 ≤ _ by omega) (show t1.1 4 ≤ _ by omega) r5 (r6.trans (by rw [hpn.2.1.1 10 (by decide) (by decide) (by decide) (by decide) (by decide), hpn.2.1.1 11 (by decide) (by decide) (by decide) (by decide) (by decide)])) (by omega)⟩
                    · exfalso; omega
          exact pg_sub (L := [(0, .ref 102), (1, ii vb), (2, ii (hd : Int)), (3, ii (hd2 : Int)), (4, ii place), (5, ii 1), (6, ii 1), (7, ii ((pnN v w : Nat) : Int)), (8, ii (q : Int)), (9, ii ((0 : Nat) : Int))]) rfl rfl rfl (lp104 _ 0 (rowS s q b 7 ((pnN v w : Nat) : Int)) rfl (Nat.zero_le _) (pnI_0 hq hb he0) rfl)
        · refine me1 (pc' := 68) (L' := [(6, ii 1), (5, ii 1), (0, .ref 102), (1, ii vb), (2, ii (hd : Int)), (3, ii (hd2 : Int)), (4, ii place)]) (S' := [.ref 102]) dm_X12_paired_67 rfl rfl rfl rfl ?_
          refine me0 (pc' := 69) (S' := [ii 4, .ref 102]) dm_X12_paired_68 rfl rfl rfl rfl ?_
          refine me1 (pc' := 71) (L' := [(6, ii 1), (5, ii 1), (0, .ref 102), (1, ii vb), (2, ii (hd : Int)), (3, ii (hd2 : Int)), (4, ii place)]) (S' := [ii place, ii 4, .ref 102]) dm_X12_paired_69 rfl rfl rfl rfl ?_
          refine x_cv (pc' := 74) (rest := []) dm_X12_paired_71 rfl (q_inv (As := [ii 4, ii place]) (S := []) hm rfl rfl rfl) rfl rfl rfl (r_fail_ (s := s) hm (by omega) he0 hca.1 hca.2) ?_
          rintro _ _ ⟨rfl, rfl⟩
          refine y_ret (r := some (ii (-1))) dm_X12_paired_74 rfl rfl rfl ?_
          have h4 : paF vb (e + 1) v w = 4 := by rw [paF_s, if_neg hnf, if_pos (by omega)]
          rw [show pno vb (e + 1) v w = .inl 4 by rw [pno_e (by rw [h4]; decide), h4]; rfl]
          exact ⟨_, rfl, rresN_f (rext_fail (rext_rf s) _ _) (rfr_fail (rfr_rf s) _ _) (by show s.1 3 ≤ _; omega) (by show s.1 4 ≤ _; omega) rfl rfl (by decide)⟩
