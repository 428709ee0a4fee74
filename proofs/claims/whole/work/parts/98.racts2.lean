/-- a row of small numbers is told by what is within -/
theorem rv_cg {s : RS} {e p n : Nat} {f g : Nat → Int64} (hn : n ≤ 120) (h : ∀ k, k < n → f k = g k) (hv : rv s (e + 1) p (vrow 4 n f)) : rv s (e + 1) p (vrow 4 n g) := by
  obtain ⟨-, a2, a3, fr, b1, b2, b3, -⟩ := hv
  have q1 : vq (vrow 4 n f) = n := vq_row (by omega)
  have q2 : vq (vrow 4 n g) = n := vq_row (by omega)
  exact ⟨vw1_row (by omega) (by omega) hn, a2, a3, fr, b1, b2, fun z k hk => (b3 (by show (4 : Nat) ≠ 7; decide) k (by omega)).trans (h k (by omega)), fun z => absurd (show (4 : Nat) = 7 from z) (by decide)⟩
theorem rres_cg {pre post : mj_H} {s : RS} {e cb vb n : Nat} {f g : Nat → Int64} {place : Int} {x : Value} {h' : mj_H} (hn : n ≤ 120) (h : ∀ k, k < n → f k = g k) (hr : rres pre post s (e + 1) (.inr (vrow 4 n f)) place cb vb x h') : rres pre post s (e + 1) (.inr (vrow 4 n g)) place cb vb x h' := by
  obtain ⟨s1, a1, a2, a3, a4, a5, a6, a7, p, a8, a9, a10⟩ := hr
  have z1 := rcb_v (v := vrow 4 n f) (w := vrow 4 n g) (cb := cb) rfl rfl rfl
  have z2 := rvb_v (v := vrow 4 n f) (w := vrow 4 n g) (vb := vb) rfl
  exact ⟨s1, a1, a2, a3, by omega, by omega, a6, a7, p, a8, a9, rv_cg hn h a10⟩
/-- nothing printed yet -/
def outS (s : RS) : RS := (va_up s.1 17 0, s.2.1, s.2.2.1, s.2.2.2)
theorem outS_pr (s : RS) : prR s (outS s) := ⟨fun k hk => up_ne _ _ hk, rfl, fun _ _ => rfl, rfl⟩
theorem outS_0 (s : RS) : rpr (outS s) [] := ⟨⟨by show (0 : Int) ≤ 0; omega, by show (0 : Int) ≤ 400; omega⟩, rfl⟩
theorem rpr_m {t : RS} {l : List Int} (h : rpr t (([] ++ l).take 400)) : ∃ m : Nat, t.1 17 = (m : Int) ∧ m ≤ 400 ∧ (120 < m ↔ 120 < l.length) ∧ (m ≤ 120 → l.length = m ∧ ∀ k, k < m → t.2.2.1 15 k = l.getD k 0 ∧ t.2.2.1 15 k ∈ l) := by
  obtain ⟨⟨h1, h2⟩, h3⟩ := h
  rw [List.nil_append] at h3
  refine ⟨(t.1 17).toNat, by omega, by omega, ?_⟩
  have hl : (l.take 400).length = (t.1 17).toNat := by rw [h3, bl_len]
  rw [List.length_take] at hl
  refine ⟨by omega, fun hm => ?_⟩
  have hle : l.length ≤ 400 := by omega
  rw [List.take_of_length_le hle] at h3
  refine ⟨by omega, fun k hk => ⟨?_, ?_⟩⟩
  · rw [h3, bl_getD hk]
  · rw [h3]; exact bl_mem hk
set_option maxRecDepth 20000 in
theorem pm_X12_shaped : mj_mmof pg_ms 292 = some ((⟨"ArrayCalculatorModel", "shaped", "(I)I"⟩, prog_14_method_42_code, 2, (Option.some Jvm.ClassFile.FieldType.int)), 12, false, mj_dec prog_14_method_42_code) := rfl
theorem dm_X12_shaped_0 : mj_dec prog_14_method_42_code 0 = some (.aload_n 0, 1) := by decide +kernel
theorem dm_X12_shaped_1 : mj_dec prog_14_method_42_code 1 = some (.getfield 33, 3) := by decide +kernel
theorem dm_X12_shaped_4 : mj_dec prog_14_method_42_code 4 = some (.iconst 0, 1) := by decide +kernel
theorem dm_X12_shaped_5 : mj_dec prog_14_method_42_code 5 = some (.aload_n 0, 1) := by decide +kernel
theorem dm_X12_shaped_6 : mj_dec prog_14_method_42_code 6 = some (.iload_n 1, 1) := by decide +kernel
theorem dm_X12_shaped_7 : mj_dec prog_14_method_42_code 7 = some (.invokevirtual 134, 3) := by decide +kernel
theorem dm_X12_shaped_10 : mj_dec prog_14_method_42_code 10 = some (.iastore, 1) := by decide +kernel
theorem dm_X12_shaped_11 : mj_dec prog_14_method_42_code 11 = some (.aload_n 0, 1) := by decide +kernel
theorem dm_X12_shaped_12 : mj_dec prog_14_method_42_code 12 = some (.getfield 33, 3) := by decide +kernel
theorem dm_X12_shaped_15 : mj_dec prog_14_method_42_code 15 = some (.iconst 1, 1) := by decide +kernel
theorem dm_X12_shaped_16 : mj_dec prog_14_method_42_code 16 = some (.aload_n 0, 1) := by decide +kernel
theorem dm_X12_shaped_17 : mj_dec prog_14_method_42_code 17 = some (.iload_n 1, 1) := by decide +kernel
theorem dm_X12_shaped_18 : mj_dec prog_14_method_42_code 18 = some (.invokevirtual 156, 3) := by decide +kernel
theorem dm_X12_shaped_21 : mj_dec prog_14_method_42_code 21 = some (.iastore, 1) := by decide +kernel
theorem dm_X12_shaped_22 : mj_dec prog_14_method_42_code 22 = some (.aload_n 0, 1) := by decide +kernel
theorem dm_X12_shaped_23 : mj_dec prog_14_method_42_code 23 = some (.aload_n 0, 1) := by decide +kernel
theorem dm_X12_shaped_24 : mj_dec prog_14_method_42_code 24 = some (.iload_n 1, 1) := by decide +kernel
theorem dm_X12_shaped_25 : mj_dec prog_14_method_42_code 25 = some (.invokevirtual 162, 3) := by decide +kernel
theorem dm_X12_shaped_28 : mj_dec prog_14_method_42_code 28 = some (.ifCond .eq 7, 3) := by decide +kernel
theorem dm_X12_shaped_31 : mj_dec prog_14_method_42_code 31 = some (.iconst 0, 1) := by decide +kernel
theorem dm_X12_shaped_32 : mj_dec prog_14_method_42_code 32 = some (.goto 18, 3) := by decide +kernel
theorem dm_X12_shaped_35 : mj_dec prog_14_method_42_code 35 = some (.aload_n 0, 1) := by decide +kernel
theorem dm_X12_shaped_36 : mj_dec prog_14_method_42_code 36 = some (.iload_n 1, 1) := by decide +kernel
theorem dm_X12_shaped_37 : mj_dec prog_14_method_42_code 37 = some (.invokevirtual 146, 3) := by decide +kernel
theorem dm_X12_shaped_40 : mj_dec prog_14_method_42_code 40 = some (.bipush 6, 2) := by decide +kernel
theorem dm_X12_shaped_42 : mj_dec prog_14_method_42_code 42 = some (.if_icmp .ne 7, 3) := by decide +kernel
theorem dm_X12_shaped_45 : mj_dec prog_14_method_42_code 45 = some (.iconst 2, 1) := by decide +kernel
theorem dm_X12_shaped_46 : mj_dec prog_14_method_42_code 46 = some (.goto 4, 3) := by decide +kernel
theorem dm_X12_shaped_49 : mj_dec prog_14_method_42_code 49 = some (.iconst 1, 1) := by decide +kernel
theorem dm_X12_shaped_50 : mj_dec prog_14_method_42_code 50 = some (.invokevirtual 230, 3) := by decide +kernel
theorem dm_X12_shaped_53 : mj_dec prog_14_method_42_code 53 = some (.ireturn, 1) := by decide +kernel
theorem r_shaped_ {xt : mj_X} {d e hd q b : Nat} {pre post : mj_H} {s : RS} {v : VV} {place : Int} (hm : pre.length = 102) (hd1 : 5 ≤ d) (hB : rB s) (hv : rv s (e + 1) hd v) (hh3 : 3 ≤ hd) (hq : s.1 4 = (q : Int)) (hb : s.1 3 = (b : Int)) (hq3 : 3 ≤ q) (hV2 : q < 310000) (he0 : s.1 5 = 0) (hca : 0 ≤ s.1 10 ∧ s.1 10 ≤ 100) (hC : b + 300 ≤ 820000) : pgV xt d 292 [.ref 102, ii (hd : Int)] (rS pre post s) (rres pre post s (e + 1) (m_shape v) place 2 1) := by
  have hB0 := hB
  obtain ⟨hB1, hB2, hB3, hB4⟩ := hB
  obtain ⟨fr, hfr, hsh, hlt, hcl, hvk, hvm, hvc, hvq, hvcl⟩ := rv_val hv
  refine x_enter pm_X12_shaped (L0 := [(0, .ref 102), (1, ii (hd : Int))]) rfl (Nat.le_of_ble_eq_true rfl) (by omega) ?_
  refine me1 (pc' := 1) (L' := [(0, .ref 102), (1, ii (hd : Int))]) (S' := [.ref 102]) dm_X12_shaped_0 rfl rfl rfl rfl ?_
  refine me3 (pc' := 4) (S' := [.ref (102 + 5)]) dm_X12_shaped_1 (q_getr hm rfl (fun m i l => rg_14 m i l)) rfl rfl rfl ?_
  refine me0 (pc' := 5) (S' := [ii 0, .ref (102 + 5)]) dm_X12_shaped_4 rfl rfl rfl rfl ?_
  refine me1 (pc' := 6) (L' := [(0, .ref 102), (1, ii (hd : Int))]) (S' := [.ref 102, ii 0, .ref (102 + 5)]) dm_X12_shaped_5 rfl rfl rfl rfl ?_
  refine me1 (pc' := 7) (L' := [(0, .ref 102), (1, ii (hd : Int))]) (S' := [ii (hd : Int), .ref 102, ii 0, .ref (102 + 5)]) dm_X12_shaped_6 rfl rfl rfl rfl ?_
  refine x_cp (pc' := 10) (v := ii (vm v : Int)) (rest := [ii 0, .ref (102 + 5)]) dm_X12_shaped_7 rfl (q_inv (As := [ii (hd : Int)]) (S := [ii 0, .ref (102 + 5)]) hm rfl rfl rfl) rfl rfl rfl (r_many_ hm (by omega) hB0 hv) ?_
  refine me3 (pc' := 11) (S' := []) (h1 := rI pre post s.1 s.2.1 (va_up s.2.2.1 14 (va_up (s.2.2.1 14) 0 (vm v : Int))) s.2.2.2) dm_X12_shaped_10 (q_iast (j := 0) (k := 14) (n := 260) hm (fun m i l I J => rc_14 m i l I J) (fun m i l I J f => rs_14 m i l I J f) (by omega) (by omega) (by decide)) rfl rfl rfl ?_
  refine pg_cast (h2 := rI pre post ((ordS s (va_up (s.2.2.1 14) 0 (vm v : Int))).1) ((ordS s (va_up (s.2.2.1 14) 0 (vm v : Int))).2.1) ((ordS s (va_up (s.2.2.1 14) 0 (vm v : Int))).2.2.1) ((ordS s (va_up (s.2.2.1 14) 0 (vm v : Int))).2.2.2)) rfl ?_
  refine me1 (pc' := 12) (L' := [(0, .ref 102), (1, ii (hd : Int))]) (S' := [.ref 102]) dm_X12_shaped_11 rfl rfl rfl rfl ?_
  refine me3 (pc' := 15) (S' := [.ref (102 + 5)]) dm_X12_shaped_12 (q_getr hm rfl (fun m i l => rg_14 m i l)) rfl rfl rfl ?_
  refine me0 (pc' := 16) (S' := [ii 1, .ref (102 + 5)]) dm_X12_shaped_15 rfl rfl rfl rfl ?_
  refine me1 (pc' := 17) (L' := [(0, .ref 102), (1, ii (hd : Int))]) (S' := [.ref 102, ii 1, .ref (102 + 5)]) dm_X12_shaped_16 rfl rfl rfl rfl ?_
  refine me1 (pc' := 18) (L' := [(0, .ref 102), (1, ii (hd : Int))]) (S' := [ii (hd : Int), .ref 102, ii 1, .ref (102 + 5)]) dm_X12_shaped_17 rfl rfl rfl rfl ?_
  refine x_cp (pc' := 21) (v := ii (vc v : Int)) (rest := [ii 1, .ref (102 + 5)]) dm_X12_shaped_18 rfl (q_inv (As := [ii (hd : Int)]) (S := [ii 1, .ref (102 + 5)]) hm rfl rfl rfl) rfl rfl rfl (r_columns_ hm (by omega) (rB_ord hB0) (rv_ord hh3 hv)) ?_
  refine me3 (pc' := 22) (S' := []) (h1 := rI pre post ((ordS s (va_up (s.2.2.1 14) 0 (vm v : Int))).1) ((ordS s (va_up (s.2.2.1 14) 0 (vm v : Int))).2.1) (va_up ((ordS s (va_up (s.2.2.1 14) 0 (vm v : Int))).2.2.1) 14 (va_up (((ordS s (va_up (s.2.2.1 14) 0 (vm v : Int))).2.2.1) 14) 1 (vc v : Int))) ((ordS s (va_up (s.2.2.1 14) 0 (vm v : Int))).2.2.2)) dm_X12_shaped_21 (q_iast (j := 1) (k := 14) (n := 260) hm (fun m i l I J => rc_14 m i l I J) (fun m i l I J f => rs_14 m i l I J f) (by omega) (by omega) (by decide)) rfl rfl rfl ?_
  refine pg_cast (h2 := rI pre post ((ordS s (va_up (va_up (s.2.2.1 14) 0 (vm v : Int)) 1 (vc v : Int))).1) ((ordS s (va_up (va_up (s.2.2.1 14) 0 (vm v : Int)) 1 (vc v : Int))).2.1) ((ordS s (va_up (va_up (s.2.2.1 14) 0 (vm v : Int)) 1 (vc v : Int))).2.2.1) ((ordS s (va_up (va_up (s.2.2.1 14) 0 (vm v : Int)) 1 (vc v : Int))).2.2.2)) (ord_up s _ 1 _) ?_
  refine me1 (pc' := 23) (L' := [(0, .ref 102), (1, ii (hd : Int))]) (S' := [.ref 102]) dm_X12_shaped_22 rfl rfl rfl rfl ?_
  refine me1 (pc' := 24) (L' := [(0, .ref 102), (1, ii (hd : Int))]) (S' := [.ref 102, .ref 102]) dm_X12_shaped_23 rfl rfl rfl rfl ?_
  refine me1 (pc' := 25) (L' := [(0, .ref 102), (1, ii (hd : Int))]) (S' := [ii (hd : Int), .ref 102, .ref 102]) dm_X12_shaped_24 rfl rfl rfl rfl ?_
  refine x_cp (pc' := 28) (v := zz (decide (vk v ≤ 1))) (rest := [.ref 102]) dm_X12_shaped_25 rfl (q_inv (As := [ii (hd : Int)]) (S := [.ref 102]) hm rfl rfl rfl) rfl rfl rfl (r_isOne_ hm (by omega) (rB_ord hB0) (rv_ord hh3 hv)) ?_
  refine y_zeq (c := decide (vk v ≤ 1)) (t := 35) (pc' := 31) dm_X12_shaped_28 rfl rfl (fun hb1 => ?_) (fun hb1 => ?_)
  · replace hb1 := dF hb1
    refine me1 (pc' := 36) (L' := [(0, .ref 102), (1, ii (hd : Int))]) (S' := [.ref 102, .ref 102]) dm_X12_shaped_35 rfl rfl rfl rfl ?_
    refine me1 (pc' := 37) (L' := [(0, .ref 102), (1, ii (hd : Int))]) (S' := [ii (hd : Int), .ref 102, .ref 102]) dm_X12_shaped_36 rfl rfl rfl rfl ?_
    refine x_cp (pc' := 40) (v := ii (vk v : Int)) (rest := [.ref 102]) dm_X12_shaped_37 rfl (q_inv (As := [ii (hd : Int)]) (S := [.ref 102]) hm rfl rfl rfl) rfl rfl rfl (r_kindOf_ hm (by omega) (rB_ord hB0) (rv_ord hh3 hv)) ?_
    refine me0 (pc' := 42) (S' := [ii 6, ii (vk v : Int), .ref 102]) dm_X12_shaped_40 rfl rfl rfl rfl ?_
    refine y_2ne (a := (vk v : Int)) (b := 6) (t := 49) (pc' := 45) dm_X12_shaped_42 rfl rfl (by omega) (fun hb2 => ?_) (fun hb2 => ?_)
    · refine me0 (pc' := 50) (S' := [ii 1, .ref 102]) dm_X12_shaped_49 rfl rfl rfl rfl ?_
      have hnn : (if vk v ≤ 1 then 0 else if vk v = 6 then 2 else 1) = 1 := by first | (rw [if_pos (by omega)]) | (rw [if_neg (by omega), if_pos (by omega)]) | (rw [if_neg (by omega), if_neg (by omega)])
      have hOO : ∀ k, k < 1 → 0 ≤ (ordS s (va_up (va_up (s.2.2.1 14) 0 (vm v : Int)) 1 (vc v : Int))).2.2.1 14 k ∧ (ordS s (va_up (va_up (s.2.2.1 14) 0 (vm v : Int)) 1 (vc v : Int))).2.2.1 14 k ≤ 1000 := fun k hk => by rw [ordS_14, up_at, up_at]; split; omega; split; omega; (exfalso; omega)
      refine x_cv (pc' := 53) (rest := []) dm_X12_shaped_50 rfl (q_inv (As := [ii 1]) (S := []) hm rfl rfl rfl) rfl rfl rfl (r_places_ (e := e) (q := q) (b := b) (n := 1) (s := (ordS s (va_up (va_up (s.2.2.1 14) 0 (vm v : Int)) 1 (vc v : Int)))) (place := place) hm (by omega) hq hb hq3 hV2 he0 (by omega) (by omega) hOO) ?_
      rintro _ _ ⟨t1, rfl, r1, r2, r3, r4, r5, r6, p1, r7, rfl, r8⟩
      refine y_ret (r := some (ii (p1 : Int))) dm_X12_shaped_53 rfl rfl rfl ?_
      rw [show m_shape v = .inr (vrow 4 1 (fun k => Int64.ofInt (if k = 0 then (vm v : Int) else (vc v : Int)))) by unfold m_shape; rw [hnn]]
      exact ⟨_, rfl, rres_up (rres_bk (rpre_ord s _) (rres_cg (by omega) (fun k hk => by rw [ordS_14, up_at, up_at]; by_cases z : k = 0; (rw [if_neg (by omega), if_pos z, if_pos z]); (rw [if_pos (by omega), if_neg z])) ⟨t1, rfl, r1, r2, r3, r4, r5, r6, p1, r7, rfl, r8⟩)) (by decide) (Nat.le_refl _)⟩
    · refine me0 (pc' := 46) (S' := [ii 2, .ref 102]) dm_X12_shaped_45 rfl rfl rfl rfl ?_
      refine me2 (pc' := 50) (S' := [ii 2, .ref 102]) dm_X12_shaped_46 rfl rfl rfl ?_
      have hnn : (if vk v ≤ 1 then 0 else if vk v = 6 then 2 else 1) = 2 := by first | (rw [if_pos (by omega)]) | (rw [if_neg (by omega), if_pos (by omega)]) | (rw [if_neg (by omega), if_neg (by omega)])
      have hOO : ∀ k, k < 2 → 0 ≤ (ordS s (va_up (va_up (s.2.2.1 14) 0 (vm v : Int)) 1 (vc v : Int))).2.2.1 14 k ∧ (ordS s (va_up (va_up (s.2.2.1 14) 0 (vm v : Int)) 1 (vc v : Int))).2.2.1 14 k ≤ 1000 := fun k hk => by rw [ordS_14, up_at, up_at]; split; omega; split; omega; (exfalso; omega)
      refine x_cv (pc' := 53) (rest := []) dm_X12_shaped_50 rfl (q_inv (As := [ii 2]) (S := []) hm rfl rfl rfl) rfl rfl rfl (r_places_ (e := e) (q := q) (b := b) (n := 2) (s := (ordS s (va_up (va_up (s.2.2.1 14) 0 (vm v : Int)) 1 (vc v : Int)))) (place := place) hm (by omega) hq hb hq3 hV2 he0 (by omega) (by omega) hOO) ?_
      rintro _ _ ⟨t1, rfl, r1, r2, r3, r4, r5, r6, p1, r7, rfl, r8⟩
      refine y_ret (r := some (ii (p1 : Int))) dm_X12_shaped_53 rfl rfl rfl ?_
      rw [show m_shape v = .inr (vrow 4 2 (fun k => Int64.ofInt (if k = 0 then (vm v : Int) else (vc v : Int)))) by unfold m_shape; rw [hnn]]
      exact ⟨_, rfl, rres_up (rres_bk (rpre_ord s _) (rres_cg (by omega) (fun k hk => by rw [ordS_14, up_at, up_at]; by_cases z : k = 0; (rw [if_neg (by omega), if_pos z, if_pos z]); (rw [if_pos (by omega), if_neg z])) ⟨t1, rfl, r1, r2, r3, r4, r5, r6, p1, r7, rfl, r8⟩)) (by decide) (Nat.le_refl _)⟩
  · replace hb1 := dT hb1
    refine me0 (pc' := 32) (S' := [ii 0, .ref 102]) dm_X12_shaped_31 rfl rfl rfl rfl ?_
    refine me2 (pc' := 50) (S' := [ii 0, .ref 102]) dm_X12_shaped_32 rfl rfl rfl ?_
    have hnn : (if vk v ≤ 1 then 0 else if vk v = 6 then 2 else 1) = 0 := by first | (rw [if_pos (by omega)]) | (rw [if_neg (by omega), if_pos (by omega)]) | (rw [if_neg (by omega), if_neg (by omega)])
    have hOO : ∀ k, k < 0 → 0 ≤ (ordS s (va_up (va_up (s.2.2.1 14) 0 (vm v : Int)) 1 (vc v : Int))).2.2.1 14 k ∧ (ordS s (va_up (va_up (s.2.2.1 14) 0 (vm v : Int)) 1 (vc v : Int))).2.2.1 14 k ≤ 1000 := fun k hk => by rw [ordS_14, up_at, up_at]; split; omega; split; omega; (exfalso; omega)
    refine x_cv (pc' := 53) (rest := []) dm_X12_shaped_50 rfl (q_inv (As := [ii 0]) (S := []) hm rfl rfl rfl) rfl rfl rfl (r_places_ (e := e) (q := q) (b := b) (n := 0) (s := (ordS s (va_up (va_up (s.2.2.1 14) 0 (vm v : Int)) 1 (vc v : Int)))) (place := place) hm (by omega) hq hb hq3 hV2 he0 (by omega) (by omega) hOO) ?_
    rintro _ _ ⟨t1, rfl, r1, r2, r3, r4, r5, r6, p1, r7, rfl, r8⟩
    refine y_ret (r := some (ii (p1 : Int))) dm_X12_shaped_53 rfl rfl rfl ?_
    rw [show m_shape v = .inr (vrow 4 0 (fun k => Int64.ofInt (if k = 0 then (vm v : Int) else (vc v : Int)))) by unfold m_shape; rw [hnn]]
    exact ⟨_, rfl, rres_up (rres_bk (rpre_ord s _) (rres_cg (by omega) (fun k hk => by rw [ordS_14, up_at, up_at]; by_cases z : k = 0; (rw [if_neg (by omega), if_pos z, if_pos z]); (rw [if_pos (by omega), if_neg z])) ⟨t1, rfl, r1, r2, r3, r4, r5, r6, p1, r7, rfl, r8⟩)) (by decide) (Nat.le_refl _)⟩
set_option maxRecDepth 20000 in
theorem pm_X12_where : mj_mmof pg_ms 285 = some ((⟨"ArrayCalculatorModel", "where", "(II)I"⟩, prog_14_method_35_code, 8, (Option.some Jvm.ClassFile.FieldType.int)), 12, false, mj_dec prog_14_method_35_code) := rfl
theorem dm_X12_where_0 : mj_dec prog_14_method_35_code 0 = some (.aload_n 0, 1) := by decide +kernel
theorem dm_X12_where_1 : mj_dec prog_14_method_35_code 1 = some (.iload_n 1, 1) := by decide +kernel
theorem dm_X12_where_2 : mj_dec prog_14_method_35_code 2 = some (.invokevirtual 149, 3) := by decide +kernel
theorem dm_X12_where_5 : mj_dec prog_14_method_35_code 5 = some (.ifCond .ne 10, 3) := by decide +kernel
theorem dm_X12_where_8 : mj_dec prog_14_method_35_code 8 = some (.aload_n 0, 1) := by decide +kernel
theorem dm_X12_where_9 : mj_dec prog_14_method_35_code 9 = some (.iconst 3, 1) := by decide +kernel
theorem dm_X12_where_10 : mj_dec prog_14_method_35_code 10 = some (.iload_n 2, 1) := by decide +kernel
theorem dm_X12_where_11 : mj_dec prog_14_method_35_code 11 = some (.invokevirtual 190, 3) := by decide +kernel
theorem dm_X12_where_14 : mj_dec prog_14_method_35_code 14 = some (.ireturn, 1) := by decide +kernel
theorem dm_X12_where_15 : mj_dec prog_14_method_35_code 15 = some (.aload_n 0, 1) := by decide +kernel
theorem dm_X12_where_16 : mj_dec prog_14_method_35_code 16 = some (.iload_n 1, 1) := by decide +kernel
theorem dm_X12_where_17 : mj_dec prog_14_method_35_code 17 = some (.invokevirtual 146, 3) := by decide +kernel
theorem dm_X12_where_20 : mj_dec prog_14_method_35_code 20 = some (.iconst 3, 1) := by decide +kernel
theorem dm_X12_where_21 : mj_dec prog_14_method_35_code 21 = some (.if_icmp .ne 10, 3) := by decide +kernel
theorem dm_X12_where_24 : mj_dec prog_14_method_35_code 24 = some (.aload_n 0, 1) := by decide +kernel
theorem dm_X12_where_25 : mj_dec prog_14_method_35_code 25 = some (.iconst 5, 1) := by decide +kernel
theorem dm_X12_where_26 : mj_dec prog_14_method_35_code 26 = some (.iload_n 2, 1) := by decide +kernel
theorem dm_X12_where_27 : mj_dec prog_14_method_35_code 27 = some (.invokevirtual 190, 3) := by decide +kernel
theorem dm_X12_where_30 : mj_dec prog_14_method_35_code 30 = some (.ireturn, 1) := by decide +kernel
theorem dm_X12_where_31 : mj_dec prog_14_method_35_code 31 = some (.iconst 0, 1) := by decide +kernel
theorem dm_X12_where_32 : mj_dec prog_14_method_35_code 32 = some (.istore_n 3, 1) := by decide +kernel
theorem dm_X12_where_33 : mj_dec prog_14_method_35_code 33 = some (.iconst 0, 1) := by decide +kernel
theorem dm_X12_where_34 : mj_dec prog_14_method_35_code 34 = some (.istore 4, 2) := by decide +kernel
theorem dm_X12_where_36 : mj_dec prog_14_method_35_code 36 = some (.iload 4, 2) := by decide +kernel
theorem dm_X12_where_38 : mj_dec prog_14_method_35_code 38 = some (.aload_n 0, 1) := by decide +kernel
theorem dm_X12_where_39 : mj_dec prog_14_method_35_code 39 = some (.iload_n 1, 1) := by decide +kernel
theorem dm_X12_where_40 : mj_dec prog_14_method_35_code 40 = some (.invokevirtual 134, 3) := by decide +kernel
theorem dm_X12_where_43 : mj_dec prog_14_method_35_code 43 = some (.if_icmp .ge 80, 3) := by decide +kernel
theorem dm_X12_where_46 : mj_dec prog_14_method_35_code 46 = some (.aload_n 0, 1) := by decide +kernel
theorem dm_X12_where_47 : mj_dec prog_14_method_35_code 47 = some (.iload_n 1, 1) := by decide +kernel
theorem dm_X12_where_48 : mj_dec prog_14_method_35_code 48 = some (.iload 4, 2) := by decide +kernel
theorem dm_X12_where_50 : mj_dec prog_14_method_35_code 50 = some (.invokevirtual 138, 3) := by decide +kernel
theorem dm_X12_where_53 : mj_dec prog_14_method_35_code 53 = some (.lstore 5, 2) := by decide +kernel
theorem dm_X12_where_55 : mj_dec prog_14_method_35_code 55 = some (.lload 5, 2) := by decide +kernel
theorem dm_X12_where_57 : mj_dec prog_14_method_35_code 57 = some (.lconst 0, 1) := by decide +kernel
theorem dm_X12_where_58 : mj_dec prog_14_method_35_code 58 = some (.lcmp, 1) := by decide +kernel
theorem dm_X12_where_59 : mj_dec prog_14_method_35_code 59 = some (.ifCond .ge 10, 3) := by decide +kernel
theorem dm_X12_where_62 : mj_dec prog_14_method_35_code 62 = some (.aload_n 0, 1) := by decide +kernel
theorem dm_X12_where_63 : mj_dec prog_14_method_35_code 63 = some (.iconst 5, 1) := by decide +kernel
theorem dm_X12_where_64 : mj_dec prog_14_method_35_code 64 = some (.iload_n 2, 1) := by decide +kernel
theorem dm_X12_where_65 : mj_dec prog_14_method_35_code 65 = some (.invokevirtual 190, 3) := by decide +kernel
theorem dm_X12_where_68 : mj_dec prog_14_method_35_code 68 = some (.ireturn, 1) := by decide +kernel
theorem dm_X12_where_69 : mj_dec prog_14_method_35_code 69 = some (.lload 5, 2) := by decide +kernel
theorem dm_X12_where_71 : mj_dec prog_14_method_35_code 71 = some (.ldc2_w 239, 3) := by decide +kernel
theorem dm_X12_where_74 : mj_dec prog_14_method_35_code 74 = some (.iload_n 3, 1) := by decide +kernel
theorem dm_X12_where_75 : mj_dec prog_14_method_35_code 75 = some (.i2l, 1) := by decide +kernel
theorem dm_X12_where_76 : mj_dec prog_14_method_35_code 76 = some (.lsub, 1) := by decide +kernel
theorem dm_X12_where_77 : mj_dec prog_14_method_35_code 77 = some (.lcmp, 1) := by decide +kernel
theorem dm_X12_where_78 : mj_dec prog_14_method_35_code 78 = some (.ifCond .le 11, 3) := by decide +kernel
theorem dm_X12_where_81 : mj_dec prog_14_method_35_code 81 = some (.aload_n 0, 1) := by decide +kernel
theorem dm_X12_where_82 : mj_dec prog_14_method_35_code 82 = some (.bipush 8, 2) := by decide +kernel
theorem dm_X12_where_84 : mj_dec prog_14_method_35_code 84 = some (.iload_n 2, 1) := by decide +kernel
theorem dm_X12_where_85 : mj_dec prog_14_method_35_code 85 = some (.invokevirtual 190, 3) := by decide +kernel
theorem dm_X12_where_88 : mj_dec prog_14_method_35_code 88 = some (.ireturn, 1) := by decide +kernel
theorem dm_X12_where_89 : mj_dec prog_14_method_35_code 89 = some (.iconst 0, 1) := by decide +kernel
theorem dm_X12_where_90 : mj_dec prog_14_method_35_code 90 = some (.istore 7, 2) := by decide +kernel
theorem dm_X12_where_92 : mj_dec prog_14_method_35_code 92 = some (.iload 7, 2) := by decide +kernel
theorem dm_X12_where_94 : mj_dec prog_14_method_35_code 94 = some (.lload 5, 2) := by decide +kernel
theorem dm_X12_where_96 : mj_dec prog_14_method_35_code 96 = some (.l2i, 1) := by decide +kernel
theorem dm_X12_where_97 : mj_dec prog_14_method_35_code 97 = some (.if_icmp .ge 20, 3) := by decide +kernel
theorem dm_X12_where_100 : mj_dec prog_14_method_35_code 100 = some (.aload_n 0, 1) := by decide +kernel
theorem dm_X12_where_101 : mj_dec prog_14_method_35_code 101 = some (.getfield 33, 3) := by decide +kernel
theorem dm_X12_where_104 : mj_dec prog_14_method_35_code 104 = some (.iload_n 3, 1) := by decide +kernel
theorem dm_X12_where_105 : mj_dec prog_14_method_35_code 105 = some (.iload 4, 2) := by decide +kernel
theorem dm_X12_where_107 : mj_dec prog_14_method_35_code 107 = some (.iastore, 1) := by decide +kernel
theorem dm_X12_where_108 : mj_dec prog_14_method_35_code 108 = some (.iinc 3 1, 3) := by decide +kernel
theorem dm_X12_where_111 : mj_dec prog_14_method_35_code 111 = some (.iinc 7 1, 3) := by decide +kernel
theorem dm_X12_where_114 : mj_dec prog_14_method_35_code 114 = some (.goto (-22), 3) := by decide +kernel
theorem dm_X12_where_117 : mj_dec prog_14_method_35_code 117 = some (.iinc 4 1, 3) := by decide +kernel
theorem dm_X12_where_120 : mj_dec prog_14_method_35_code 120 = some (.goto (-84), 3) := by decide +kernel
theorem dm_X12_where_123 : mj_dec prog_14_method_35_code 123 = some (.aload_n 0, 1) := by decide +kernel
theorem dm_X12_where_124 : mj_dec prog_14_method_35_code 124 = some (.iload_n 3, 1) := by decide +kernel
theorem dm_X12_where_125 : mj_dec prog_14_method_35_code 125 = some (.invokevirtual 230, 3) := by decide +kernel
theorem dm_X12_where_128 : mj_dec prog_14_method_35_code 128 = some (.ireturn, 1) := by decide +kernel
theorem r_where_ {xt : mj_X} {d e hd q b : Nat} {pre post : mj_H} {s : RS} {v : VV} {place : Int} (hm : pre.length = 102) (hd1 : 5 ≤ d) (hB : rB s) (hv : rv s (e + 1) hd v) (hh3 : 3 ≤ hd) (hq : s.1 4 = (q : Int)) (hb : s.1 3 = (b : Int)) (hq3 : 3 ≤ q) (hV2 : q < 310000) (he0 : s.1 5 = 0) (hca : 0 ≤ s.1 10 ∧ s.1 10 ≤ 100) (hC : b + 300 ≤ 820000) : pgV xt d 285 [.ref 102, ii (hd : Int), ii place] (rS pre post s) (rres pre post s (e + 1) (m_where v) place 120 1) := by
  have hB0 := hB
  obtain ⟨hB1, hB2, hB3, hB4⟩ := hB
  obtain ⟨fr, hfr, hsh, hlt, hcl, hvk, hvm, hvc, hvq, hvcl⟩ := rv_val hv
  have hq5 : vk v ≤ 5 → vq v = vm v := vq_m
  have h0 : (Int64.ofInt 0).toInt = 0 := by decide
  have h120 : (Int64.ofInt 120).toInt = 120 := by decide
  refine x_enter pm_X12_where (L0 := [(0, .ref 102), (1, ii (hd : Int)), (2, ii place)]) rfl (Nat.le_of_ble_eq_true rfl) (by omega) ?_
  refine me1 (pc' := 1) (L' := [(0, .ref 102), (1, ii (hd : Int)), (2, ii place)]) (S' := [.ref 102]) dm_X12_where_0 rfl rfl rfl rfl ?_
  refine me1 (pc' := 2) (L' := [(0, .ref 102), (1, ii (hd : Int)), (2, ii place)]) (S' := [ii (hd : Int), .ref 102]) dm_X12_where_1 rfl rfl rfl rfl ?_
  refine x_cp (pc' := 5) (v := zz (decide (2 ≤ vk v ∧ vk v ≤ 5))) (rest := []) dm_X12_where_2 rfl (q_inv (As := [ii (hd : Int)]) (S := []) hm rfl rfl rfl) rfl rfl rfl (r_isRow_ hm (by omega) hB0 hv) ?_
  refine y_zne (c := decide (2 ≤ vk v ∧ vk v ≤ 5)) (t := 15) (pc' := 8) dm_X12_where_5 rfl rfl (fun hb1 => ?_) (fun hb1 => ?_)
  · replace hb1 := dT hb1
    refine me1 (pc' := 16) (L' := [(0, .ref 102), (1, ii (hd : Int)), (2, ii place)]) (S' := [.ref 102]) dm_X12_where_15 rfl rfl rfl rfl ?_
    refine me1 (pc' := 17) (L' := [(0, .ref 102), (1, ii (hd : Int)), (2, ii place)]) (S' := [ii (hd : Int), .ref 102]) dm_X12_where_16 rfl rfl rfl rfl ?_
    refine x_cp (pc' := 20) (v := ii (vk v : Int)) (rest := []) dm_X12_where_17 rfl (q_inv (As := [ii (hd : Int)]) (S := []) hm rfl rfl rfl) rfl rfl rfl (r_kindOf_ hm (by omega) hB0 hv) ?_
    refine me0 (pc' := 21) (S' := [ii 3, ii (vk v : Int)]) dm_X12_where_20 rfl rfl rfl rfl ?_
    refine y_2ne (a := (vk v : Int)) (b := 3) (t := 31) (pc' := 24) dm_X12_where_21 rfl rfl (by omega) (fun hb2 => ?_) (fun hb2 => ?_)
    · refine me0 (pc' := 32) (S' := [ii 0]) dm_X12_where_31 rfl rfl rfl rfl ?_
      refine me1 (pc' := 33) (L' := [(3, ii 0), (0, .ref 102), (1, ii (hd : Int)), (2, ii place)]) (S' := []) dm_X12_where_32 rfl rfl rfl rfl ?_
      refine me0 (pc' := 34) (S' := [ii 0]) dm_X12_where_33 rfl rfl rfl rfl ?_
      refine me1 (pc' := 36) (L' := [(4, ii 0), (3, ii 0), (0, .ref 102), (1, ii (hd : Int)), (2, ii place)]) (S' := []) dm_X12_where_34 rfl rfl rfl rfl ?_
      have lp36 : ∀ (n36 : Nat) (k : Nat) (n : Nat) (P : Nat → Int) (g : Nat → Nat), vm v - k = n36 → (k ≤ vm v) → (whF (vn v) k = .inr (n, g)) → (∀ j, j < n → P j = ((g j : Nat) : Int)) → pgE xt (d - 1) 12 8 false (Option.some Jvm.ClassFile.FieldType.int) (mj_dec prog_14_method_35_code) 36 [(0, .ref 102), (1, ii (hd : Int)), (2, ii place), (3, ii ((n : Nat) : Int)), (4, ii ((k : Nat) : Int))] [] (rI pre post ((ordS s P).1) ((ordS s P).2.1) ((ordS s P).2.2.1) ((ordS s P).2.2.2)) (fun r h' => ∃ x, r = some x ∧ rres pre post s (e + 1) (m_where v) place 120 1 x h') := by
        intro n36
        induction n36 using Nat.strongRecOn with
        | ind n36 ih36 =>
          intro k n P g hm36 hk hg hP
          have hwl := (whF_le hg).1
          have hnL : (Int64.ofInt ((n : Nat) : Int)).toInt = (n : Int) := n_toL (by omega) (by omega)
          have hsub : (Int64.ofInt 120 - Int64.ofInt ((n : Nat) : Int)).toInt = 120 - (n : Int) := by rw [l_subI (by rw [h120, hnL]; omega), h120, hnL]
          refine me1 (pc' := 38) (L' := [(0, .ref 102), (1, ii (hd : Int)), (2, ii place), (3, ii ((n : Nat) : Int)), (4, ii ((k : Nat) : Int))]) (S' := [ii ((k : Nat) : Int)]) dm_X12_where_36 rfl rfl rfl rfl ?_
          refine me1 (pc' := 39) (L' := [(0, .ref 102), (1, ii (hd : Int)), (2, ii place), (3, ii ((n : Nat) : Int)), (4, ii ((k : Nat) : Int))]) (S' := [.ref 102, ii ((k : Nat) : Int)]) dm_X12_where_38 rfl rfl rfl rfl ?_
          refine me1 (pc' := 40) (L' := [(0, .ref 102), (1, ii (hd : Int)), (2, ii place), (3, ii ((n : Nat) : Int)), (4, ii ((k : Nat) : Int))]) (S' := [ii (hd : Int), .ref 102, ii ((k : Nat) : Int)]) dm_X12_where_39 rfl rfl rfl rfl ?_
          refine x_cp (pc' := 43) (v := ii (vm v : Int)) (rest := [ii ((k : Nat) : Int)]) dm_X12_where_40 rfl (q_inv (As := [ii (hd : Int)]) (S := [ii ((k : Nat) : Int)]) hm rfl rfl rfl) rfl rfl rfl (r_many_ hm (by omega) (rB_ord hB0) (rv_ord hh3 hv)) ?_
          refine y_2ge (a := ((k : Nat) : Int)) (b := (vm v : Int)) (t := 123) (pc' := 46) dm_X12_where_43 rfl rfl (by omega) (fun hb3 => ?_) (fun hb3 => ?_)
          · refine me1 (pc' := 124) (L' := [(0, .ref 102), (1, ii (hd : Int)), (2, ii place), (3, ii ((n : Nat) : Int)), (4, ii ((k : Nat) : Int))]) (S' := [.ref 102]) dm_X12_where_123 rfl rfl rfl rfl ?_
            refine me1 (pc' := 125) (L' := [(0, .ref 102), (1, ii (hd : Int)), (2, ii place), (3, ii ((n : Nat) : Int)), (4, ii ((k : Nat) : Int))]) (S' := [ii ((n : Nat) : Int), .ref 102]) dm_X12_where_124 rfl rfl rfl rfl ?_
            have hkn : k = vm v := by omega
            rw [hkn] at hg
            have hsp := m_where_r (by omega) (by omega) hg
            have hgl := (whF_le hg).2
            have hOO : ∀ j, j < n → 0 ≤ (ordS s P).2.2.1 14 j ∧ (ordS s P).2.2.1 14 j ≤ 1000 := fun j hj => by rw [ordS_14, hP j hj]; have := hgl j hj; omega
            refine x_cv (pc' := 128) (rest := []) dm_X12_where_125 rfl (q_inv (As := [ii ((n : Nat) : Int)]) (S := []) hm rfl rfl rfl) rfl rfl rfl (r_places_ (e := e) (q := q) (b := b) (n := n) (s := (ordS s P)) (place := place) hm (by omega) hq hb hq3 hV2 he0 (by omega) (by omega) hOO) ?_
            rintro _ _ ⟨t1, rfl, r1, r2, r3, r4, r5, r6, p1, r7, rfl, r8⟩
            refine y_ret (r := some (ii (p1 : Int))) dm_X12_where_128 rfl rfl rfl ?_
            rw [hsp]
            exact ⟨_, rfl, rres_up (rres_bk (rpre_ord s _) (rres_cg (by omega) (fun j hj => by rw [ordS_14, hP j hj]) ⟨t1, rfl, r1, r2, r3, r4, r5, r6, p1, r7, rfl, r8⟩)) (by omega) (Nat.le_refl _)⟩
          · refine me1 (pc' := 47) (L' := [(0, .ref 102), (1, ii (hd : Int)), (2, ii place), (3, ii ((n : Nat) : Int)), (4, ii ((k : Nat) : Int))]) (S' := [.ref 102]) dm_X12_where_46 rfl rfl rfl rfl ?_
            refine me1 (pc' := 48) (L' := [(0, .ref 102), (1, ii (hd : Int)), (2, ii place), (3, ii ((n : Nat) : Int)), (4, ii ((k : Nat) : Int))]) (S' := [ii (hd : Int), .ref 102]) dm_X12_where_47 rfl rfl rfl rfl ?_
            refine me1 (pc' := 50) (L' := [(0, .ref 102), (1, ii (hd : Int)), (2, ii place), (3, ii ((n : Nat) : Int)), (4, ii ((k : Nat) : Int))]) (S' := [ii ((k : Nat) : Int), ii (hd : Int), .ref 102]) dm_X12_where_48 rfl rfl rfl rfl ?_
            refine x_cp (pc' := 53) (v := .long (vn v k)) (rest := []) dm_X12_where_50 rfl (q_inv (As := [ii (hd : Int), ii ((k : Nat) : Int)]) (S := []) hm rfl rfl rfl) rfl rfl rfl (r_number_ (k := k) hm (by omega) (rB_ord hB0) (rv_ord hh3 hv) (by omega) (by omega)) ?_
            refine me1 (pc' := 55) (L' := [(5, .long (vn v k)), (0, .ref 102), (1, ii (hd : Int)), (2, ii place), (3, ii ((n : Nat) : Int)), (4, ii ((k : Nat) : Int))]) (S' := []) dm_X12_where_53 rfl rfl rfl rfl ?_
            refine me1 (pc' := 57) (L' := [(5, .long (vn v k)), (0, .ref 102), (1, ii (hd : Int)), (2, ii place), (3, ii ((n : Nat) : Int)), (4, ii ((k : Nat) : Int))]) (S' := [.long (vn v k)]) dm_X12_where_55 rfl rfl rfl rfl ?_
            refine me0 (pc' := 58) (S' := [.long (Int64.ofInt 0), .long (vn v k)]) dm_X12_where_57 rfl rfl rfl rfl ?_
            refine y_lge (x := vn v k) (y := Int64.ofInt 0) (t := 69) (pc1 := 59) (pc' := 62) dm_X12_where_58 rfl dm_X12_where_59 rfl rfl (fun hb4 => ?_) (fun hb4 => ?_)
            · rw [h0] at hb4
              refine me1 (pc' := 71) (L' := [(5, .long (vn v k)), (0, .ref 102), (1, ii (hd : Int)), (2, ii place), (3, ii ((n : Nat) : Int)), (4, ii ((k : Nat) : Int))]) (S' := [.long (vn v k)]) dm_X12_where_69 rfl rfl rfl rfl ?_
              refine me3 (pc' := 74) (S' := [.long (Int64.ofInt 120), .long (vn v k)]) dm_X12_where_71 rfl rfl rfl rfl ?_
              refine me1 (pc' := 75) (L' := [(5, .long (vn v k)), (0, .ref 102), (1, ii (hd : Int)), (2, ii place), (3, ii ((n : Nat) : Int)), (4, ii ((k : Nat) : Int))]) (S' := [ii ((n : Nat) : Int), .long (Int64.ofInt 120), .long (vn v k)]) dm_X12_where_74 rfl rfl rfl rfl ?_
              refine y_i2l (a := ((n : Nat) : Int)) dm_X12_where_75 (pc' := 76) rfl (by omega) (by omega) ?_
              refine me0 (pc' := 77) (S' := [.long ((Int64.ofInt 120) - (Int64.ofInt ((n : Nat) : Int))), .long (vn v k)]) dm_X12_where_76 rfl rfl rfl rfl ?_
              refine y_lle (x := vn v k) (y := (Int64.ofInt 120) - (Int64.ofInt ((n : Nat) : Int))) (t := 89) (pc1 := 78) (pc' := 81) dm_X12_where_77 rfl dm_X12_where_78 rfl rfl (fun hb5 => ?_) (fun hb5 => ?_)
              · rw [hsub] at hb5
                refine me0 (pc' := 90) (S' := [ii 0]) dm_X12_where_89 rfl rfl rfl rfl ?_
                refine me1 (pc' := 92) (L' := [(7, ii 0), (5, .long (vn v k)), (0, .ref 102), (1, ii (hd : Int)), (2, ii place), (3, ii ((n : Nat) : Int)), (4, ii ((k : Nat) : Int))]) (S' := []) dm_X12_where_90 rfl rfl rfl rfl ?_
                have lp92 : ∀ (n92 : Nat) (i : Nat) (Q : Nat → Int), (vn v k).toInt.toNat - i = n92 → (((i : Nat) : Int) ≤ (vn v k).toInt) → (∀ j, j < n → Q j = ((g j : Nat) : Int)) → (∀ j, n ≤ j → j < n + i → Q j = ((k : Nat) : Int)) → pgE xt (d - 1) 12 8 false (Option.some Jvm.ClassFile.FieldType.int) (mj_dec prog_14_method_35_code) 92 [(0, .ref 102), (1, ii (hd : Int)), (2, ii place), (3, ii ((n + i : Nat) : Int)), (4, ii ((k : Nat) : Int)), (5, .long (vn v k)), (7, ii ((i : Nat) : Int))] [] (rI pre post ((ordS s Q).1) ((ordS s Q).2.1) ((ordS s Q).2.2.1) ((ordS s Q).2.2.2)) (fun r h' => ∃ x, r = some x ∧ rres pre post s (e + 1) (m_where v) place 120 1 x h') := by
                  intro n92
                  induction n92 using Nat.strongRecOn with
                  | ind n92 ih92 =>
                    intro i Q hm92 hi hQ1 hQ2
                    refine me1 (pc' := 94) (L' := [(0, .ref 102), (1, ii (hd : Int)), (2, ii place), (3, ii ((n + i : Nat) : Int)), (4, ii ((k : Nat) : Int)), (5, .long (vn v k)), (7, ii ((i : Nat) : Int))]) (S' := [ii ((i : Nat) : Int)]) dm_X12_where_92 rfl rfl rfl rfl ?_
                    refine me1 (pc' := 96) (L' := [(0, .ref 102), (1, ii (hd : Int)), (2, ii place), (3, ii ((n + i : Nat) : Int)), (4, ii ((k : Nat) : Int)), (5, .long (vn v k)), (7, ii ((i : Nat) : Int))]) (S' := [.long (vn v k), ii ((i : Nat) : Int)]) dm_X12_where_94 rfl rfl rfl rfl ?_
                    refine y_l2i (a := (vn v k).toInt) dm_X12_where_96 (pc' := 97) rfl (n_l2i _ rfl) ?_
                    refine y_2ge (a := ((i : Nat) : Int)) (b := (vn v k).toInt) (t := 117) (pc' := 100) dm_X12_where_97 rfl rfl (by omega) (fun hb6 => ?_) (fun hb6 => ?_)
                    · refine y_iinc (pc' := 120) (L' := [(4, ii (((k : Nat) : Int) + 1)), (0, .ref 102), (1, ii (hd : Int)), (2, ii place), (3, ii ((n + i : Nat) : Int)), (5, .long (vn v k)), (7, ii ((i : Nat) : Int))]) dm_X12_where_117 (y_incp (a := ((k : Nat) : Int)) (c := 1) rfl rfl (by decide)) rfl ?_
                      refine me2 (pc' := 36) (S' := []) dm_X12_where_120 rfl rfl rfl ?_
                      exact pg_sub (L := [(0, .ref 102), (1, ii (hd : Int)), (2, ii place), (3, ii (((n + i) : Nat) : Int)), (4, ii (((k + 1) : Nat) : Int))]) rfl rfl rfl (ih36 (vm v - (k + 1)) (by omega) (k + 1) (n + i) Q (fun j => if n ≤ j then k else g j) rfl (by omega) (by rw [whF_s hg (by omega) (by omega)]; congr 3; omega) (fun j hj => by by_cases z : n ≤ j; (rw [if_pos z]; exact hQ2 j z hj); (rw [if_neg z]; exact hQ1 j (by omega))))
                    · refine me1 (pc' := 101) (L' := [(0, .ref 102), (1, ii (hd : Int)), (2, ii place), (3, ii ((n + i : Nat) : Int)), (4, ii ((k : Nat) : Int)), (5, .long (vn v k)), (7, ii ((i : Nat) : Int))]) (S' := [.ref 102]) dm_X12_where_100 rfl rfl rfl rfl ?_
                      refine me3 (pc' := 104) (S' := [.ref (102 + 5)]) dm_X12_where_101 (q_getr hm rfl (fun m i l => rg_14 m i l)) rfl rfl rfl ?_
                      refine me1 (pc' := 105) (L' := [(0, .ref 102), (1, ii (hd : Int)), (2, ii place), (3, ii ((n + i : Nat) : Int)), (4, ii ((k : Nat) : Int)), (5, .long (vn v k)), (7, ii ((i : Nat) : Int))]) (S' := [ii ((n + i : Nat) : Int), .ref (102 + 5)]) dm_X12_where_104 rfl rfl rfl rfl ?_
                      refine me1 (pc' := 107) (L' := [(0, .ref 102), (1, ii (hd : Int)), (2, ii place), (3, ii ((n + i : Nat) : Int)), (4, ii ((k : Nat) : Int)), (5, .long (vn v k)), (7, ii ((i : Nat) : Int))]) (S' := [ii ((k : Nat) : Int), ii ((n + i : Nat) : Int), .ref (102 + 5)]) dm_X12_where_105 rfl rfl rfl rfl ?_
                      refine me3 (pc' := 108) (S' := []) (h1 := rI pre post ((ordS s Q).1) ((ordS s Q).2.1) (va_up ((ordS s Q).2.2.1) 14 (va_up (((ordS s Q).2.2.1) 14) (n + i) ((k : Nat) : Int))) ((ordS s Q).2.2.2)) dm_X12_where_107 (q_iast (j := ((n + i : Nat) : Int)) (k := 14) (n := 260) hm (fun m i l I J => rc_14 m i l I J) (fun m i l I J f => rs_14 m i l I J f) (by omega) (by omega) (by decide)) rfl rfl rfl ?_
                      refine y_iinc (pc' := 111) (L' := [(3, ii (((n + i : Nat) : Int) + 1)), (0, .ref 102), (1, ii (hd : Int)), (2, ii place), (4, ii ((k : Nat) : Int)), (5, .long (vn v k)), (7, ii ((i : Nat) : Int))]) dm_X12_where_108 (y_incp (a := ((n + i : Nat) : Int)) (c := 1) rfl rfl (by decide)) rfl ?_
                      refine y_iinc (pc' := 114) (L' := [(7, ii (((i : Nat) : Int) + 1)), (3, ii (((n + i : Nat) : Int) + 1)), (0, .ref 102), (1, ii (hd : Int)), (2, ii place), (4, ii ((k : Nat) : Int)), (5, .long (vn v k))]) dm_X12_where_111 (y_incp (a := ((i : Nat) : Int)) (c := 1) rfl rfl (by decide)) rfl ?_
                      refine me2 (pc' := 92) (S' := []) dm_X12_where_114 rfl rfl rfl ?_
                      refine pg_cast (h2 := rI pre post ((ordS s (va_up Q (n + i) ((k : Nat) : Int))).1) ((ordS s (va_up Q (n + i) ((k : Nat) : Int))).2.1) ((ordS s (va_up Q (n + i) ((k : Nat) : Int))).2.2.1) ((ordS s (va_up Q (n + i) ((k : Nat) : Int))).2.2.2)) (ord_up s Q (n + i) _) ?_
                      exact pg_sub (L := [(0, .ref 102), (1, ii (hd : Int)), (2, ii place), (3, ii ((n + (i + 1) : Nat) : Int)), (4, ii ((k : Nat) : Int)), (5, .long (vn v k)), (7, ii (((i + 1) : Nat) : Int))]) rfl rfl rfl (ih92 ((vn v k).toInt.toNat - (i + 1)) (by omega) (i + 1) (va_up Q (n + i) ((k : Nat) : Int)) rfl (by omega) (fun j hj => by rw [up_at, if_neg (by omega)]; exact hQ1 j hj) (fun j h1 h2 => by rw [up_at]; by_cases z : j = n + i; (rw [if_pos z]); (rw [if_neg z]; exact hQ2 j h1 (by omega))))
                exact pg_sub (L := [(0, .ref 102), (1, ii (hd : Int)), (2, ii place), (3, ii ((n + 0 : Nat) : Int)), (4, ii ((k : Nat) : Int)), (5, .long (vn v k)), (7, ii ((0 : Nat) : Int))]) rfl rfl rfl (lp92 _ 0 P rfl (by omega) hP (fun j h1 h2 => absurd h2 (by omega)))
              · rw [hsub] at hb5
                refine me1 (pc' := 82) (L' := [(5, .long (vn v k)), (0, .ref 102), (1, ii (hd : Int)), (2, ii place), (3, ii ((n : Nat) : Int)), (4, ii ((k : Nat) : Int))]) (S' := [.ref 102]) dm_X12_where_81 rfl rfl rfl rfl ?_
                refine me0 (pc' := 84) (S' := [ii 8, .ref 102]) dm_X12_where_82 rfl rfl rfl rfl ?_
                refine me1 (pc' := 85) (L' := [(5, .long (vn v k)), (0, .ref 102), (1, ii (hd : Int)), (2, ii place), (3, ii ((n : Nat) : Int)), (4, ii ((k : Nat) : Int))]) (S' := [ii place, ii 8, .ref 102]) dm_X12_where_84 rfl rfl rfl rfl ?_
                refine x_cv (pc' := 88) (rest := []) dm_X12_where_85 rfl (q_inv (As := [ii 8, ii place]) (S := []) hm rfl rfl rfl) rfl rfl rfl (r_fail_ (s := (ordS s P)) hm (by omega) he0 hca.1 hca.2) ?_
                rintro _ _ ⟨rfl, rfl⟩
                refine y_ret (r := some (ii (-1))) dm_X12_where_88 rfl rfl rfl ?_
                rw [show m_where v = .inl 8 from m_where_e (by omega) (by omega) (whF_8 hg (by omega) (by omega) (by omega))]
                exact ⟨_, rfl, rres_fail (rpre_ord s P) he0⟩
            · rw [h0] at hb4
              refine me1 (pc' := 63) (L' := [(5, .long (vn v k)), (0, .ref 102), (1, ii (hd : Int)), (2, ii place), (3, ii ((n : Nat) : Int)), (4, ii ((k : Nat) : Int))]) (S' := [.ref 102]) dm_X12_where_62 rfl rfl rfl rfl ?_
              refine me0 (pc' := 64) (S' := [ii 5, .ref 102]) dm_X12_where_63 rfl rfl rfl rfl ?_
              refine me1 (pc' := 65) (L' := [(5, .long (vn v k)), (0, .ref 102), (1, ii (hd : Int)), (2, ii place), (3, ii ((n : Nat) : Int)), (4, ii ((k : Nat) : Int))]) (S' := [ii place, ii 5, .ref 102]) dm_X12_where_64 rfl rfl rfl rfl ?_
              refine x_cv (pc' := 68) (rest := []) dm_X12_where_65 rfl (q_inv (As := [ii 5, ii place]) (S := []) hm rfl rfl rfl) rfl rfl rfl (r_fail_ (s := (ordS s P)) hm (by omega) he0 hca.1 hca.2) ?_
              rintro _ _ ⟨rfl, rfl⟩
              refine y_ret (r := some (ii (-1))) dm_X12_where_68 rfl rfl rfl ?_
              rw [show m_where v = .inl 5 from m_where_e (by omega) (by omega) (whF_5 hg (by omega) (by omega))]
              exact ⟨_, rfl, rres_fail (rpre_ord s P) he0⟩
      refine pg_cast (h2 := rI pre post ((ordS s (s.2.2.1 14)).1) ((ordS s (s.2.2.1 14)).2.1) ((ordS s (s.2.2.1 14)).2.2.1) ((ordS s (s.2.2.1 14)).2.2.2)) (ord_0 s) ?_
      exact pg_sub (L := [(0, .ref 102), (1, ii (hd : Int)), (2, ii place), (3, ii ((0 : Nat) : Int)), (4, ii ((0 : Nat) : Int))]) rfl rfl rfl (lp36 _ 0 0 (s.2.2.1 14) (fun _ => 0) rfl (Nat.zero_le _) rfl (fun j hj => absurd hj (Nat.not_lt_zero j)))
    · refine me1 (pc' := 25) (L' := [(0, .ref 102), (1, ii (hd : Int)), (2, ii place)]) (S' := [.ref 102]) dm_X12_where_24 rfl rfl rfl rfl ?_
      refine me0 (pc' := 26) (S' := [ii 5, .ref 102]) dm_X12_where_25 rfl rfl rfl rfl ?_
      refine me1 (pc' := 27) (L' := [(0, .ref 102), (1, ii (hd : Int)), (2, ii place)]) (S' := [ii place, ii 5, .ref 102]) dm_X12_where_26 rfl rfl rfl rfl ?_
      refine x_cv (pc' := 30) (rest := []) dm_X12_where_27 rfl (q_inv (As := [ii 5, ii place]) (S := []) hm rfl rfl rfl) rfl rfl rfl (r_fail_ (s := s) hm (by omega) he0 hca.1 hca.2) ?_
      rintro _ _ ⟨rfl, rfl⟩
      refine y_ret (r := some (ii (-1))) dm_X12_where_30 rfl rfl rfl ?_
      rw [show m_where v = .inl 5 by unfold m_where; first | (rw [if_neg (by omega)]) | (rw [if_pos (by omega), if_pos (by omega)])]
      exact ⟨_, rfl, rres_fail (rpre_rf s) he0⟩
  · replace hb1 := dF hb1
    refine me1 (pc' := 9) (L' := [(0, .ref 102), (1, ii (hd : Int)), (2, ii place)]) (S' := [.ref 102]) dm_X12_where_8 rfl rfl rfl rfl ?_
    refine me0 (pc' := 10) (S' := [ii 3, .ref 102]) dm_X12_where_9 rfl rfl rfl rfl ?_
    refine me1 (pc' := 11) (L' := [(0, .ref 102), (1, ii (hd : Int)), (2, ii place)]) (S' := [ii place, ii 3, .ref 102]) dm_X12_where_10 rfl rfl rfl rfl ?_
    refine x_cv (pc' := 14) (rest := []) dm_X12_where_11 rfl (q_inv (As := [ii 3, ii place]) (S := []) hm rfl rfl rfl) rfl rfl rfl (r_fail_ (s := s) hm (by omega) he0 hca.1 hca.2) ?_
    rintro _ _ ⟨rfl, rfl⟩
    refine y_ret (r := some (ii (-1))) dm_X12_where_14 rfl rfl rfl ?_
    rw [show m_where v = .inl 3 by unfold m_where; first | (rw [if_neg (by omega)]) | (rw [if_pos (by omega), if_pos (by omega)])]
    exact ⟨_, rfl, rres_fail (rpre_rf s) he0⟩
