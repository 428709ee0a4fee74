/-- only a view has changed, that of the handle t -/
def vwS (s : RS) (t : Nat) (s1 : RS) : Prop := s1.1 = s.1 ∧ s1.2.1 = s.2.1 ∧ s1.2.2.2 = s.2.2.2 ∧ (∀ k, k ≠ 1 → k ≠ 2 → s1.2.2.1 k = s.2.2.1 k) ∧ ∀ j, j ≠ t → s1.2.2.1 1 j = s.2.2.1 1 j ∧ s1.2.2.1 2 j = s.2.2.1 2 j
theorem vwS_rf (s : RS) (t : Nat) : vwS s t s := ⟨rfl, rfl, rfl, fun _ _ _ => rfl, fun _ _ => ⟨rfl, rfl⟩⟩
theorem vwS_view (s : RS) (t : Nat) (kind at_ n : Int) : vwS s t (s.1, s.2.1, viewI s.2.2.1 t kind at_ n, s.2.2.2) := by
  refine ⟨rfl, rfl, rfl, fun k c1 c2 => ?_, fun j hj => ⟨?_, ?_⟩⟩
  · show va_up (va_up s.2.2.1 1 _) 2 _ k = _
    rw [up_ne _ _ c2, up_ne _ _ c1]
  · show va_up (s.2.2.1 1) t _ j = _
    rw [up_ne _ _ hj]
  · show va_up (s.2.2.1 2) t _ j = _
    rw [up_ne _ _ hj]
theorem vwS_ext {s s1 : RS} {t : Nat} (h : vwS s t s1) (ht : t < 3 ∨ s.1 4 ≤ (t : Int)) : rext s s1 := by
  obtain ⟨a1, a2, a3, a4, a5⟩ := h
  refine ⟨by rw [a1]; exact Int.le_refl _, by rw [a1]; exact Int.le_refl _, fun hd h1 h2 => a5 hd (by omega), fun k _ => by rw [a3]⟩
theorem vwS_fr {s s1 : RS} {t : Nat} (h : vwS s t s1) : rfr s s1 := by
  obtain ⟨a1, a2, a3, a4, a5⟩ := h
  exact ⟨fun k _ _ _ _ _ => by rw [a1], a2, fun k c1 c2 _ _ _ => a4 k c1 c2, fun k _ => by rw [a3], fun j _ => by rw [a4 12 (by decide) (by decide)]⟩
theorem vwS_B {s s1 : RS} {t : Nat} (h : vwS s t s1) (hB : rB s) : rB s1 := by
  obtain ⟨a1, -⟩ := h
  unfold rB
  rw [a1]
  exact hB
set_option maxRecDepth 20000 in
theorem pm_X12_push : mj_mmof pg_ms 243 = some ((⟨"ArrayCalculatorModel", "push", "(I)V"⟩, prog_14_method_27_code, 2, (Option.none : Option Jvm.ClassFile.FieldType)), 12, false, mj_dec prog_14_method_27_code) := rfl
theorem dm_X12_push_0 : mj_dec prog_14_method_27_code 0 = some (.aload_n 0, 1) := by decide +kernel
theorem dm_X12_push_1 : mj_dec prog_14_method_27_code 1 = some (.getfield 30, 3) := by decide +kernel
theorem dm_X12_push_4 : mj_dec prog_14_method_27_code 4 = some (.aload_n 0, 1) := by decide +kernel
theorem dm_X12_push_5 : mj_dec prog_14_method_27_code 5 = some (.getfield 202, 3) := by decide +kernel
theorem dm_X12_push_8 : mj_dec prog_14_method_27_code 8 = some (.iload_n 1, 1) := by decide +kernel
theorem dm_X12_push_9 : mj_dec prog_14_method_27_code 9 = some (.iastore, 1) := by decide +kernel
theorem dm_X12_push_10 : mj_dec prog_14_method_27_code 10 = some (.aload_n 0, 1) := by decide +kernel
theorem dm_X12_push_11 : mj_dec prog_14_method_27_code 11 = some (.dup, 1) := by decide +kernel
theorem dm_X12_push_12 : mj_dec prog_14_method_27_code 12 = some (.getfield 202, 3) := by decide +kernel
theorem dm_X12_push_15 : mj_dec prog_14_method_27_code 15 = some (.iconst 1, 1) := by decide +kernel
theorem dm_X12_push_16 : mj_dec prog_14_method_27_code 16 = some (.iadd, 1) := by decide +kernel
theorem dm_X12_push_17 : mj_dec prog_14_method_27_code 17 = some (.putfield 202, 3) := by decide +kernel
theorem dm_X12_push_20 : mj_dec prog_14_method_27_code 20 = some (.return_, 1) := by decide +kernel
theorem r_push_ {xt : mj_X} {d n : Nat} {pre post : mj_H} {s : RS} {x : Int} (hm : pre.length = 102) (hd1 : 1 ≤ d) (hw : s.1 13 = (n : Int)) (hn : n < 8192) : pgN xt d 243 [.ref 102, ii x] (rS pre post s) (fun h' => h' = rS pre post (va_up s.1 13 ((n : Int) + 1), s.2.1, va_up s.2.2.1 12 (va_up (s.2.2.1 12) n x), s.2.2.2)) := by
  refine x_enter pm_X12_push (L0 := [(0, .ref 102), (1, ii x)]) rfl (Nat.le_of_ble_eq_true rfl) (by omega) ?_
  refine me1 (pc' := 1) (L' := [(0, .ref 102), (1, ii x)]) (S' := [.ref 102]) dm_X12_push_0 rfl rfl rfl rfl ?_
  refine me3 (pc' := 4) (S' := [.ref (102 + 4)]) dm_X12_push_1 (q_getr hm rfl (fun m i l => rg_12 m i l)) rfl rfl rfl ?_
  refine me1 (pc' := 5) (L' := [(0, .ref 102), (1, ii x)]) (S' := [.ref 102, .ref (102 + 4)]) dm_X12_push_4 rfl rfl rfl rfl ?_
  refine me3 (pc' := 8) (S' := [ii (s.1 13), .ref (102 + 4)]) dm_X12_push_5 (q_geti (v := s.1 13) hm rfl (fun m i l => rg_13 m i l) rfl) rfl rfl rfl ?_
  refine pg_st (S' := [ii (n : Int), .ref (102 + 4)]) (by rw [hw]) ?_
  refine me1 (pc' := 9) (L' := [(0, .ref 102), (1, ii x)]) (S' := [ii x, ii (n : Int), .ref (102 + 4)]) dm_X12_push_8 rfl rfl rfl rfl ?_
  refine me3 (pc' := 10) (S' := []) (h1 := rI pre post s.1 s.2.1 (va_up s.2.2.1 12 (va_up (s.2.2.1 12) n x)) s.2.2.2) dm_X12_push_9 (q_iast (j := (n : Int)) (k := 12) (n := 8192) hm (fun m i l I J => rc_12 m i l I J) (fun m i l I J f => rs_12 m i l I J f) (by omega) (by omega) (by decide)) rfl rfl rfl ?_
  refine me1 (pc' := 11) (L' := [(0, .ref 102), (1, ii x)]) (S' := [.ref 102]) dm_X12_push_10 rfl rfl rfl rfl ?_
  refine me0 (pc' := 12) (S' := [.ref 102, .ref 102]) dm_X12_push_11 rfl rfl rfl rfl ?_
  refine me3 (pc' := 15) (S' := [ii (s.1 13), .ref 102]) dm_X12_push_12 (q_geti (v := s.1 13) hm rfl (fun m i l => rg_13 m i l) rfl) rfl rfl rfl ?_
  refine me0 (pc' := 16) (S' := [ii 1, ii (s.1 13), .ref 102]) dm_X12_push_15 rfl rfl rfl rfl ?_
  refine y_iadd (a := s.1 13) (b := 1) dm_X12_push_16 (pc' := 17) rfl ?_
  refine me3 (pc' := 20) (S' := []) (h1 := rI pre post (va_up s.1 13 ((s.1 13) + 1)) s.2.1 (va_up s.2.2.1 12 (va_up (s.2.2.1 12) n x)) s.2.2.2) dm_X12_push_17 (q_puti hm rfl rfl (fun m i l v => rf_13 m i l v)) rfl rfl rfl ?_
  refine y_ret (r := none) dm_X12_push_20 rfl rfl rfl ?_
  exact ⟨rfl, by rw [hw]⟩
set_option maxRecDepth 20000 in
theorem pm_X12_itemAt : mj_mmof pg_ms 262 = some ((⟨"ArrayCalculatorModel", "itemAt", "(III)I"⟩, prog_14_method_17_code, 5, (Option.some Jvm.ClassFile.FieldType.int)), 12, false, mj_dec prog_14_method_17_code) := rfl
theorem dm_X12_itemAt_0 : mj_dec prog_14_method_17_code 0 = some (.aload_n 0, 1) := by decide +kernel
theorem dm_X12_itemAt_1 : mj_dec prog_14_method_17_code 1 = some (.iload_n 1, 1) := by decide +kernel
theorem dm_X12_itemAt_2 : mj_dec prog_14_method_17_code 2 = some (.invokevirtual 146, 3) := by decide +kernel
theorem dm_X12_itemAt_5 : mj_dec prog_14_method_17_code 5 = some (.istore 4, 2) := by decide +kernel
theorem dm_X12_itemAt_7 : mj_dec prog_14_method_17_code 7 = some (.iload 4, 2) := by decide +kernel
theorem dm_X12_itemAt_9 : mj_dec prog_14_method_17_code 9 = some (.bipush 7, 2) := by decide +kernel
theorem dm_X12_itemAt_11 : mj_dec prog_14_method_17_code 11 = some (.if_icmp .ne 10, 3) := by decide +kernel
theorem dm_X12_itemAt_14 : mj_dec prog_14_method_17_code 14 = some (.aload_n 0, 1) := by decide +kernel
theorem dm_X12_itemAt_15 : mj_dec prog_14_method_17_code 15 = some (.iload_n 1, 1) := by decide +kernel
theorem dm_X12_itemAt_16 : mj_dec prog_14_method_17_code 16 = some (.iload_n 2, 1) := by decide +kernel
theorem dm_X12_itemAt_17 : mj_dec prog_14_method_17_code 17 = some (.invokevirtual 153, 3) := by decide +kernel
theorem dm_X12_itemAt_20 : mj_dec prog_14_method_17_code 20 = some (.ireturn, 1) := by decide +kernel
theorem dm_X12_itemAt_21 : mj_dec prog_14_method_17_code 21 = some (.iload 4, 2) := by decide +kernel
theorem dm_X12_itemAt_23 : mj_dec prog_14_method_17_code 23 = some (.iconst 1, 1) := by decide +kernel
theorem dm_X12_itemAt_24 : mj_dec prog_14_method_17_code 24 = some (.if_icmp .gt 5, 3) := by decide +kernel
theorem dm_X12_itemAt_27 : mj_dec prog_14_method_17_code 27 = some (.iload_n 1, 1) := by decide +kernel
theorem dm_X12_itemAt_28 : mj_dec prog_14_method_17_code 28 = some (.ireturn, 1) := by decide +kernel
theorem dm_X12_itemAt_29 : mj_dec prog_14_method_17_code 29 = some (.iload 4, 2) := by decide +kernel
theorem dm_X12_itemAt_31 : mj_dec prog_14_method_17_code 31 = some (.bipush 6, 2) := by decide +kernel
theorem dm_X12_itemAt_33 : mj_dec prog_14_method_17_code 33 = some (.if_icmp .ne 31, 3) := by decide +kernel
theorem dm_X12_itemAt_36 : mj_dec prog_14_method_17_code 36 = some (.aload_n 0, 1) := by decide +kernel
theorem dm_X12_itemAt_37 : mj_dec prog_14_method_17_code 37 = some (.iload_n 3, 1) := by decide +kernel
theorem dm_X12_itemAt_38 : mj_dec prog_14_method_17_code 38 = some (.iconst 4, 1) := by decide +kernel
theorem dm_X12_itemAt_39 : mj_dec prog_14_method_17_code 39 = some (.aload_n 0, 1) := by decide +kernel
theorem dm_X12_itemAt_40 : mj_dec prog_14_method_17_code 40 = some (.getfield 15, 3) := by decide +kernel
theorem dm_X12_itemAt_43 : mj_dec prog_14_method_17_code 43 = some (.iload_n 1, 1) := by decide +kernel
theorem dm_X12_itemAt_44 : mj_dec prog_14_method_17_code 44 = some (.iaload, 1) := by decide +kernel
theorem dm_X12_itemAt_45 : mj_dec prog_14_method_17_code 45 = some (.iload_n 2, 1) := by decide +kernel
theorem dm_X12_itemAt_46 : mj_dec prog_14_method_17_code 46 = some (.aload_n 0, 1) := by decide +kernel
theorem dm_X12_itemAt_47 : mj_dec prog_14_method_17_code 47 = some (.iload_n 1, 1) := by decide +kernel
theorem dm_X12_itemAt_48 : mj_dec prog_14_method_17_code 48 = some (.invokevirtual 156, 3) := by decide +kernel
theorem dm_X12_itemAt_51 : mj_dec prog_14_method_17_code 51 = some (.imul, 1) := by decide +kernel
theorem dm_X12_itemAt_52 : mj_dec prog_14_method_17_code 52 = some (.iadd, 1) := by decide +kernel
theorem dm_X12_itemAt_53 : mj_dec prog_14_method_17_code 53 = some (.aload_n 0, 1) := by decide +kernel
theorem dm_X12_itemAt_54 : mj_dec prog_14_method_17_code 54 = some (.iload_n 1, 1) := by decide +kernel
theorem dm_X12_itemAt_55 : mj_dec prog_14_method_17_code 55 = some (.invokevirtual 156, 3) := by decide +kernel
theorem dm_X12_itemAt_58 : mj_dec prog_14_method_17_code 58 = some (.invokevirtual 115, 3) := by decide +kernel
theorem dm_X12_itemAt_61 : mj_dec prog_14_method_17_code 61 = some (.goto 28, 3) := by decide +kernel
theorem dm_X12_itemAt_64 : mj_dec prog_14_method_17_code 64 = some (.aload_n 0, 1) := by decide +kernel
theorem dm_X12_itemAt_65 : mj_dec prog_14_method_17_code 65 = some (.iload_n 3, 1) := by decide +kernel
theorem dm_X12_itemAt_66 : mj_dec prog_14_method_17_code 66 = some (.iload 4, 2) := by decide +kernel
theorem dm_X12_itemAt_68 : mj_dec prog_14_method_17_code 68 = some (.iconst 3, 1) := by decide +kernel
theorem dm_X12_itemAt_69 : mj_dec prog_14_method_17_code 69 = some (.if_icmp .ne 7, 3) := by decide +kernel
theorem dm_X12_itemAt_72 : mj_dec prog_14_method_17_code 72 = some (.iconst 1, 1) := by decide +kernel
theorem dm_X12_itemAt_73 : mj_dec prog_14_method_17_code 73 = some (.goto 4, 3) := by decide +kernel
theorem dm_X12_itemAt_76 : mj_dec prog_14_method_17_code 76 = some (.iconst 0, 1) := by decide +kernel
theorem dm_X12_itemAt_77 : mj_dec prog_14_method_17_code 77 = some (.aload_n 0, 1) := by decide +kernel
theorem dm_X12_itemAt_78 : mj_dec prog_14_method_17_code 78 = some (.getfield 15, 3) := by decide +kernel
theorem dm_X12_itemAt_81 : mj_dec prog_14_method_17_code 81 = some (.iload_n 1, 1) := by decide +kernel
theorem dm_X12_itemAt_82 : mj_dec prog_14_method_17_code 82 = some (.iaload, 1) := by decide +kernel
theorem dm_X12_itemAt_83 : mj_dec prog_14_method_17_code 83 = some (.iload_n 2, 1) := by decide +kernel
theorem dm_X12_itemAt_84 : mj_dec prog_14_method_17_code 84 = some (.iadd, 1) := by decide +kernel
theorem dm_X12_itemAt_85 : mj_dec prog_14_method_17_code 85 = some (.iconst 1, 1) := by decide +kernel
theorem dm_X12_itemAt_86 : mj_dec prog_14_method_17_code 86 = some (.invokevirtual 115, 3) := by decide +kernel
theorem dm_X12_itemAt_89 : mj_dec prog_14_method_17_code 89 = some (.iload_n 3, 1) := by decide +kernel
theorem dm_X12_itemAt_90 : mj_dec prog_14_method_17_code 90 = some (.ireturn, 1) := by decide +kernel
theorem r_itemAt_ {xt : mj_X} {d e hd : Nat} {pre post : mj_H} {s : RS} {v : VV} (hm : pre.length = 102) {k t : Nat} (hd1 : 2 ≤ d) (hB : rB s) (hv : rv s (e + 1) hd v) (hk : vk v ≤ 1 ∨ k < vm v) (hk2 : k ≤ 120) (hto : (t : Int) < s.1 4) : pgV xt d 262 [.ref 102, ii (hd : Int), ii (k : Int), ii (t : Int)] (rS pre post s) (fun x h' => ∃ q s1, x = ii ((q : Nat) : Int) ∧ h' = rS pre post s1 ∧ rv s1 (e + 1) q (vit v k) ∧ vwS s t s1 ∧ (3 ≤ q ∨ q = hd ∨ q = t)) := by
  have hB0 := hB
  have hnum : vk v ≠ 7 → ∀ k, k < vq v → s.2.2.2 0 ((s.2.2.1 1 hd).toNat + k) = vn v k := by
    obtain ⟨-, -, -, fr9, h1, -, h2, -⟩ := hv
    rw [h1]; exact h2
  obtain ⟨hB1, hB2, hB3, hB4⟩ := hB
  obtain ⟨fr, hfr, hsh, hlt, hcl, hvk, hvm, hvc, hvq, hvcl⟩ := rv_val hv
  rw [hfr, Int.toNat_natCast] at hnum
  have hmb := mulb 120 12 (a := k) (b := vc v) (by omega) hvc
  refine x_enter pm_X12_itemAt (L0 := [(0, .ref 102), (1, ii (hd : Int)), (2, ii (k : Int)), (3, ii (t : Int))]) rfl (Nat.le_of_ble_eq_true rfl) (by omega) ?_
  refine me1 (pc' := 1) (L' := [(0, .ref 102), (1, ii (hd : Int)), (2, ii (k : Int)), (3, ii (t : Int))]) (S' := [.ref 102]) dm_X12_itemAt_0 rfl rfl rfl rfl ?_
  refine me1 (pc' := 2) (L' := [(0, .ref 102), (1, ii (hd : Int)), (2, ii (k : Int)), (3, ii (t : Int))]) (S' := [ii (hd : Int), .ref 102]) dm_X12_itemAt_1 rfl rfl rfl rfl ?_
  refine x_cp (pc' := 5) (v := ii (vk v : Int)) (rest := []) dm_X12_itemAt_2 rfl (q_inv (As := [ii (hd : Int)]) (S := []) hm rfl rfl rfl) rfl rfl rfl (r_kindOf_ hm (by omega) hB0 hv) ?_
  refine me1 (pc' := 7) (L' := [(4, ii (vk v : Int)), (0, .ref 102), (1, ii (hd : Int)), (2, ii (k : Int)), (3, ii (t : Int))]) (S' := []) dm_X12_itemAt_5 rfl rfl rfl rfl ?_
  refine me1 (pc' := 9) (L' := [(4, ii (vk v : Int)), (0, .ref 102), (1, ii (hd : Int)), (2, ii (k : Int)), (3, ii (t : Int))]) (S' := [ii (vk v : Int)]) dm_X12_itemAt_7 rfl rfl rfl rfl ?_
  refine me0 (pc' := 11) (S' := [ii 7, ii (vk v : Int)]) dm_X12_itemAt_9 rfl rfl rfl rfl ?_
  refine y_2ne (a := (vk v : Int)) (b := 7) (t := 21) (pc' := 14) dm_X12_itemAt_11 rfl rfl (by omega) (fun hb1 => ?_) (fun hb1 => ?_)
  · refine me1 (pc' := 23) (L' := [(4, ii (vk v : Int)), (0, .ref 102), (1, ii (hd : Int)), (2, ii (k : Int)), (3, ii (t : Int))]) (S' := [ii (vk v : Int)]) dm_X12_itemAt_21 rfl rfl rfl rfl ?_
    refine me0 (pc' := 24) (S' := [ii 1, ii (vk v : Int)]) dm_X12_itemAt_23 rfl rfl rfl rfl ?_
    refine y_2gt (a := (vk v : Int)) (b := 1) (t := 29) (pc' := 27) dm_X12_itemAt_24 rfl rfl (by omega) (fun hb2 => ?_) (fun hb2 => ?_)
    · refine me1 (pc' := 31) (L' := [(4, ii (vk v : Int)), (0, .ref 102), (1, ii (hd : Int)), (2, ii (k : Int)), (3, ii (t : Int))]) (S' := [ii (vk v : Int)]) dm_X12_itemAt_29 rfl rfl rfl rfl ?_
      refine me0 (pc' := 33) (S' := [ii 6, ii (vk v : Int)]) dm_X12_itemAt_31 rfl rfl rfl rfl ?_
      refine y_2ne (a := (vk v : Int)) (b := 6) (t := 64) (pc' := 36) dm_X12_itemAt_33 rfl rfl (by omega) (fun hb3 => ?_) (fun hb3 => ?_)
      · refine me1 (pc' := 65) (L' := [(4, ii (vk v : Int)), (0, .ref 102), (1, ii (hd : Int)), (2, ii (k : Int)), (3, ii (t : Int))]) (S' := [.ref 102]) dm_X12_itemAt_64 rfl rfl rfl rfl ?_
        refine me1 (pc' := 66) (L' := [(4, ii (vk v : Int)), (0, .ref 102), (1, ii (hd : Int)), (2, ii (k : Int)), (3, ii (t : Int))]) (S' := [ii (t : Int), .ref 102]) dm_X12_itemAt_65 rfl rfl rfl rfl ?_
        refine me1 (pc' := 68) (L' := [(4, ii (vk v : Int)), (0, .ref 102), (1, ii (hd : Int)), (2, ii (k : Int)), (3, ii (t : Int))]) (S' := [ii (vk v : Int), ii (t : Int), .ref 102]) dm_X12_itemAt_66 rfl rfl rfl rfl ?_
        refine me0 (pc' := 69) (S' := [ii 3, ii (vk v : Int), ii (t : Int), .ref 102]) dm_X12_itemAt_68 rfl rfl rfl rfl ?_
        refine y_2ne (a := (vk v : Int)) (b := 3) (t := 76) (pc' := 72) dm_X12_itemAt_69 rfl rfl (by omega) (fun hb4 => ?_) (fun hb4 => ?_)
        · refine me0 (pc' := 77) (S' := [ii 0, ii (t : Int), .ref 102]) dm_X12_itemAt_76 rfl rfl rfl rfl ?_
          refine me1 (pc' := 78) (L' := [(4, ii (vk v : Int)), (0, .ref 102), (1, ii (hd : Int)), (2, ii (k : Int)), (3, ii (t : Int))]) (S' := [.ref 102, ii 0, ii (t : Int), .ref 102]) dm_X12_itemAt_77 rfl rfl rfl rfl ?_
          refine me3 (pc' := 81) (S' := [.ref (102 + 2), ii 0, ii (t : Int), .ref 102]) dm_X12_itemAt_78 (q_getr hm rfl (fun m i l => rg_1 m i l)) rfl rfl rfl ?_
          refine me1 (pc' := 82) (L' := [(4, ii (vk v : Int)), (0, .ref 102), (1, ii (hd : Int)), (2, ii (k : Int)), (3, ii (t : Int))]) (S' := [ii (hd : Int), .ref (102 + 2), ii 0, ii (t : Int), .ref 102]) dm_X12_itemAt_81 rfl rfl rfl rfl ?_
          refine me3 (pc' := 83) (S' := [ii ((s.2.2.1 1) hd), ii 0, ii (t : Int), .ref 102]) dm_X12_itemAt_82 (q_iald (v := (s.2.2.1 1) hd) (k := 1) (n := 310000) hm (fun m i l I J => rc_1 m i l I J) (by omega) (by omega) (by decide) rfl) rfl rfl rfl ?_
          refine me1 (pc' := 84) (L' := [(4, ii (vk v : Int)), (0, .ref 102), (1, ii (hd : Int)), (2, ii (k : Int)), (3, ii (t : Int))]) (S' := [ii (k : Int), ii ((s.2.2.1 1) hd), ii 0, ii (t : Int), .ref 102]) dm_X12_itemAt_83 rfl rfl rfl rfl ?_
          refine y_iadd (a := (s.2.2.1 1) hd) (b := (k : Int)) dm_X12_itemAt_84 (pc' := 85) rfl ?_
          refine me0 (pc' := 86) (S' := [ii 1, ii (((s.2.2.1 1) hd) + (k : Int)), ii 0, ii (t : Int), .ref 102]) dm_X12_itemAt_85 rfl rfl rfl rfl ?_
          refine x_cn (pc' := 89) (rest := []) dm_X12_itemAt_86 rfl (q_inv (As := [ii (t : Int), ii 0, ii (((s.2.2.1 1) hd) + (k : Int)), ii 1]) (S := []) hm rfl rfl rfl) rfl rfl rfl (r_view_ (hd := t) hm (by omega) (by omega) (by omega) (by omega)) ?_
          rintro _ rfl
          refine me1 (pc' := 90) (L' := [(4, ii (vk v : Int)), (0, .ref 102), (1, ii (hd : Int)), (2, ii (k : Int)), (3, ii (t : Int))]) (S' := [ii (t : Int)]) dm_X12_itemAt_89 rfl rfl rfl rfl ?_
          refine y_ret (r := some (ii (t : Int))) dm_X12_itemAt_90 rfl rfl rfl ?_
          refine ⟨_, rfl, t, _, rfl, rfl, ?_, vwS_view _ _ _ _ _, Or.inr (Or.inr rfl)⟩
          have hvq2 : vq v = vm v := by unfold vq; rw [if_neg (by omega), if_neg (by omega)]
          have hvc2 : vcl v = vq v := by unfold vcl; rw [if_neg (by omega)]
          rw [vit_r (by omega) (by omega), if_neg (by omega)]
          refine rv_flat (fr := fr + k) (vw1_one (by omega)) (by show ¬ 0 = 7; omega) hto ?_ ?_ ?_ (fun j hj => ?_)
          · show va_up (s.2.2.1 1) t _ t = _
            rw [up_eq, hfr]; push_cast; rfl
          · show va_up (s.2.2.1 2) t _ t = _
            rw [up_eq]
            rfl
          · show ((fr + k : Nat) : Int) + ((1 : Nat) : Int) ≤ s.1 3
            omega
          · have hj0 : j = 0 := by have hj1 : j < 1 := hj; omega
            subst hj0
            show s.2.2.2 0 (fr + k) = vn v k
            exact hnum (by omega) _ (by omega)
        · refine me0 (pc' := 73) (S' := [ii 1, ii (t : Int), .ref 102]) dm_X12_itemAt_72 rfl rfl rfl rfl ?_
          refine me2 (pc' := 77) (S' := [ii 1, ii (t : Int), .ref 102]) dm_X12_itemAt_73 rfl rfl rfl ?_
          refine me1 (pc' := 78) (L' := [(4, ii (vk v : Int)), (0, .ref 102), (1, ii (hd : Int)), (2, ii (k : Int)), (3, ii (t : Int))]) (S' := [.ref 102, ii 1, ii (t : Int), .ref 102]) dm_X12_itemAt_77 rfl rfl rfl rfl ?_
          refine me3 (pc' := 81) (S' := [.ref (102 + 2), ii 1, ii (t : Int), .ref 102]) dm_X12_itemAt_78 (q_getr hm rfl (fun m i l => rg_1 m i l)) rfl rfl rfl ?_
          refine me1 (pc' := 82) (L' := [(4, ii (vk v : Int)), (0, .ref 102), (1, ii (hd : Int)), (2, ii (k : Int)), (3, ii (t : Int))]) (S' := [ii (hd : Int), .ref (102 + 2), ii 1, ii (t : Int), .ref 102]) dm_X12_itemAt_81 rfl rfl rfl rfl ?_
          refine me3 (pc' := 83) (S' := [ii ((s.2.2.1 1) hd), ii 1, ii (t : Int), .ref 102]) dm_X12_itemAt_82 (q_iald (v := (s.2.2.1 1) hd) (k := 1) (n := 310000) hm (fun m i l I J => rc_1 m i l I J) (by omega) (by omega) (by decide) rfl) rfl rfl rfl ?_
          refine me1 (pc' := 84) (L' := [(4, ii (vk v : Int)), (0, .ref 102), (1, ii (hd : Int)), (2, ii (k : Int)), (3, ii (t : Int))]) (S' := [ii (k : Int), ii ((s.2.2.1 1) hd), ii 1, ii (t : Int), .ref 102]) dm_X12_itemAt_83 rfl rfl rfl rfl ?_
          refine y_iadd (a := (s.2.2.1 1) hd) (b := (k : Int)) dm_X12_itemAt_84 (pc' := 85) rfl ?_
          refine me0 (pc' := 86) (S' := [ii 1, ii (((s.2.2.1 1) hd) + (k : Int)), ii 1, ii (t : Int), .ref 102]) dm_X12_itemAt_85 rfl rfl rfl rfl ?_
          refine x_cn (pc' := 89) (rest := []) dm_X12_itemAt_86 rfl (q_inv (As := [ii (t : Int), ii 1, ii (((s.2.2.1 1) hd) + (k : Int)), ii 1]) (S := []) hm rfl rfl rfl) rfl rfl rfl (r_view_ (hd := t) hm (by omega) (by omega) (by omega) (by omega)) ?_
          rintro _ rfl
          refine me1 (pc' := 90) (L' := [(4, ii (vk v : Int)), (0, .ref 102), (1, ii (hd : Int)), (2, ii (k : Int)), (3, ii (t : Int))]) (S' := [ii (t : Int)]) dm_X12_itemAt_89 rfl rfl rfl rfl ?_
          refine y_ret (r := some (ii (t : Int))) dm_X12_itemAt_90 rfl rfl rfl ?_
          refine ⟨_, rfl, t, _, rfl, rfl, ?_, vwS_view _ _ _ _ _, Or.inr (Or.inr rfl)⟩
          have hvq2 : vq v = vm v := by unfold vq; rw [if_neg (by omega), if_neg (by omega)]
          have hvc2 : vcl v = vq v := by unfold vcl; rw [if_neg (by omega)]
          rw [vit_r (by omega) (by omega), if_pos (by omega)]
          refine rv_flat (fr := fr + k) (vw1_one (by omega)) (by show ¬ 1 = 7; omega) hto ?_ ?_ ?_ (fun j hj => ?_)
          · show va_up (s.2.2.1 1) t _ t = _
            rw [up_eq, hfr]; push_cast; rfl
          · show va_up (s.2.2.1 2) t _ t = _
            rw [up_eq]
            rfl
          · show ((fr + k : Nat) : Int) + ((1 : Nat) : Int) ≤ s.1 3
            omega
          · have hj0 : j = 0 := by have hj1 : j < 1 := hj; omega
            subst hj0
            show s.2.2.2 0 (fr + k) = vn v k
            exact hnum (by omega) _ (by omega)
      · refine me1 (pc' := 37) (L' := [(4, ii (vk v : Int)), (0, .ref 102), (1, ii (hd : Int)), (2, ii (k : Int)), (3, ii (t : Int))]) (S' := [.ref 102]) dm_X12_itemAt_36 rfl rfl rfl rfl ?_
        refine me1 (pc' := 38) (L' := [(4, ii (vk v : Int)), (0, .ref 102), (1, ii (hd : Int)), (2, ii (k : Int)), (3, ii (t : Int))]) (S' := [ii (t : Int), .ref 102]) dm_X12_itemAt_37 rfl rfl rfl rfl ?_
        refine me0 (pc' := 39) (S' := [ii 4, ii (t : Int), .ref 102]) dm_X12_itemAt_38 rfl rfl rfl rfl ?_
        refine me1 (pc' := 40) (L' := [(4, ii (vk v : Int)), (0, .ref 102), (1, ii (hd : Int)), (2, ii (k : Int)), (3, ii (t : Int))]) (S' := [.ref 102, ii 4, ii (t : Int), .ref 102]) dm_X12_itemAt_39 rfl rfl rfl rfl ?_
        refine me3 (pc' := 43) (S' := [.ref (102 + 2), ii 4, ii (t : Int), .ref 102]) dm_X12_itemAt_40 (q_getr hm rfl (fun m i l => rg_1 m i l)) rfl rfl rfl ?_
        refine me1 (pc' := 44) (L' := [(4, ii (vk v : Int)), (0, .ref 102), (1, ii (hd : Int)), (2, ii (k : Int)), (3, ii (t : Int))]) (S' := [ii (hd : Int), .ref (102 + 2), ii 4, ii (t : Int), .ref 102]) dm_X12_itemAt_43 rfl rfl rfl rfl ?_
        refine me3 (pc' := 45) (S' := [ii ((s.2.2.1 1) hd), ii 4, ii (t : Int), .ref 102]) dm_X12_itemAt_44 (q_iald (v := (s.2.2.1 1) hd) (k := 1) (n := 310000) hm (fun m i l I J => rc_1 m i l I J) (by omega) (by omega) (by decide) rfl) rfl rfl rfl ?_
        refine me1 (pc' := 46) (L' := [(4, ii (vk v : Int)), (0, .ref 102), (1, ii (hd : Int)), (2, ii (k : Int)), (3, ii (t : Int))]) (S' := [ii (k : Int), ii ((s.2.2.1 1) hd), ii 4, ii (t : Int), .ref 102]) dm_X12_itemAt_45 rfl rfl rfl rfl ?_
        refine me1 (pc' := 47) (L' := [(4, ii (vk v : Int)), (0, .ref 102), (1, ii (hd : Int)), (2, ii (k : Int)), (3, ii (t : Int))]) (S' := [.ref 102, ii (k : Int), ii ((s.2.2.1 1) hd), ii 4, ii (t : Int), .ref 102]) dm_X12_itemAt_46 rfl rfl rfl rfl ?_
        refine me1 (pc' := 48) (L' := [(4, ii (vk v : Int)), (0, .ref 102), (1, ii (hd : Int)), (2, ii (k : Int)), (3, ii (t : Int))]) (S' := [ii (hd : Int), .ref 102, ii (k : Int), ii ((s.2.2.1 1) hd), ii 4, ii (t : Int), .ref 102]) dm_X12_itemAt_47 rfl rfl rfl rfl ?_
        refine x_cp (pc' := 51) (v := ii (vc v : Int)) (rest := [ii (k : Int), ii ((s.2.2.1 1) hd), ii 4, ii (t : Int), .ref 102]) dm_X12_itemAt_48 rfl (q_inv (As := [ii (hd : Int)]) (S := [ii (k : Int), ii ((s.2.2.1 1) hd), ii 4, ii (t : Int), .ref 102]) hm rfl rfl rfl) rfl rfl rfl (r_columns_ hm (by omega) hB0 hv) ?_
        refine y_imul (a := (k : Int)) (b := (vc v : Int)) dm_X12_itemAt_51 (pc' := 52) rfl ?_
        refine y_iadd (a := (s.2.2.1 1) hd) (b := (k : Int) * (vc v : Int)) dm_X12_itemAt_52 (pc' := 53) rfl ?_
        refine me1 (pc' := 54) (L' := [(4, ii (vk v : Int)), (0, .ref 102), (1, ii (hd : Int)), (2, ii (k : Int)), (3, ii (t : Int))]) (S' := [.ref 102, ii (((s.2.2.1 1) hd) + ((k : Int) * (vc v : Int))), ii 4, ii (t : Int), .ref 102]) dm_X12_itemAt_53 rfl rfl rfl rfl ?_
        refine me1 (pc' := 55) (L' := [(4, ii (vk v : Int)), (0, .ref 102), (1, ii (hd : Int)), (2, ii (k : Int)), (3, ii (t : Int))]) (S' := [ii (hd : Int), .ref 102, ii (((s.2.2.1 1) hd) + ((k : Int) * (vc v : Int))), ii 4, ii (t : Int), .ref 102]) dm_X12_itemAt_54 rfl rfl rfl rfl ?_
        refine x_cp (pc' := 58) (v := ii (vc v : Int)) (rest := [ii (((s.2.2.1 1) hd) + ((k : Int) * (vc v : Int))), ii 4, ii (t : Int), .ref 102]) dm_X12_itemAt_55 rfl (q_inv (As := [ii (hd : Int)]) (S := [ii (((s.2.2.1 1) hd) + ((k : Int) * (vc v : Int))), ii 4, ii (t : Int), .ref 102]) hm rfl rfl rfl) rfl rfl rfl (r_columns_ hm (by omega) hB0 hv) ?_
        refine x_cn (pc' := 61) (rest := []) dm_X12_itemAt_58 rfl (q_inv (As := [ii (t : Int), ii 4, ii (((s.2.2.1 1) hd) + ((k : Int) * (vc v : Int))), ii (vc v : Int)]) (S := []) hm rfl rfl rfl) rfl rfl rfl (r_view_ (hd := t) hm (by omega) (by omega) (by omega) (by omega)) ?_
        rintro _ rfl
        refine me2 (pc' := 89) (S' := []) dm_X12_itemAt_61 rfl rfl rfl ?_
        refine me1 (pc' := 90) (L' := [(4, ii (vk v : Int)), (0, .ref 102), (1, ii (hd : Int)), (2, ii (k : Int)), (3, ii (t : Int))]) (S' := [ii (t : Int)]) dm_X12_itemAt_89 rfl rfl rfl rfl ?_
        refine y_ret (r := some (ii (t : Int))) dm_X12_itemAt_90 rfl rfl rfl ?_
        refine ⟨_, rfl, t, _, rfl, rfl, ?_, vwS_view _ _ _ _ _, Or.inr (Or.inr rfl)⟩
        have hk6 : vk v = 6 := by omega
        have hix := ixq (i := k) hk6 (by omega)
        have hvc2 : vcl v = vq v := by unfold vcl; rw [if_neg (by omega)]
        rw [vit_6 hk6]
        refine rv_flat (fr := fr + k * vc v) (vw1_row (by omega) (by omega) (by omega)) (by show ¬ 4 = 7; omega) hto ?_ ?_ ?_ (fun j hj => ?_)
        · show va_up (s.2.2.1 1) t _ t = _
          rw [up_eq, hfr]; push_cast; rfl
        · show va_up (s.2.2.1 2) t _ t = _
          rw [up_eq]
          show (4 : Int) + (vc v : Int) * 8 = ((4 : Nat) : Int) + 8 * ((vc v : Nat) : Int) + 2048 * ((0 : Nat) : Int)
          omega
        · rw [vq_row (by omega)]
          show ((fr + k * vc v : Nat) : Int) + (vc v : Int) ≤ s.1 3
          omega
        · rw [vq_row (by omega)] at hj
          show s.2.2.2 0 (fr + k * vc v + j) = vn v (k * vc v + j)
          rw [Nat.add_assoc]
          exact hnum (by omega) _ (by omega)
    · refine me1 (pc' := 28) (L' := [(4, ii (vk v : Int)), (0, .ref 102), (1, ii (hd : Int)), (2, ii (k : Int)), (3, ii (t : Int))]) (S' := [ii (hd : Int)]) dm_X12_itemAt_27 rfl rfl rfl rfl ?_
      refine y_ret (r := some (ii (hd : Int))) dm_X12_itemAt_28 rfl rfl rfl ?_
      exact ⟨_, rfl, hd, s, rfl, rfl, by rw [vit_1 (by omega)]; exact hv, vwS_rf _ _, Or.inr (Or.inl rfl)⟩
  · refine me1 (pc' := 15) (L' := [(4, ii (vk v : Int)), (0, .ref 102), (1, ii (hd : Int)), (2, ii (k : Int)), (3, ii (t : Int))]) (S' := [.ref 102]) dm_X12_itemAt_14 rfl rfl rfl rfl ?_
    refine me1 (pc' := 16) (L' := [(4, ii (vk v : Int)), (0, .ref 102), (1, ii (hd : Int)), (2, ii (k : Int)), (3, ii (t : Int))]) (S' := [ii (hd : Int), .ref 102]) dm_X12_itemAt_15 rfl rfl rfl rfl ?_
    refine me1 (pc' := 17) (L' := [(4, ii (vk v : Int)), (0, .ref 102), (1, ii (hd : Int)), (2, ii (k : Int)), (3, ii (t : Int))]) (S' := [ii (k : Int), ii (hd : Int), .ref 102]) dm_X12_itemAt_16 rfl rfl rfl rfl ?_
    obtain ⟨q, hq3, hqlt, hqv, hcq⟩ := r_value_ (xt := xt) (d := d - 1) (pre := pre) (post := post) (k := k) hm (by omega) hB0 hv (by omega) (by omega)
    refine x_cp (pc' := 20) (v := ii (q : Int)) (rest := []) dm_X12_itemAt_17 rfl (q_inv (As := [ii (hd : Int), ii (k : Int)]) (S := []) hm rfl rfl rfl) rfl rfl rfl (hcq) ?_
    refine y_ret (r := some (ii (q : Int))) dm_X12_itemAt_20 rfl rfl rfl ?_
    exact ⟨_, rfl, q, s, rfl, rfl, by rw [vit_7 (by omega)]; exact rv_up hqv, vwS_rf _ _, Or.inl hq3⟩
