/-- # with two numbers: a table -/
def d_lay (x y : Int64) (v : VV) : Nat ⊕ VV := if vk v = 7 then .inl 3 else if (x.toInt < 1 ∨ 12 < x.toInt) ∨ (y.toInt < 1 ∨ 12 < y.toInt) ∨ vk v = 1 ∨ vk v = 3 then .inl 5 else if vq v = 0 then .inl 4 else if allF (x.toInt.toNat * y.toInt.toNat) (fun k => vn v (k % vq v)) = false then .inl 6 else .inr (vtab x.toInt.toNat y.toInt.toNat (fun k => vn v (k % vq v)))
/-- # with one -/
def tkn (x : Int) (m k : Nat) : Nat := if 0 < x then k % m else m - 1 - (x.natAbs - 1 - k) % m
def d_take (v w : VV) : Nat ⊕ VV := if (vk v = 2 ∨ vk v = 4 ∨ vk v = 5) ∧ vm v = 2 then d_lay (vn v 0) (vn v 1) w else if 2 ≤ vk v then .inl 3 else if vk v = 1 ∨ (vn v 0).toInt < -120 ∨ 120 < (vn v 0).toInt ∨ ((vn v 0).toInt = 0 ∧ vk w = 6) then .inl 5 else if (vn v 0).toInt ≠ 0 ∧ vm w = 0 then .inl 4 else s_pick w (tkn (vn v 0).toInt (vm w)) (vn v 0).toInt.natAbs
theorem vnum_nq {v : VV} {k : Nat} (hw : vw1 v) (h7 : vk v ≠ 7) (hk : k < vq v) : vnum v (k : Int) = vn v k := by
  by_cases z : vk v ≤ 1
  · rw [vnum_1 z]
    have := vq_1 hw z
    congr 1
    omega
  · rw [vnum_r (by omega) (by omega) (by omega)]
    rfl
set_option maxRecDepth 20000 in
theorem pm_X9_tableTaken : mj_mmof pg_ms 147 = some ((⟨"ArrayCalculator$TwoAct", "tableTaken", "(JJLArrayCalculator$Value;)LArrayCalculator$Value;"⟩, prog_11_method_6_code, 8, (Option.some (Jvm.ClassFile.FieldType.object "ArrayCalculator$Value"))), 9, false, mj_dec prog_11_method_6_code) := rfl
theorem dm_X9_tableTaken_0 : mj_dec prog_11_method_6_code 0 = some (.aload 4, 2) := by decide +kernel
theorem dm_X9_tableTaken_2 : mj_dec prog_11_method_6_code 2 = some (.getfield 102, 3) := by decide +kernel
theorem dm_X9_tableTaken_5 : mj_dec prog_11_method_6_code 5 = some (.bipush 7, 2) := by decide +kernel
theorem dm_X9_tableTaken_7 : mj_dec prog_11_method_6_code 7 = some (.if_icmp .ne 8, 3) := by decide +kernel
theorem dm_X9_tableTaken_10 : mj_dec prog_11_method_6_code 10 = some (.iconst 3, 1) := by decide +kernel
theorem dm_X9_tableTaken_11 : mj_dec prog_11_method_6_code 11 = some (.invokestatic 81, 3) := by decide +kernel
theorem dm_X9_tableTaken_14 : mj_dec prog_11_method_6_code 14 = some (.areturn, 1) := by decide +kernel
theorem dm_X9_tableTaken_15 : mj_dec prog_11_method_6_code 15 = some (.lload_n 0, 1) := by decide +kernel
theorem dm_X9_tableTaken_16 : mj_dec prog_11_method_6_code 16 = some (.lconst 1, 1) := by decide +kernel
theorem dm_X9_tableTaken_17 : mj_dec prog_11_method_6_code 17 = some (.lcmp, 1) := by decide +kernel
theorem dm_X9_tableTaken_18 : mj_dec prog_11_method_6_code 18 = some (.ifCond .lt 33, 3) := by decide +kernel
theorem dm_X9_tableTaken_21 : mj_dec prog_11_method_6_code 21 = some (.lload_n 0, 1) := by decide +kernel
theorem dm_X9_tableTaken_22 : mj_dec prog_11_method_6_code 22 = some (.ldc2_w 161, 3) := by decide +kernel
theorem dm_X9_tableTaken_25 : mj_dec prog_11_method_6_code 25 = some (.lcmp, 1) := by decide +kernel
theorem dm_X9_tableTaken_26 : mj_dec prog_11_method_6_code 26 = some (.ifCond .gt 25, 3) := by decide +kernel
theorem dm_X9_tableTaken_29 : mj_dec prog_11_method_6_code 29 = some (.lload_n 2, 1) := by decide +kernel
theorem dm_X9_tableTaken_30 : mj_dec prog_11_method_6_code 30 = some (.lconst 1, 1) := by decide +kernel
theorem dm_X9_tableTaken_31 : mj_dec prog_11_method_6_code 31 = some (.lcmp, 1) := by decide +kernel
theorem dm_X9_tableTaken_32 : mj_dec prog_11_method_6_code 32 = some (.ifCond .lt 19, 3) := by decide +kernel
theorem dm_X9_tableTaken_35 : mj_dec prog_11_method_6_code 35 = some (.lload_n 2, 1) := by decide +kernel
theorem dm_X9_tableTaken_36 : mj_dec prog_11_method_6_code 36 = some (.ldc2_w 161, 3) := by decide +kernel
theorem dm_X9_tableTaken_39 : mj_dec prog_11_method_6_code 39 = some (.lcmp, 1) := by decide +kernel
theorem dm_X9_tableTaken_40 : mj_dec prog_11_method_6_code 40 = some (.ifCond .gt 11, 3) := by decide +kernel
theorem dm_X9_tableTaken_43 : mj_dec prog_11_method_6_code 43 = some (.aload 4, 2) := by decide +kernel
theorem dm_X9_tableTaken_45 : mj_dec prog_11_method_6_code 45 = some (.invokevirtual 91, 3) := by decide +kernel
theorem dm_X9_tableTaken_48 : mj_dec prog_11_method_6_code 48 = some (.ifCond .eq 8, 3) := by decide +kernel
theorem dm_X9_tableTaken_51 : mj_dec prog_11_method_6_code 51 = some (.iconst 5, 1) := by decide +kernel
theorem dm_X9_tableTaken_52 : mj_dec prog_11_method_6_code 52 = some (.invokestatic 81, 3) := by decide +kernel
theorem dm_X9_tableTaken_55 : mj_dec prog_11_method_6_code 55 = some (.areturn, 1) := by decide +kernel
theorem dm_X9_tableTaken_56 : mj_dec prog_11_method_6_code 56 = some (.aload 4, 2) := by decide +kernel
theorem dm_X9_tableTaken_58 : mj_dec prog_11_method_6_code 58 = some (.invokevirtual 127, 3) := by decide +kernel
theorem dm_X9_tableTaken_61 : mj_dec prog_11_method_6_code 61 = some (.istore 5, 2) := by decide +kernel
theorem dm_X9_tableTaken_63 : mj_dec prog_11_method_6_code 63 = some (.iload 5, 2) := by decide +kernel
theorem dm_X9_tableTaken_65 : mj_dec prog_11_method_6_code 65 = some (.ifCond .ne 8, 3) := by decide +kernel
theorem dm_X9_tableTaken_68 : mj_dec prog_11_method_6_code 68 = some (.iconst 4, 1) := by decide +kernel
theorem dm_X9_tableTaken_69 : mj_dec prog_11_method_6_code 69 = some (.invokestatic 81, 3) := by decide +kernel
theorem dm_X9_tableTaken_72 : mj_dec prog_11_method_6_code 72 = some (.areturn, 1) := by decide +kernel
theorem dm_X9_tableTaken_73 : mj_dec prog_11_method_6_code 73 = some (.lload_n 0, 1) := by decide +kernel
theorem dm_X9_tableTaken_74 : mj_dec prog_11_method_6_code 74 = some (.lload_n 2, 1) := by decide +kernel
theorem dm_X9_tableTaken_75 : mj_dec prog_11_method_6_code 75 = some (.lmul, 1) := by decide +kernel
theorem dm_X9_tableTaken_76 : mj_dec prog_11_method_6_code 76 = some (.l2i, 1) := by decide +kernel
theorem dm_X9_tableTaken_77 : mj_dec prog_11_method_6_code 77 = some (.newarray .long, 2) := by decide +kernel
theorem dm_X9_tableTaken_79 : mj_dec prog_11_method_6_code 79 = some (.astore 6, 2) := by decide +kernel
theorem dm_X9_tableTaken_81 : mj_dec prog_11_method_6_code 81 = some (.iconst 0, 1) := by decide +kernel
theorem dm_X9_tableTaken_82 : mj_dec prog_11_method_6_code 82 = some (.istore 7, 2) := by decide +kernel
theorem dm_X9_tableTaken_84 : mj_dec prog_11_method_6_code 84 = some (.iload 7, 2) := by decide +kernel
theorem dm_X9_tableTaken_86 : mj_dec prog_11_method_6_code 86 = some (.aload 6, 2) := by decide +kernel
theorem dm_X9_tableTaken_88 : mj_dec prog_11_method_6_code 88 = some (.arraylength, 1) := by decide +kernel
theorem dm_X9_tableTaken_89 : mj_dec prog_11_method_6_code 89 = some (.if_icmp .ge 41, 3) := by decide +kernel
theorem dm_X9_tableTaken_92 : mj_dec prog_11_method_6_code 92 = some (.aload 6, 2) := by decide +kernel
theorem dm_X9_tableTaken_94 : mj_dec prog_11_method_6_code 94 = some (.iload 7, 2) := by decide +kernel
theorem dm_X9_tableTaken_96 : mj_dec prog_11_method_6_code 96 = some (.aload 4, 2) := by decide +kernel
theorem dm_X9_tableTaken_98 : mj_dec prog_11_method_6_code 98 = some (.iload 7, 2) := by decide +kernel
theorem dm_X9_tableTaken_100 : mj_dec prog_11_method_6_code 100 = some (.iload 5, 2) := by decide +kernel
theorem dm_X9_tableTaken_102 : mj_dec prog_11_method_6_code 102 = some (.irem, 1) := by decide +kernel
theorem dm_X9_tableTaken_103 : mj_dec prog_11_method_6_code 103 = some (.invokevirtual 129, 3) := by decide +kernel
theorem dm_X9_tableTaken_106 : mj_dec prog_11_method_6_code 106 = some (.lastore, 1) := by decide +kernel
theorem dm_X9_tableTaken_107 : mj_dec prog_11_method_6_code 107 = some (.aload 6, 2) := by decide +kernel
theorem dm_X9_tableTaken_109 : mj_dec prog_11_method_6_code 109 = some (.iload 7, 2) := by decide +kernel
theorem dm_X9_tableTaken_111 : mj_dec prog_11_method_6_code 111 = some (.laload, 1) := by decide +kernel
theorem dm_X9_tableTaken_112 : mj_dec prog_11_method_6_code 112 = some (.invokestatic 163, 3) := by decide +kernel
theorem dm_X9_tableTaken_115 : mj_dec prog_11_method_6_code 115 = some (.ifCond .ne 9, 3) := by decide +kernel
theorem dm_X9_tableTaken_118 : mj_dec prog_11_method_6_code 118 = some (.bipush 6, 2) := by decide +kernel
theorem dm_X9_tableTaken_120 : mj_dec prog_11_method_6_code 120 = some (.invokestatic 81, 3) := by decide +kernel
theorem dm_X9_tableTaken_123 : mj_dec prog_11_method_6_code 123 = some (.areturn, 1) := by decide +kernel
theorem dm_X9_tableTaken_124 : mj_dec prog_11_method_6_code 124 = some (.iinc 7 1, 3) := by decide +kernel
theorem dm_X9_tableTaken_127 : mj_dec prog_11_method_6_code 127 = some (.goto (-43), 3) := by decide +kernel
theorem dm_X9_tableTaken_130 : mj_dec prog_11_method_6_code 130 = some (.aload 6, 2) := by decide +kernel
theorem dm_X9_tableTaken_132 : mj_dec prog_11_method_6_code 132 = some (.lload_n 0, 1) := by decide +kernel
theorem dm_X9_tableTaken_133 : mj_dec prog_11_method_6_code 133 = some (.l2i, 1) := by decide +kernel
theorem dm_X9_tableTaken_134 : mj_dec prog_11_method_6_code 134 = some (.lload_n 2, 1) := by decide +kernel
theorem dm_X9_tableTaken_135 : mj_dec prog_11_method_6_code 135 = some (.l2i, 1) := by decide +kernel
theorem dm_X9_tableTaken_136 : mj_dec prog_11_method_6_code 136 = some (.invokestatic 116, 3) := by decide +kernel
theorem dm_X9_tableTaken_139 : mj_dec prog_11_method_6_code 139 = some (.areturn, 1) := by decide +kernel
theorem t_tableTaken {xt : mj_X} {d e p : Nat} {A : Nat → Prop} {h : mj_H} {v : VV} {x y : Int64} {f1 : Nat → Value} (hx1 : xt 1 = some (.long, 0, f1)) (hd : 6 ≤ d) (hl : 127 ≤ h.length) (hv : cv A h (e + 1) p v) : pgV xt d 147 [.long x, .long y, .ref p] h (ares A h (e + 1) (d_lay x y v) 2 (min 144 (x.toInt.toNat * y.toInt.toNat) + 9)) := by
  have h1 : (Int64.ofInt 1).toInt = 1 := by decide
  have h12 : (Int64.ofInt 12).toInt = 12 := by decide
  have hcv := vw1_c hv.1
  have hvq := vq_le hv.1
  obtain ⟨row, fr, vals, hp, hp2, hpA, hvk, hvm, hvc, hvs, hvl⟩ := cv_val hv
  refine x_enter pm_X9_tableTaken (L0 := [(0, .long x), (2, .long y), (4, .ref p)]) rfl (Nat.le_of_ble_eq_true rfl) (by omega) ?_
  refine me1 (pc' := 2) (L' := [(0, .long x), (2, .long y), (4, .ref p)]) (S' := [.ref p]) dm_X9_tableTaken_0 rfl rfl rfl rfl ?_
  refine me3 (pc' := 5) (S' := [ii (vk v : Int)]) dm_X9_tableTaken_2 (g_get (v := ii (vk v : Int)) hp rfl rfl (by omega)) rfl rfl rfl ?_
  refine me0 (pc' := 7) (S' := [ii 7, ii (vk v : Int)]) dm_X9_tableTaken_5 rfl rfl rfl rfl ?_
  refine y_2ne (a := (vk v : Int)) (b := 7) (t := 15) (pc' := 10) dm_X9_tableTaken_7 rfl rfl (by omega) (fun hb1 => ?_) (fun hb1 => ?_)
  · refine me1 (pc' := 16) (L' := [(0, .long x), (2, .long y), (4, .ref p)]) (S' := [.long x]) dm_X9_tableTaken_15 rfl rfl rfl rfl ?_
    refine me0 (pc' := 17) (S' := [.long (Int64.ofInt 1), .long x]) dm_X9_tableTaken_16 rfl rfl rfl rfl ?_
    refine y_llt (x := x) (y := Int64.ofInt 1) (t := 51) (pc1 := 18) (pc' := 21) dm_X9_tableTaken_17 rfl dm_X9_tableTaken_18 rfl rfl (fun hb2 => ?_) (fun hb2 => ?_)
    · refine me0 (pc' := 52) (S' := [ii 5]) dm_X9_tableTaken_51 rfl rfl rfl rfl ?_
      refine x_cv (pc' := 55) (rest := []) dm_X9_tableTaken_52 rfl (g_invs (As := [ii 5]) (S := []) rfl rfl rfl) rfl rfl rfl (c_fault (q := h.length) (by omega) (by omega) rfl (by omega)) ?_
      rintro _ _ ⟨rfl, rfl⟩
      refine y_ret (r := some (.ref h.length)) dm_X9_tableTaken_55 rfl rfl rfl ?_
      exact ⟨_, rfl, by rw [show d_lay x y v = .inl 5 by unfold d_lay; rw [if_neg (by omega), if_pos (by rw [h1, h12] at *; omega)]]; exact ares_f 5 (by omega) (by omega) (by omega)⟩
    · refine me1 (pc' := 22) (L' := [(0, .long x), (2, .long y), (4, .ref p)]) (S' := [.long x]) dm_X9_tableTaken_21 rfl rfl rfl rfl ?_
      refine me3 (pc' := 25) (S' := [.long (Int64.ofInt 12), .long x]) dm_X9_tableTaken_22 rfl rfl rfl rfl ?_
      refine y_lgt (x := x) (y := Int64.ofInt 12) (t := 51) (pc1 := 26) (pc' := 29) dm_X9_tableTaken_25 rfl dm_X9_tableTaken_26 rfl rfl (fun hb3 => ?_) (fun hb3 => ?_)
      · refine me0 (pc' := 52) (S' := [ii 5]) dm_X9_tableTaken_51 rfl rfl rfl rfl ?_
        refine x_cv (pc' := 55) (rest := []) dm_X9_tableTaken_52 rfl (g_invs (As := [ii 5]) (S := []) rfl rfl rfl) rfl rfl rfl (c_fault (q := h.length) (by omega) (by omega) rfl (by omega)) ?_
        rintro _ _ ⟨rfl, rfl⟩
        refine y_ret (r := some (.ref h.length)) dm_X9_tableTaken_55 rfl rfl rfl ?_
        exact ⟨_, rfl, by rw [show d_lay x y v = .inl 5 by unfold d_lay; rw [if_neg (by omega), if_pos (by rw [h1, h12] at *; omega)]]; exact ares_f 5 (by omega) (by omega) (by omega)⟩
      · refine me1 (pc' := 30) (L' := [(0, .long x), (2, .long y), (4, .ref p)]) (S' := [.long y]) dm_X9_tableTaken_29 rfl rfl rfl rfl ?_
        refine me0 (pc' := 31) (S' := [.long (Int64.ofInt 1), .long y]) dm_X9_tableTaken_30 rfl rfl rfl rfl ?_
        refine y_llt (x := y) (y := Int64.ofInt 1) (t := 51) (pc1 := 32) (pc' := 35) dm_X9_tableTaken_31 rfl dm_X9_tableTaken_32 rfl rfl (fun hb4 => ?_) (fun hb4 => ?_)
        · refine me0 (pc' := 52) (S' := [ii 5]) dm_X9_tableTaken_51 rfl rfl rfl rfl ?_
          refine x_cv (pc' := 55) (rest := []) dm_X9_tableTaken_52 rfl (g_invs (As := [ii 5]) (S := []) rfl rfl rfl) rfl rfl rfl (c_fault (q := h.length) (by omega) (by omega) rfl (by omega)) ?_
          rintro _ _ ⟨rfl, rfl⟩
          refine y_ret (r := some (.ref h.length)) dm_X9_tableTaken_55 rfl rfl rfl ?_
          exact ⟨_, rfl, by rw [show d_lay x y v = .inl 5 by unfold d_lay; rw [if_neg (by omega), if_pos (by rw [h1, h12] at *; omega)]]; exact ares_f 5 (by omega) (by omega) (by omega)⟩
        · refine me1 (pc' := 36) (L' := [(0, .long x), (2, .long y), (4, .ref p)]) (S' := [.long y]) dm_X9_tableTaken_35 rfl rfl rfl rfl ?_
          refine me3 (pc' := 39) (S' := [.long (Int64.ofInt 12), .long y]) dm_X9_tableTaken_36 rfl rfl rfl rfl ?_
          refine y_lgt (x := y) (y := Int64.ofInt 12) (t := 51) (pc1 := 40) (pc' := 43) dm_X9_tableTaken_39 rfl dm_X9_tableTaken_40 rfl rfl (fun hb5 => ?_) (fun hb5 => ?_)
          · refine me0 (pc' := 52) (S' := [ii 5]) dm_X9_tableTaken_51 rfl rfl rfl rfl ?_
            refine x_cv (pc' := 55) (rest := []) dm_X9_tableTaken_52 rfl (g_invs (As := [ii 5]) (S := []) rfl rfl rfl) rfl rfl rfl (c_fault (q := h.length) (by omega) (by omega) rfl (by omega)) ?_
            rintro _ _ ⟨rfl, rfl⟩
            refine y_ret (r := some (.ref h.length)) dm_X9_tableTaken_55 rfl rfl rfl ?_
            exact ⟨_, rfl, by rw [show d_lay x y v = .inl 5 by unfold d_lay; rw [if_neg (by omega), if_pos (by rw [h1, h12] at *; omega)]]; exact ares_f 5 (by omega) (by omega) (by omega)⟩
          · refine me1 (pc' := 45) (L' := [(0, .long x), (2, .long y), (4, .ref p)]) (S' := [.ref p]) dm_X9_tableTaken_43 rfl rfl rfl rfl ?_
            refine x_cp (pc' := 48) (v := zz (decide (vk v = 1 ∨ vk v = 3))) (rest := []) dm_X9_tableTaken_45 rfl (g_inv (As := []) (S := []) hp rfl rfl rfl (by omega)) rfl rfl rfl (c_ofSigns (by omega) hv) ?_
            refine y_zeq (c := decide (vk v = 1 ∨ vk v = 3)) (t := 56) (pc' := 51) dm_X9_tableTaken_48 rfl rfl (fun hb6 => ?_) (fun hb6 => ?_)
            · replace hb6 := dF hb6
              refine me1 (pc' := 58) (L' := [(0, .long x), (2, .long y), (4, .ref p)]) (S' := [.ref p]) dm_X9_tableTaken_56 rfl rfl rfl rfl ?_
              refine x_cp (pc' := 61) (v := ii (vq v : Int)) (rest := []) dm_X9_tableTaken_58 rfl (g_inv (As := []) (S := []) hp rfl rfl rfl (by omega)) rfl rfl rfl (c_numbers (by omega) hv) ?_
              refine me1 (pc' := 63) (L' := [(5, ii (vq v : Int)), (0, .long x), (2, .long y), (4, .ref p)]) (S' := []) dm_X9_tableTaken_61 rfl rfl rfl rfl ?_
              refine me1 (pc' := 65) (L' := [(5, ii (vq v : Int)), (0, .long x), (2, .long y), (4, .ref p)]) (S' := [ii (vq v : Int)]) dm_X9_tableTaken_63 rfl rfl rfl rfl ?_
              refine y_1ne (a := (vq v : Int)) (t := 73) (pc' := 68) dm_X9_tableTaken_65 rfl rfl (by omega) (fun hb7 => ?_) (fun hb7 => ?_)
              · refine me1 (pc' := 74) (L' := [(5, ii (vq v : Int)), (0, .long x), (2, .long y), (4, .ref p)]) (S' := [.long x]) dm_X9_tableTaken_73 rfl rfl rfl rfl ?_
                refine me1 (pc' := 75) (L' := [(5, ii (vq v : Int)), (0, .long x), (2, .long y), (4, .ref p)]) (S' := [.long y, .long x]) dm_X9_tableTaken_74 rfl rfl rfl rfl ?_
                refine me0 (pc' := 76) (S' := [.long (x * y)]) dm_X9_tableTaken_75 rfl rfl rfl rfl ?_
                obtain ⟨r, hr⟩ : ∃ r : Nat, x.toInt = (r : Int) := ⟨_, (Int.toNat_of_nonneg (by rw [h1] at *; omega)).symm⟩
                obtain ⟨c, hc⟩ : ∃ c : Nat, y.toInt = (c : Int) := ⟨_, (Int.toNat_of_nonneg (by rw [h1] at *; omega)).symm⟩
                have hrc : 1 ≤ r ∧ r ≤ 12 ∧ 1 ≤ c ∧ c ≤ 12 := by have a1 := hr; have a2 := hc; rw [h1, h12] at *; omega
                have hmm := Nat.mul_le_mul hrc.2.1 hrc.2.2.2
                have hds : d_lay x y v = if allF (r * c) (fun k : Nat => vn v (k % vq v)) = false then .inl 6 else .inr (vtab r c (fun k : Nat => vn v (k % vq v))) := by unfold d_lay; rw [if_neg (by omega), if_neg (by rw [hr, hc]; omega), if_neg (by omega), hr, hc]; rfl
                refine y_l2i (a := ((r * c : Nat) : Int)) dm_X9_tableTaken_76 (pc' := 77) rfl (by rw [Int64.toInt32_mul, n_l2i _ hr, n_l2i _ hc, ← Int32.ofInt_mul, ← Int.natCast_mul]) ?_
                refine me3 (pc' := 79) (S' := [.ref h.length]) (h1 := h ++ [cJ (r * c) (fun _ => 0)]) dm_X9_tableTaken_77 (yh_newJ (by omega) (by omega) (by omega) rfl) rfl rfl rfl ?_
                refine me1 (pc' := 81) (L' := [(6, .ref h.length), (5, ii (vq v : Int)), (0, .long x), (2, .long y), (4, .ref p)]) (S' := []) dm_X9_tableTaken_79 rfl rfl rfl rfl ?_
                refine me0 (pc' := 82) (S' := [ii 0]) dm_X9_tableTaken_81 rfl rfl rfl rfl ?_
                refine me1 (pc' := 84) (L' := [(7, ii 0), (6, .ref h.length), (5, ii (vq v : Int)), (0, .long x), (2, .long y), (4, .ref p)]) (S' := []) dm_X9_tableTaken_82 rfl rfl rfl rfl ?_
                have lp84 : ∀ (n84 : Nat) (k : Nat), r * c - k = n84 → (k ≤ r * c) → (∀ j, j < k → fits (vn v (j % vq v))) → pgE xt (d - 1) 9 8 false (Option.some (Jvm.ClassFile.FieldType.object "ArrayCalculator$Value")) (mj_dec prog_11_method_6_code) 84 [(0, .long x), (2, .long y), (4, .ref p), (5, ii (vq v : Int)), (6, .ref h.length), (7, ii (k : Int))] [] (h ++ [cJ (r * c) (fl k (fun k : Nat => vn v (k % vq v)) (fun _ => 0))]) (fun r h' => ∃ z, r = some z ∧ ares A h (e + 1) (d_lay x y v) 2 (min 144 (x.toInt.toNat * y.toInt.toNat) + 9) z h') := by
                  intro n84
                  induction n84 using Nat.strongRecOn with
                  | ind n84 ih84 =>
                    intro k hm84 hk hfit
                    refine me1 (pc' := 86) (L' := [(0, .long x), (2, .long y), (4, .ref p), (5, ii (vq v : Int)), (6, .ref h.length), (7, ii (k : Int))]) (S' := [ii (k : Int)]) dm_X9_tableTaken_84 rfl rfl rfl rfl ?_
                    refine me1 (pc' := 88) (L' := [(0, .long x), (2, .long y), (4, .ref p), (5, ii (vq v : Int)), (6, .ref h.length), (7, ii (k : Int))]) (S' := [.ref h.length, ii (k : Int)]) dm_X9_tableTaken_86 rfl rfl rfl rfl ?_
                    refine me3 (pc' := 89) (S' := [ii (r * c), ii (k : Int)]) dm_X9_tableTaken_88 (yh_len (n := r * c) rfl hl_new (by omega)) rfl rfl rfl ?_
                    refine y_2ge (a := (k : Int)) (b := r * c) (t := 130) (pc' := 92) dm_X9_tableTaken_89 rfl rfl (by omega) (fun hb8 => ?_) (fun hb8 => ?_)
                    · refine me1 (pc' := 132) (L' := [(0, .long x), (2, .long y), (4, .ref p), (5, ii (vq v : Int)), (6, .ref h.length), (7, ii (k : Int))]) (S' := [.ref h.length]) dm_X9_tableTaken_130 rfl rfl rfl rfl ?_
                      refine me1 (pc' := 133) (L' := [(0, .long x), (2, .long y), (4, .ref p), (5, ii (vq v : Int)), (6, .ref h.length), (7, ii (k : Int))]) (S' := [.long x, .ref h.length]) dm_X9_tableTaken_132 rfl rfl rfl rfl ?_
                      refine y_l2i (a := (r : Int)) dm_X9_tableTaken_133 (pc' := 134) rfl (n_l2i _ hr) ?_
                      refine me1 (pc' := 135) (L' := [(0, .long x), (2, .long y), (4, .ref p), (5, ii (vq v : Int)), (6, .ref h.length), (7, ii (k : Int))]) (S' := [.long y, ii (r : Int), .ref h.length]) dm_X9_tableTaken_134 rfl rfl rfl rfl ?_
                      refine y_l2i (a := (c : Int)) dm_X9_tableTaken_135 (pc' := 136) rfl (n_l2i _ hc) ?_
                      refine x_cv (pc' := 139) (rest := []) dm_X9_tableTaken_136 rfl (g_invs (As := [.ref h.length, ii (r : Int), ii (c : Int)]) (S := []) rfl rfl rfl) rfl rfl rfl (c_table (q := h.length + 1) (by omega) (by simp; omega) (by simp) (by omega) (by omega)) ?_
                      rintro _ _ ⟨rfl, rfl⟩
                      refine y_ret (r := some (.ref (h.length + 1))) dm_X9_tableTaken_139 rfl rfl rfl ?_
                      have hkn : k = r * c := by omega
                      subst hkn
                      refine ⟨_, rfl, ?_⟩
                      rw [hds, if_neg (by rw [allF_iff.mpr hfit]; decide)]
                      exact vres_flat (w := vtab r c (fun k : Nat => vn v (k % vq v))) (by omega) (vw1_tab hrc.1 hrc.2.1 hrc.2.2.1 hrc.2.2.2 hfit) (by show 2 ≤ 6; omega) (by show 6 ≤ 6; omega) vq_tab (fun j hj => fl_at _ _ hj) (by omega) (by rw [hr, hc]; show _ ≤ min 144 (r * c) + 9; omega)
                    · have hmd : k % vq v < vq v := Nat.mod_lt _ (by omega)
                      refine me1 (pc' := 94) (L' := [(0, .long x), (2, .long y), (4, .ref p), (5, ii (vq v : Int)), (6, .ref h.length), (7, ii (k : Int))]) (S' := [.ref h.length]) dm_X9_tableTaken_92 rfl rfl rfl rfl ?_
                      refine me1 (pc' := 96) (L' := [(0, .long x), (2, .long y), (4, .ref p), (5, ii (vq v : Int)), (6, .ref h.length), (7, ii (k : Int))]) (S' := [ii (k : Int), .ref h.length]) dm_X9_tableTaken_94 rfl rfl rfl rfl ?_
                      refine me1 (pc' := 98) (L' := [(0, .long x), (2, .long y), (4, .ref p), (5, ii (vq v : Int)), (6, .ref h.length), (7, ii (k : Int))]) (S' := [.ref p, ii (k : Int), .ref h.length]) dm_X9_tableTaken_96 rfl rfl rfl rfl ?_
                      refine me1 (pc' := 100) (L' := [(0, .long x), (2, .long y), (4, .ref p), (5, ii (vq v : Int)), (6, .ref h.length), (7, ii (k : Int))]) (S' := [ii (k : Int), .ref p, ii (k : Int), .ref h.length]) dm_X9_tableTaken_98 rfl rfl rfl rfl ?_
                      refine me1 (pc' := 102) (L' := [(0, .long x), (2, .long y), (4, .ref p), (5, ii (vq v : Int)), (6, .ref h.length), (7, ii (k : Int))]) (S' := [ii (vq v : Int), ii (k : Int), .ref p, ii (k : Int), .ref h.length]) dm_X9_tableTaken_100 rfl rfl rfl rfl ?_
                      refine y_irem (a := (k : Int)) (b := (vq v : Int)) dm_X9_tableTaken_102 (pc' := 103) rfl (by omega) (by omega) (by omega) (by omega) ?_
                      refine pg_st0 (S' := [ii ((k % vq v : Nat) : Int), .ref p, ii (k : Int), .ref h.length]) (congrArg (fun z => ii z :: [.ref p, ii (k : Int), .ref h.length]) ((Int.natCast_emod k (vq v)).symm)) ?_
                      refine x_cp (pc' := 106) (v := .long (vn v (k % vq v))) (rest := [ii (k : Int), .ref h.length]) dm_X9_tableTaken_103 rfl (g_inv (As := [ii ((k % vq v : Nat) : Int)]) (S := [ii (k : Int), .ref h.length]) (hl_app hp) rfl rfl rfl (by omega)) rfl rfl rfl ((show pgP xt (d - 1) _ _ _ (.long (vn v (k % vq v))) from vnum_nq hv.1 (by omega) hmd ▸ c_numberAt (i := ((k % vq v : Nat) : Int)) hx1 (by omega) (cv_app hv) (by omega))) ?_
                      refine me3 (pc' := 107) (S' := []) (h1 := h ++ [cJ (r * c) (va_up (fl k (fun k : Nat => vn v (k % vq v)) (fun _ => 0)) k (vn v (k % vq v)))]) dm_X9_tableTaken_106 (y_hs (yh_last (j := (k : Int)) hl_new (by omega) (by omega) (by omega) (by omega)) (by rw [show (k : Int).toNat = k from rfl]; exact (hl_setl))) rfl rfl rfl ?_
                      refine me1 (pc' := 109) (L' := [(0, .long x), (2, .long y), (4, .ref p), (5, ii (vq v : Int)), (6, .ref h.length), (7, ii (k : Int))]) (S' := [.ref h.length]) dm_X9_tableTaken_107 rfl rfl rfl rfl ?_
                      refine me1 (pc' := 111) (L' := [(0, .long x), (2, .long y), (4, .ref p), (5, ii (vq v : Int)), (6, .ref h.length), (7, ii (k : Int))]) (S' := [ii (k : Int), .ref h.length]) dm_X9_tableTaken_109 rfl rfl rfl rfl ?_
                      refine me3 (pc' := 112) (S' := [.long ((va_up (fl k (fun k : Nat => vn v (k % vq v)) (fun _ => 0)) k (vn v (k % vq v))) k)]) dm_X9_tableTaken_111 (yh_lald (w := (va_up (fl k (fun k : Nat => vn v (k % vq v)) (fun _ => 0)) k (vn v (k % vq v))) k) hl_new (by omega) (by omega) (by omega) (by omega) rfl) rfl rfl rfl ?_
                      refine pg_st0 (S' := [.long (vn v (k % vq v))]) (congrArg (fun z => Value.long z :: []) (up_eq _ _ _)) ?_
                      refine x_cp (pc' := 115) (v := zz (fitsB (vn v (k % vq v)))) (rest := []) dm_X9_tableTaken_112 rfl (g_invs (As := [.long (vn v (k % vq v))]) (S := []) rfl rfl rfl) rfl rfl rfl (c_fitsInt (by omega)) ?_
                      refine y_zne (c := fitsB (vn v (k % vq v))) (t := 124) (pc' := 118) dm_X9_tableTaken_115 rfl rfl (fun hb9 => ?_) (fun hb9 => ?_)
                      · refine y_iinc (pc' := 127) (L' := [(7, ii ((k : Int) + 1)), (0, .long x), (2, .long y), (4, .ref p), (5, ii (vq v : Int)), (6, .ref h.length)]) dm_X9_tableTaken_124 (y_incp (a := (k : Int)) (c := 1) rfl rfl (by decide)) rfl ?_
                        refine me2 (pc' := 84) (S' := []) dm_X9_tableTaken_127 rfl rfl rfl ?_
                        refine pg_cast (h2 := h ++ [cJ (r * c) (fl (k + 1) (fun k : Nat => vn v (k % vq v)) (fun _ => 0))]) (congrArg (fun z => h ++ [cJ (r * c) z]) (fl_s k (fun k : Nat => vn v (k % vq v)) (fun _ => 0))) ?_
                        exact pg_sub (L := [(0, .long x), (2, .long y), (4, .ref p), (5, ii (vq v : Int)), (6, .ref h.length), (7, ii ((k + 1) : Int))]) rfl rfl rfl (ih84 (r * c - (k + 1)) (by omega) (k + 1) rfl (by omega) (fun j hj => by by_cases z : j = k; (subst z; exact fitsB_iff.mp hb9); exact hfit j (by omega)))
                      · refine me0 (pc' := 120) (S' := [ii 6]) dm_X9_tableTaken_118 rfl rfl rfl rfl ?_
                        refine x_cv (pc' := 123) (rest := []) dm_X9_tableTaken_120 rfl (g_invs (As := [ii 6]) (S := []) rfl rfl rfl) rfl rfl rfl (c_fault (q := h.length + 1) (by omega) (by simp; omega) (by simp) (by omega)) ?_
                        rintro _ _ ⟨rfl, rfl⟩
                        refine y_ret (r := some (.ref (h.length + 1))) dm_X9_tableTaken_123 rfl rfl rfl ?_
                        refine ⟨_, rfl, ?_⟩
                        rw [hds, if_pos (by cases hz : allF (r * c) (fun k : Nat => vn v (k % vq v)) with | false => rfl | true => exact absurd (fitsB_iff.mpr (allF_iff.mp hz k (by omega))) (by show ¬ fitsB (vn v (k % vq v)) = true; rw [hb9]; decide))]
                        exact ⟨h.length + 1, [_, _], rfl, by rw [List.append_assoc]; rfl, Nat.le_refl 2, by show r * c + (9 + 0) ≤ min 144 (x.toInt.toNat * y.toInt.toNat) + 9; rw [hr, hc]; show r * c + 9 ≤ min 144 (r * c) + 9; omega, (show 2 ≤ h.length + 1 by omega), hl_newa (by simp)⟩
                refine pg_cast (h2 := h ++ [cJ (r * c) (fl 0 (fun k : Nat => vn v (k % vq v)) (fun _ => 0))]) (congrArg (fun z => h ++ [cJ (r * c) z]) (fl_0 _ _).symm) ?_
                exact pg_sub (L := [(0, .long x), (2, .long y), (4, .ref p), (5, ii (vq v : Int)), (6, .ref h.length), (7, ii (0 : Int))]) rfl rfl rfl (lp84 _ 0 rfl (Nat.zero_le _) (fun j hj => absurd hj (Nat.not_lt_zero j)))
              · refine me0 (pc' := 69) (S' := [ii 4]) dm_X9_tableTaken_68 rfl rfl rfl rfl ?_
                refine x_cv (pc' := 72) (rest := []) dm_X9_tableTaken_69 rfl (g_invs (As := [ii 4]) (S := []) rfl rfl rfl) rfl rfl rfl (c_fault (q := h.length) (by omega) (by omega) rfl (by omega)) ?_
                rintro _ _ ⟨rfl, rfl⟩
                refine y_ret (r := some (.ref h.length)) dm_X9_tableTaken_72 rfl rfl rfl ?_
                exact ⟨_, rfl, by rw [show d_lay x y v = .inl 4 by unfold d_lay; rw [if_neg (by omega), if_neg (by rw [h1, h12] at *; omega), if_pos (by omega)]]; exact ares_f 4 (by omega) (by omega) (by omega)⟩
            · replace hb6 := dT hb6
              refine me0 (pc' := 52) (S' := [ii 5]) dm_X9_tableTaken_51 rfl rfl rfl rfl ?_
              refine x_cv (pc' := 55) (rest := []) dm_X9_tableTaken_52 rfl (g_invs (As := [ii 5]) (S := []) rfl rfl rfl) rfl rfl rfl (c_fault (q := h.length) (by omega) (by omega) rfl (by omega)) ?_
              rintro _ _ ⟨rfl, rfl⟩
              refine y_ret (r := some (.ref h.length)) dm_X9_tableTaken_55 rfl rfl rfl ?_
              exact ⟨_, rfl, by rw [show d_lay x y v = .inl 5 by unfold d_lay; rw [if_neg (by omega), if_pos (by rw [h1, h12] at *; omega)]]; exact ares_f 5 (by omega) (by omega) (by omega)⟩
  · refine me0 (pc' := 11) (S' := [ii 3]) dm_X9_tableTaken_10 rfl rfl rfl rfl ?_
    refine x_cv (pc' := 14) (rest := []) dm_X9_tableTaken_11 rfl (g_invs (As := [ii 3]) (S := []) rfl rfl rfl) rfl rfl rfl (c_fault (q := h.length) (by omega) (by omega) rfl (by omega)) ?_
    rintro _ _ ⟨rfl, rfl⟩
    refine y_ret (r := some (.ref h.length)) dm_X9_tableTaken_14 rfl rfl rfl ?_
    exact ⟨_, rfl, by rw [show d_lay x y v = .inl 3 by unfold d_lay; rw [if_pos (by omega)]]; exact ares_f 3 (by omega) (by omega) (by omega)⟩
/-- slots that # takes -/
def tkb (v w : VV) : Nat := if (vk v = 2 ∨ vk v = 4 ∨ vk v = 5) ∧ vm v = 2 then min 144 ((vn v 0).toInt.toNat * (vn v 1).toInt.toNat) + 9 else pcl w (min 120 (vn v 0).toInt.natAbs) + 9
set_option maxRecDepth 20000 in
theorem pm_X9_taken : mj_mmof pg_ms 146 = some ((⟨"ArrayCalculator$TwoAct", "taken", "(LArrayCalculator$Value;LArrayCalculator$Value;)LArrayCalculator$Value;"⟩, prog_11_method_5_code, 5, (Option.some (Jvm.ClassFile.FieldType.object "ArrayCalculator$Value"))), 9, false, mj_dec prog_11_method_5_code) := rfl
theorem dm_X9_taken_0 : mj_dec prog_11_method_5_code 0 = some (.aload_n 1, 1) := by decide +kernel
theorem dm_X9_taken_1 : mj_dec prog_11_method_5_code 1 = some (.invokevirtual 133, 3) := by decide +kernel
theorem dm_X9_taken_4 : mj_dec prog_11_method_5_code 4 = some (.ifCond .eq 34, 3) := by decide +kernel
theorem dm_X9_taken_7 : mj_dec prog_11_method_5_code 7 = some (.aload_n 1, 1) := by decide +kernel
theorem dm_X9_taken_8 : mj_dec prog_11_method_5_code 8 = some (.getfield 102, 3) := by decide +kernel
theorem dm_X9_taken_11 : mj_dec prog_11_method_5_code 11 = some (.iconst 3, 1) := by decide +kernel
theorem dm_X9_taken_12 : mj_dec prog_11_method_5_code 12 = some (.if_icmp .eq 26, 3) := by decide +kernel
theorem dm_X9_taken_15 : mj_dec prog_11_method_5_code 15 = some (.aload_n 1, 1) := by decide +kernel
theorem dm_X9_taken_16 : mj_dec prog_11_method_5_code 16 = some (.getfield 94, 3) := by decide +kernel
theorem dm_X9_taken_19 : mj_dec prog_11_method_5_code 19 = some (.iconst 2, 1) := by decide +kernel
theorem dm_X9_taken_20 : mj_dec prog_11_method_5_code 20 = some (.if_icmp .ne 18, 3) := by decide +kernel
theorem dm_X9_taken_23 : mj_dec prog_11_method_5_code 23 = some (.aload_n 1, 1) := by decide +kernel
theorem dm_X9_taken_24 : mj_dec prog_11_method_5_code 24 = some (.iconst 0, 1) := by decide +kernel
theorem dm_X9_taken_25 : mj_dec prog_11_method_5_code 25 = some (.invokevirtual 129, 3) := by decide +kernel
theorem dm_X9_taken_28 : mj_dec prog_11_method_5_code 28 = some (.aload_n 1, 1) := by decide +kernel
theorem dm_X9_taken_29 : mj_dec prog_11_method_5_code 29 = some (.iconst 1, 1) := by decide +kernel
theorem dm_X9_taken_30 : mj_dec prog_11_method_5_code 30 = some (.invokevirtual 129, 3) := by decide +kernel
theorem dm_X9_taken_33 : mj_dec prog_11_method_5_code 33 = some (.aload_n 2, 1) := by decide +kernel
theorem dm_X9_taken_34 : mj_dec prog_11_method_5_code 34 = some (.invokestatic 136, 3) := by decide +kernel
theorem dm_X9_taken_37 : mj_dec prog_11_method_5_code 37 = some (.areturn, 1) := by decide +kernel
theorem dm_X9_taken_38 : mj_dec prog_11_method_5_code 38 = some (.aload_n 1, 1) := by decide +kernel
theorem dm_X9_taken_39 : mj_dec prog_11_method_5_code 39 = some (.invokevirtual 140, 3) := by decide +kernel
theorem dm_X9_taken_42 : mj_dec prog_11_method_5_code 42 = some (.ifCond .ne 8, 3) := by decide +kernel
theorem dm_X9_taken_45 : mj_dec prog_11_method_5_code 45 = some (.iconst 3, 1) := by decide +kernel
theorem dm_X9_taken_46 : mj_dec prog_11_method_5_code 46 = some (.invokestatic 81, 3) := by decide +kernel
theorem dm_X9_taken_49 : mj_dec prog_11_method_5_code 49 = some (.areturn, 1) := by decide +kernel
theorem dm_X9_taken_50 : mj_dec prog_11_method_5_code 50 = some (.aload_n 1, 1) := by decide +kernel
theorem dm_X9_taken_51 : mj_dec prog_11_method_5_code 51 = some (.getfield 102, 3) := by decide +kernel
theorem dm_X9_taken_54 : mj_dec prog_11_method_5_code 54 = some (.iconst 1, 1) := by decide +kernel
theorem dm_X9_taken_55 : mj_dec prog_11_method_5_code 55 = some (.if_icmp .eq 43, 3) := by decide +kernel
theorem dm_X9_taken_58 : mj_dec prog_11_method_5_code 58 = some (.aload_n 1, 1) := by decide +kernel
theorem dm_X9_taken_59 : mj_dec prog_11_method_5_code 59 = some (.getfield 143, 3) := by decide +kernel
theorem dm_X9_taken_62 : mj_dec prog_11_method_5_code 62 = some (.ldc2_w 147, 3) := by decide +kernel
theorem dm_X9_taken_65 : mj_dec prog_11_method_5_code 65 = some (.lcmp, 1) := by decide +kernel
theorem dm_X9_taken_66 : mj_dec prog_11_method_5_code 66 = some (.ifCond .lt 32, 3) := by decide +kernel
theorem dm_X9_taken_69 : mj_dec prog_11_method_5_code 69 = some (.aload_n 1, 1) := by decide +kernel
theorem dm_X9_taken_70 : mj_dec prog_11_method_5_code 70 = some (.getfield 143, 3) := by decide +kernel
theorem dm_X9_taken_73 : mj_dec prog_11_method_5_code 73 = some (.ldc2_w 149, 3) := by decide +kernel
theorem dm_X9_taken_76 : mj_dec prog_11_method_5_code 76 = some (.lcmp, 1) := by decide +kernel
theorem dm_X9_taken_77 : mj_dec prog_11_method_5_code 77 = some (.ifCond .gt 21, 3) := by decide +kernel
theorem dm_X9_taken_80 : mj_dec prog_11_method_5_code 80 = some (.aload_n 1, 1) := by decide +kernel
theorem dm_X9_taken_81 : mj_dec prog_11_method_5_code 81 = some (.getfield 143, 3) := by decide +kernel
theorem dm_X9_taken_84 : mj_dec prog_11_method_5_code 84 = some (.lconst 0, 1) := by decide +kernel
theorem dm_X9_taken_85 : mj_dec prog_11_method_5_code 85 = some (.lcmp, 1) := by decide +kernel
theorem dm_X9_taken_86 : mj_dec prog_11_method_5_code 86 = some (.ifCond .ne 17, 3) := by decide +kernel
theorem dm_X9_taken_89 : mj_dec prog_11_method_5_code 89 = some (.aload_n 2, 1) := by decide +kernel
theorem dm_X9_taken_90 : mj_dec prog_11_method_5_code 90 = some (.getfield 102, 3) := by decide +kernel
theorem dm_X9_taken_93 : mj_dec prog_11_method_5_code 93 = some (.bipush 6, 2) := by decide +kernel
theorem dm_X9_taken_95 : mj_dec prog_11_method_5_code 95 = some (.if_icmp .ne 8, 3) := by decide +kernel
theorem dm_X9_taken_98 : mj_dec prog_11_method_5_code 98 = some (.iconst 5, 1) := by decide +kernel
theorem dm_X9_taken_99 : mj_dec prog_11_method_5_code 99 = some (.invokestatic 81, 3) := by decide +kernel
theorem dm_X9_taken_102 : mj_dec prog_11_method_5_code 102 = some (.areturn, 1) := by decide +kernel
theorem dm_X9_taken_103 : mj_dec prog_11_method_5_code 103 = some (.aload_n 1, 1) := by decide +kernel
theorem dm_X9_taken_104 : mj_dec prog_11_method_5_code 104 = some (.getfield 143, 3) := by decide +kernel
theorem dm_X9_taken_107 : mj_dec prog_11_method_5_code 107 = some (.lconst 0, 1) := by decide +kernel
theorem dm_X9_taken_108 : mj_dec prog_11_method_5_code 108 = some (.lcmp, 1) := by decide +kernel
theorem dm_X9_taken_109 : mj_dec prog_11_method_5_code 109 = some (.ifCond .eq 15, 3) := by decide +kernel
theorem dm_X9_taken_112 : mj_dec prog_11_method_5_code 112 = some (.aload_n 2, 1) := by decide +kernel
theorem dm_X9_taken_113 : mj_dec prog_11_method_5_code 113 = some (.getfield 94, 3) := by decide +kernel
theorem dm_X9_taken_116 : mj_dec prog_11_method_5_code 116 = some (.ifCond .ne 8, 3) := by decide +kernel
theorem dm_X9_taken_119 : mj_dec prog_11_method_5_code 119 = some (.iconst 4, 1) := by decide +kernel
theorem dm_X9_taken_120 : mj_dec prog_11_method_5_code 120 = some (.invokestatic 81, 3) := by decide +kernel
theorem dm_X9_taken_123 : mj_dec prog_11_method_5_code 123 = some (.areturn, 1) := by decide +kernel
theorem dm_X9_taken_124 : mj_dec prog_11_method_5_code 124 = some (.aload_n 1, 1) := by decide +kernel
theorem dm_X9_taken_125 : mj_dec prog_11_method_5_code 125 = some (.getfield 143, 3) := by decide +kernel
theorem dm_X9_taken_128 : mj_dec prog_11_method_5_code 128 = some (.invokestatic 151, 3) := by decide +kernel
theorem dm_X9_taken_131 : mj_dec prog_11_method_5_code 131 = some (.l2i, 1) := by decide +kernel
theorem dm_X9_taken_132 : mj_dec prog_11_method_5_code 132 = some (.istore_n 3, 1) := by decide +kernel
theorem dm_X9_taken_133 : mj_dec prog_11_method_5_code 133 = some (.iconst 0, 1) := by decide +kernel
theorem dm_X9_taken_134 : mj_dec prog_11_method_5_code 134 = some (.istore 4, 2) := by decide +kernel
theorem dm_X9_taken_136 : mj_dec prog_11_method_5_code 136 = some (.iload 4, 2) := by decide +kernel
theorem dm_X9_taken_138 : mj_dec prog_11_method_5_code 138 = some (.iload_n 3, 1) := by decide +kernel
theorem dm_X9_taken_139 : mj_dec prog_11_method_5_code 139 = some (.if_icmp .ge 74, 3) := by decide +kernel
theorem dm_X9_taken_142 : mj_dec prog_11_method_5_code 142 = some (.aload_n 2, 1) := by decide +kernel
theorem dm_X9_taken_143 : mj_dec prog_11_method_5_code 143 = some (.getfield 94, 3) := by decide +kernel
theorem dm_X9_taken_146 : mj_dec prog_11_method_5_code 146 = some (.ifCond .le 67, 3) := by decide +kernel
theorem dm_X9_taken_149 : mj_dec prog_11_method_5_code 149 = some (.aload_n 0, 1) := by decide +kernel
theorem dm_X9_taken_150 : mj_dec prog_11_method_5_code 150 = some (.getfield 18, 3) := by decide +kernel
theorem dm_X9_taken_153 : mj_dec prog_11_method_5_code 153 = some (.aload_n 1, 1) := by decide +kernel
theorem dm_X9_taken_154 : mj_dec prog_11_method_5_code 154 = some (.getfield 143, 3) := by decide +kernel
theorem dm_X9_taken_157 : mj_dec prog_11_method_5_code 157 = some (.lconst 0, 1) := by decide +kernel
theorem dm_X9_taken_158 : mj_dec prog_11_method_5_code 158 = some (.lcmp, 1) := by decide +kernel
theorem dm_X9_taken_159 : mj_dec prog_11_method_5_code 159 = some (.ifCond .le 8, 3) := by decide +kernel
theorem dm_X9_taken_162 : mj_dec prog_11_method_5_code 162 = some (.iload 4, 2) := by decide +kernel
theorem dm_X9_taken_164 : mj_dec prog_11_method_5_code 164 = some (.goto 9, 3) := by decide +kernel
theorem dm_X9_taken_167 : mj_dec prog_11_method_5_code 167 = some (.iload_n 3, 1) := by decide +kernel
theorem dm_X9_taken_168 : mj_dec prog_11_method_5_code 168 = some (.iconst 1, 1) := by decide +kernel
theorem dm_X9_taken_169 : mj_dec prog_11_method_5_code 169 = some (.isub, 1) := by decide +kernel
theorem dm_X9_taken_170 : mj_dec prog_11_method_5_code 170 = some (.iload 4, 2) := by decide +kernel
theorem dm_X9_taken_172 : mj_dec prog_11_method_5_code 172 = some (.isub, 1) := by decide +kernel
theorem dm_X9_taken_173 : mj_dec prog_11_method_5_code 173 = some (.aload_n 1, 1) := by decide +kernel
theorem dm_X9_taken_174 : mj_dec prog_11_method_5_code 174 = some (.getfield 143, 3) := by decide +kernel
theorem dm_X9_taken_177 : mj_dec prog_11_method_5_code 177 = some (.lconst 0, 1) := by decide +kernel
theorem dm_X9_taken_178 : mj_dec prog_11_method_5_code 178 = some (.lcmp, 1) := by decide +kernel
theorem dm_X9_taken_179 : mj_dec prog_11_method_5_code 179 = some (.ifCond .le 13, 3) := by decide +kernel
theorem dm_X9_taken_182 : mj_dec prog_11_method_5_code 182 = some (.iload 4, 2) := by decide +kernel
theorem dm_X9_taken_184 : mj_dec prog_11_method_5_code 184 = some (.aload_n 2, 1) := by decide +kernel
theorem dm_X9_taken_185 : mj_dec prog_11_method_5_code 185 = some (.getfield 94, 3) := by decide +kernel
theorem dm_X9_taken_188 : mj_dec prog_11_method_5_code 188 = some (.irem, 1) := by decide +kernel
theorem dm_X9_taken_189 : mj_dec prog_11_method_5_code 189 = some (.goto 17, 3) := by decide +kernel
theorem dm_X9_taken_192 : mj_dec prog_11_method_5_code 192 = some (.aload_n 2, 1) := by decide +kernel
theorem dm_X9_taken_193 : mj_dec prog_11_method_5_code 193 = some (.getfield 94, 3) := by decide +kernel
theorem dm_X9_taken_196 : mj_dec prog_11_method_5_code 196 = some (.iconst 1, 1) := by decide +kernel
theorem dm_X9_taken_197 : mj_dec prog_11_method_5_code 197 = some (.isub, 1) := by decide +kernel
theorem dm_X9_taken_198 : mj_dec prog_11_method_5_code 198 = some (.iload 4, 2) := by decide +kernel
theorem dm_X9_taken_200 : mj_dec prog_11_method_5_code 200 = some (.aload_n 2, 1) := by decide +kernel
theorem dm_X9_taken_201 : mj_dec prog_11_method_5_code 201 = some (.getfield 94, 3) := by decide +kernel
theorem dm_X9_taken_204 : mj_dec prog_11_method_5_code 204 = some (.irem, 1) := by decide +kernel
theorem dm_X9_taken_205 : mj_dec prog_11_method_5_code 205 = some (.isub, 1) := by decide +kernel
theorem dm_X9_taken_206 : mj_dec prog_11_method_5_code 206 = some (.iastore, 1) := by decide +kernel
theorem dm_X9_taken_207 : mj_dec prog_11_method_5_code 207 = some (.iinc 4 1, 3) := by decide +kernel
theorem dm_X9_taken_210 : mj_dec prog_11_method_5_code 210 = some (.goto (-74), 3) := by decide +kernel
theorem dm_X9_taken_213 : mj_dec prog_11_method_5_code 213 = some (.aload_n 2, 1) := by decide +kernel
theorem dm_X9_taken_214 : mj_dec prog_11_method_5_code 214 = some (.aload_n 0, 1) := by decide +kernel
theorem dm_X9_taken_215 : mj_dec prog_11_method_5_code 215 = some (.getfield 18, 3) := by decide +kernel
theorem dm_X9_taken_218 : mj_dec prog_11_method_5_code 218 = some (.iload_n 3, 1) := by decide +kernel
theorem dm_X9_taken_219 : mj_dec prog_11_method_5_code 219 = some (.invokevirtual 157, 3) := by decide +kernel
theorem dm_X9_taken_222 : mj_dec prog_11_method_5_code 222 = some (.areturn, 1) := by decide +kernel
theorem t_taken {xt : mj_X} {d e p q : Nat} {A : Nat → Prop} {h : mj_H} {v w : VV} {f1 : Nat → Value} (hx1 : xt 1 = some (.long, 0, f1)) (hd : 12 ≤ d) (hl : 127 ≤ h.length) (hA : okA A h) (hH : actH h) (hv : cv A h (e + 1) p v) (hw : cv A h (e + 1) q w) (he : e ≤ 20) (hset : vsz (e + 1) v ≤ 1000) (hset2 : vsz (e + 1) w ≤ 1000) : pgV xt d 146 [.ref 26, .ref p, .ref q] h (aact A h (e + 1) (d_take v w) 2 (tkb v w)) := by
  obtain ⟨-, -, -, -, -, -, -, -, ⟨ft0, h26⟩, -, -, ⟨pf0, h29⟩, ⟨nf0, h30⟩, ⟨uf0, h31⟩⟩ := id hH
  have hcv := vw1_c hv.1
  have hcw := vw1_c hw.1
  obtain ⟨row, fr, vals, hp, hp2, hpA, hvk, hvm, hvc, hvs, hvl⟩ := cv_val hv
  obtain ⟨row2, fr2, vals2, hq, hq2, hqA, hwk, hwm, hwc, hws, hwl⟩ := cv_val hw
  have hpb := hA p hpA
  have hqb := hA q hqA
  have h0 : (Int64.ofInt 0).toInt = 0 := by decide
  have h120 : (Int64.ofInt 120).toInt = 120 := by decide
  have h120m : (Int64.ofInt (-120)).toInt = -120 := by decide
  have hvn0 : vk v ≤ 1 → vn v 0 = cnum v := fun z => by unfold cnum; rw [if_pos z]
  have htk9 : 9 ≤ tkb v w := by unfold tkb; split <;> omega
  refine x_enter pm_X9_taken (L0 := [(0, .ref 26), (1, .ref p), (2, .ref q)]) rfl (Nat.le_of_ble_eq_true rfl) (by omega) ?_
  have cut124 : (vk v = 0) → (-120 ≤ (vn v 0).toInt ∧ (vn v 0).toInt ≤ 120) → ((vn v 0).toInt = 0 ∨ 0 < vm w) → (¬ ((vn v 0).toInt = 0 ∧ vk w = 6)) → pgE xt (d - 1) 9 5 false (Option.some (Jvm.ClassFile.FieldType.object "ArrayCalculator$Value")) (mj_dec prog_11_method_5_code) 124 [(0, .ref 26), (1, .ref p), (2, .ref q)] [] h (fun r h' => ∃ x, r = some x ∧ aact A h (e + 1) (d_take v w) 2 (tkb v w) x h') := by
    intro hA0 hA1 hA2 hA3
    refine me1 (pc' := 125) (L' := [(0, .ref 26), (1, .ref p), (2, .ref q)]) (S' := [.ref p]) dm_X9_taken_124 rfl rfl rfl rfl ?_
    refine me3 (pc' := 128) (S' := [.long (cnum v)]) dm_X9_taken_125 (g_get (v := .long (cnum v)) hp rfl rfl (by omega)) rfl rfl rfl ?_
    refine y_pr (i := .iadd) (pc' := 131) (S' := [.long (lab (cnum v))]) dm_X9_taken_128 rfl (p_labs rfl) (by omega) rfl ?_
    have hvn : vn v 0 = cnum v := hvn0 (by omega)
    have hvni := congrArg Int64.toInt hvn
    obtain ⟨n, hn⟩ : ∃ n : Nat, (vn v 0).toInt.natAbs = n := ⟨_, rfl⟩
    have hn120 : n ≤ 120 := by omega
    have hnz : n = 0 ∨ 0 < vm w := by omega
    refine y_l2i (a := (n : Int)) dm_X9_taken_131 (pc' := 132) rfl (n_l2i _ (by rw [lab_i _ (by omega) (by omega), ← hvni, hn])) ?_
    refine me1 (pc' := 133) (L' := [(3, ii (n : Int)), (0, .ref 26), (1, .ref p), (2, .ref q)]) (S' := []) dm_X9_taken_132 rfl rfl rfl rfl ?_
    refine me0 (pc' := 134) (S' := [ii 0]) dm_X9_taken_133 rfl rfl rfl rfl ?_
    refine me1 (pc' := 136) (L' := [(4, ii 0), (3, ii (n : Int)), (0, .ref 26), (1, .ref p), (2, .ref q)]) (S' := []) dm_X9_taken_134 rfl rfl rfl rfl ?_
    have lp136 : ∀ (n136 : Nat) (k : Nat) (P : Nat → Int), n - k = n136 → (k ≤ n) → (0 < (vn v 0).toInt → ∀ j, j < k → P j = ((j % vm w : Nat) : Int)) → ((vn v 0).toInt ≤ 0 → ∀ j, n - k ≤ j → j < n → P j = ((vm w - 1 - (n - 1 - j) % vm w : Nat) : Int)) → pgE xt (d - 1) 9 5 false (Option.some (Jvm.ClassFile.FieldType.object "ArrayCalculator$Value")) (mj_dec prog_11_method_5_code) 136 [(0, .ref 26), (1, .ref p), (2, .ref q), (3, ii (n : Int)), (4, ii (k : Int))] [] ((h).set 29 (cI 144 P)) (fun r h' => ∃ x, r = some x ∧ aact A h (e + 1) (d_take v w) 2 (tkb v w) x h') := by
      intro n136
      induction n136 using Nat.strongRecOn with
      | ind n136 ih136 =>
        intro k P hm136 hk hP1 hP2
        refine me1 (pc' := 138) (L' := [(0, .ref 26), (1, .ref p), (2, .ref q), (3, ii (n : Int)), (4, ii (k : Int))]) (S' := [ii (k : Int)]) dm_X9_taken_136 rfl rfl rfl rfl ?_
        refine me1 (pc' := 139) (L' := [(0, .ref 26), (1, .ref p), (2, .ref q), (3, ii (n : Int)), (4, ii (k : Int))]) (S' := [ii (n : Int), ii (k : Int)]) dm_X9_taken_138 rfl rfl rfl rfl ?_
        refine y_2ge (a := (k : Int)) (b := (n : Int)) (t := 213) (pc' := 142) dm_X9_taken_139 rfl rfl (by omega) (fun hb1 => ?_) (fun hb1 => ?_)
        · have hkn : k = n := by omega
          have hPv : ∀ j, j < n → P j = ((tkn (vn v 0).toInt (vm w) j : Nat) : Int) := fun j hj => by unfold tkn; by_cases z : 0 < (vn v 0).toInt; (rw [if_pos z]; exact hP1 z j (by omega)); (rw [if_neg z, hn]; exact hP2 (by omega) j (by omega) hj)
          have htl : ∀ j, j < n → tkn (vn v 0).toInt (vm w) j < vm w := fun j hj => by have hw0 : 0 < vm w := (by omega); unfold tkn; split; exact Nat.mod_lt _ hw0; omega
          have hpk : ∀ j, j < n → -2147483648 ≤ P j ∧ P j ≤ 2147483647 ∧ (vk w ≤ 1 ∨ 0 ≤ P j ∧ P j < vm w) := fun j hj => by have a1 := hPv j hj; have a2 := htl j hj; omega
          refine me1 (pc' := 214) (L' := [(0, .ref 26), (1, .ref p), (2, .ref q), (3, ii (n : Int)), (4, ii (k : Int))]) (S' := [.ref q]) dm_X9_taken_213 rfl rfl rfl rfl ?_
          refine me1 (pc' := 215) (L' := [(0, .ref 26), (1, .ref p), (2, .ref q), (3, ii (n : Int)), (4, ii (k : Int))]) (S' := [.ref 26, .ref q]) dm_X9_taken_214 rfl rfl rfl rfl ?_
          refine me3 (pc' := 218) (S' := [.ref 29, .ref q]) dm_X9_taken_215 (g_get (v := .ref 29) (hl_ne (by decide) h26) rfl rfl (by decide)) rfl rfl rfl ?_
          refine me1 (pc' := 219) (L' := [(0, .ref 26), (1, .ref p), (2, .ref q), (3, ii (n : Int)), (4, ii (k : Int))]) (S' := [ii (n : Int), .ref 29, .ref q]) dm_X9_taken_218 rfl rfl rfl rfl ?_
          have hs1 : scrS h ((h).set 29 (cI 144 P)) := scrS_set (by unfold scr; decide) h29 rfl
          have hA1 := okA_scr hA hs1
          have hl1 : 127 ≤ ((h).set 29 (cI 144 P)).length := by rw [hs1.1]; exact hl
          refine x_cv (pc' := 222) (rest := []) dm_X9_taken_219 rfl (g_inv (As := [.ref 29, ii (n : Int)]) (S := []) (hl_ne (by omega) hq) rfl rfl rfl (by omega)) rfl rfl rfl (c_pick hx1 (by omega) hA1 hl1 (cv_set (nA hA (Or.inl (by decide))) hw) (hl_set (hl_lt h29)) (by decide) (by decide) (by omega) he hset2 (by omega) hpk) ?_
          rintro x h2 hres
          obtain ⟨qr, rfl⟩ := ares_ref hres
          refine y_ret (r := some (.ref qr)) dm_X9_taken_222 rfl rfl rfl ?_
          refine ⟨_, rfl, _, hs1, actH_29 hH _, ?_⟩
          have hds : d_take v w = s_pick w (tkn (vn v 0).toInt (vm w)) n := by unfold d_take; rw [if_neg (by omega), if_neg (by omega), if_neg (by omega), if_neg (by omega), hn]
          rw [hds]
          exact ares_up (ares_congr hres (s_pick_congr (by omega) (fun j hj => by rw [hPv j hj]; rfl))) (by omega) (by unfold tkb; rw [if_neg (by omega), hn, Nat.min_eq_right hn120]; omega)
        · refine me1 (pc' := 143) (L' := [(0, .ref 26), (1, .ref p), (2, .ref q), (3, ii (n : Int)), (4, ii (k : Int))]) (S' := [.ref q]) dm_X9_taken_142 rfl rfl rfl rfl ?_
          refine me3 (pc' := 146) (S' := [ii (vm w : Int)]) dm_X9_taken_143 (g_get (v := ii (vm w : Int)) (hl_ne (by omega) hq) rfl rfl (by omega)) rfl rfl rfl ?_
          refine y_1le (a := (vm w : Int)) (t := 213) (pc' := 149) dm_X9_taken_146 rfl rfl (by omega) (fun hb2 => ?_) (fun hb2 => ?_)
          · exfalso; omega
          · refine me1 (pc' := 150) (L' := [(0, .ref 26), (1, .ref p), (2, .ref q), (3, ii (n : Int)), (4, ii (k : Int))]) (S' := [.ref 26]) dm_X9_taken_149 rfl rfl rfl rfl ?_
            refine me3 (pc' := 153) (S' := [.ref 29]) dm_X9_taken_150 (g_get (v := .ref 29) (hl_ne (by decide) h26) rfl rfl (by decide)) rfl rfl rfl ?_
            refine me1 (pc' := 154) (L' := [(0, .ref 26), (1, .ref p), (2, .ref q), (3, ii (n : Int)), (4, ii (k : Int))]) (S' := [.ref p, .ref 29]) dm_X9_taken_153 rfl rfl rfl rfl ?_
            refine me3 (pc' := 157) (S' := [.long (cnum v), .ref 29]) dm_X9_taken_154 (g_get (v := .long (cnum v)) (hl_ne (by omega) hp) rfl rfl (by omega)) rfl rfl rfl ?_
            refine me0 (pc' := 158) (S' := [.long (Int64.ofInt 0), .long (cnum v), .ref 29]) dm_X9_taken_157 rfl rfl rfl rfl ?_
            refine y_lle (x := cnum v) (y := Int64.ofInt 0) (t := 167) (pc1 := 159) (pc' := 162) dm_X9_taken_158 rfl dm_X9_taken_159 rfl rfl (fun hb3 => ?_) (fun hb3 => ?_)
            · refine me1 (pc' := 168) (L' := [(0, .ref 26), (1, .ref p), (2, .ref q), (3, ii (n : Int)), (4, ii (k : Int))]) (S' := [ii (n : Int), .ref 29]) dm_X9_taken_167 rfl rfl rfl rfl ?_
              refine me0 (pc' := 169) (S' := [ii 1, ii (n : Int), .ref 29]) dm_X9_taken_168 rfl rfl rfl rfl ?_
              refine y_isub (a := (n : Int)) (b := 1) dm_X9_taken_169 (pc' := 170) rfl ?_
              refine me1 (pc' := 172) (L' := [(0, .ref 26), (1, .ref p), (2, .ref q), (3, ii (n : Int)), (4, ii (k : Int))]) (S' := [ii (k : Int), ii ((n : Int) - 1), .ref 29]) dm_X9_taken_170 rfl rfl rfl rfl ?_
              refine y_isub (a := (n : Int) - 1) (b := (k : Int)) dm_X9_taken_172 (pc' := 173) rfl ?_
              refine pg_st0 (S' := [ii ((n - 1 - k : Nat) : Int), .ref 29]) (congrArg (fun z => ii z :: [.ref 29]) (by omega)) ?_
              refine me1 (pc' := 174) (L' := [(0, .ref 26), (1, .ref p), (2, .ref q), (3, ii (n : Int)), (4, ii (k : Int))]) (S' := [.ref p, ii ((n - 1 - k : Nat) : Int), .ref 29]) dm_X9_taken_173 rfl rfl rfl rfl ?_
              refine me3 (pc' := 177) (S' := [.long (cnum v), ii ((n - 1 - k : Nat) : Int), .ref 29]) dm_X9_taken_174 (g_get (v := .long (cnum v)) (hl_ne (by omega) hp) rfl rfl (by omega)) rfl rfl rfl ?_
              refine me0 (pc' := 178) (S' := [.long (Int64.ofInt 0), .long (cnum v), ii ((n - 1 - k : Nat) : Int), .ref 29]) dm_X9_taken_177 rfl rfl rfl rfl ?_
              refine y_lle (x := cnum v) (y := Int64.ofInt 0) (t := 192) (pc1 := 179) (pc' := 182) dm_X9_taken_178 rfl dm_X9_taken_179 rfl rfl (fun hb4 => ?_) (fun hb4 => ?_)
              · refine me1 (pc' := 193) (L' := [(0, .ref 26), (1, .ref p), (2, .ref q), (3, ii (n : Int)), (4, ii (k : Int))]) (S' := [.ref q, ii ((n - 1 - k : Nat) : Int), .ref 29]) dm_X9_taken_192 rfl rfl rfl rfl ?_
                refine me3 (pc' := 196) (S' := [ii (vm w : Int), ii ((n - 1 - k : Nat) : Int), .ref 29]) dm_X9_taken_193 (g_get (v := ii (vm w : Int)) (hl_ne (by omega) hq) rfl rfl (by omega)) rfl rfl rfl ?_
                refine me0 (pc' := 197) (S' := [ii 1, ii (vm w : Int), ii ((n - 1 - k : Nat) : Int), .ref 29]) dm_X9_taken_196 rfl rfl rfl rfl ?_
                refine y_isub (a := (vm w : Int)) (b := 1) dm_X9_taken_197 (pc' := 198) rfl ?_
                refine me1 (pc' := 200) (L' := [(0, .ref 26), (1, .ref p), (2, .ref q), (3, ii (n : Int)), (4, ii (k : Int))]) (S' := [ii (k : Int), ii ((vm w : Int) - 1), ii ((n - 1 - k : Nat) : Int), .ref 29]) dm_X9_taken_198 rfl rfl rfl rfl ?_
                refine me1 (pc' := 201) (L' := [(0, .ref 26), (1, .ref p), (2, .ref q), (3, ii (n : Int)), (4, ii (k : Int))]) (S' := [.ref q, ii (k : Int), ii ((vm w : Int) - 1), ii ((n - 1 - k : Nat) : Int), .ref 29]) dm_X9_taken_200 rfl rfl rfl rfl ?_
                refine me3 (pc' := 204) (S' := [ii (vm w : Int), ii (k : Int), ii ((vm w : Int) - 1), ii ((n - 1 - k : Nat) : Int), .ref 29]) dm_X9_taken_201 (g_get (v := ii (vm w : Int)) (hl_ne (by omega) hq) rfl rfl (by omega)) rfl rfl rfl ?_
                refine y_irem (a := (k : Int)) (b := (vm w : Int)) dm_X9_taken_204 (pc' := 205) rfl (by omega) (by omega) (by omega) (by omega) ?_
                refine pg_st0 (S' := [ii ((k % vm w : Nat) : Int), ii ((vm w : Int) - 1), ii ((n - 1 - k : Nat) : Int), .ref 29]) (congrArg (fun z => ii z :: [ii ((vm w : Int) - 1), ii ((n - 1 - k : Nat) : Int), .ref 29]) ((Int.natCast_emod k (vm w)).symm)) ?_
                refine y_isub (a := (vm w : Int) - 1) (b := ((k % vm w : Nat) : Int)) dm_X9_taken_205 (pc' := 206) rfl ?_
                have hmd : k % vm w < vm w := Nat.mod_lt _ (by omega)
                refine pg_st0 (S' := [ii ((vm w - 1 - k % vm w : Nat) : Int), ii ((n - 1 - k : Nat) : Int), .ref 29]) (congrArg (fun z => ii z :: [ii ((n - 1 - k : Nat) : Int), .ref 29]) (by omega)) ?_
                refine me3 (pc' := 207) (S' := []) (h1 := (h).set 29 (cI 144 (va_up P (n - 1 - k) ((vm w - 1 - k % vm w : Nat) : Int)))) dm_X9_taken_206 (y_hs (yh_iast (j := ((n - 1 - k : Nat) : Int)) (hl_set (hl_lt h29)) (by omega) (by omega) (by omega) (by decide)) (by rw [show ((n - 1 - k : Nat) : Int).toNat = n - 1 - k from rfl]; rw [List.set_set])) rfl rfl rfl ?_
                refine y_iinc (pc' := 210) (L' := [(4, ii ((k : Int) + 1)), (0, .ref 26), (1, .ref p), (2, .ref q), (3, ii (n : Int))]) dm_X9_taken_207 (y_incp (a := (k : Int)) (c := 1) rfl rfl (by decide)) rfl ?_
                refine me2 (pc' := 136) (S' := []) dm_X9_taken_210 rfl rfl rfl ?_
                exact pg_sub (L := [(0, .ref 26), (1, .ref p), (2, .ref q), (3, ii (n : Int)), (4, ii ((k + 1) : Int))]) rfl rfl rfl (ih136 (n - (k + 1)) (by omega) (k + 1) (va_up P (n - 1 - k) ((vm w - 1 - k % vm w : Nat) : Int)) rfl (by omega) (fun z => absurd z (by omega)) (fun _ j h1 h2 => by rw [up_at]; by_cases z : j = n - 1 - k; (subst z; rw [if_pos rfl, show n - 1 - (n - 1 - k) = k by omega]); (rw [if_neg z]; exact hP2 (by omega) j (by omega) h2)))
              · exfalso; omega
            · refine me1 (pc' := 164) (L' := [(0, .ref 26), (1, .ref p), (2, .ref q), (3, ii (n : Int)), (4, ii (k : Int))]) (S' := [ii (k : Int), .ref 29]) dm_X9_taken_162 rfl rfl rfl rfl ?_
              refine me2 (pc' := 173) (S' := [ii (k : Int), .ref 29]) dm_X9_taken_164 rfl rfl rfl ?_
              refine me1 (pc' := 174) (L' := [(0, .ref 26), (1, .ref p), (2, .ref q), (3, ii (n : Int)), (4, ii (k : Int))]) (S' := [.ref p, ii (k : Int), .ref 29]) dm_X9_taken_173 rfl rfl rfl rfl ?_
              refine me3 (pc' := 177) (S' := [.long (cnum v), ii (k : Int), .ref 29]) dm_X9_taken_174 (g_get (v := .long (cnum v)) (hl_ne (by omega) hp) rfl rfl (by omega)) rfl rfl rfl ?_
              refine me0 (pc' := 178) (S' := [.long (Int64.ofInt 0), .long (cnum v), ii (k : Int), .ref 29]) dm_X9_taken_177 rfl rfl rfl rfl ?_
              refine y_lle (x := cnum v) (y := Int64.ofInt 0) (t := 192) (pc1 := 179) (pc' := 182) dm_X9_taken_178 rfl dm_X9_taken_179 rfl rfl (fun hb5 => ?_) (fun hb5 => ?_)
              · exfalso; omega
              · refine me1 (pc' := 184) (L' := [(0, .ref 26), (1, .ref p), (2, .ref q), (3, ii (n : Int)), (4, ii (k : Int))]) (S' := [ii (k : Int), ii (k : Int), .ref 29]) dm_X9_taken_182 rfl rfl rfl rfl ?_
                refine me1 (pc' := 185) (L' := [(0, .ref 26), (1, .ref p), (2, .ref q), (3, ii (n : Int)), (4, ii (k : Int))]) (S' := [.ref q, ii (k : Int), ii (k : Int), .ref 29]) dm_X9_taken_184 rfl rfl rfl rfl ?_
                refine me3 (pc' := 188) (S' := [ii (vm w : Int), ii (k : Int), ii (k : Int), .ref 29]) dm_X9_taken_185 (g_get (v := ii (vm w : Int)) (hl_ne (by omega) hq) rfl rfl (by omega)) rfl rfl rfl ?_
                refine y_irem (a := (k : Int)) (b := (vm w : Int)) dm_X9_taken_188 (pc' := 189) rfl (by omega) (by omega) (by omega) (by omega) ?_
                refine pg_st0 (S' := [ii ((k % vm w : Nat) : Int), ii (k : Int), .ref 29]) (congrArg (fun z => ii z :: [ii (k : Int), .ref 29]) ((Int.natCast_emod k (vm w)).symm)) ?_
                refine me2 (pc' := 206) (S' := [ii ((k % vm w : Nat) : Int), ii (k : Int), .ref 29]) dm_X9_taken_189 rfl rfl rfl ?_
                refine me3 (pc' := 207) (S' := []) (h1 := (h).set 29 (cI 144 (va_up P k ((k % vm w : Nat) : Int)))) dm_X9_taken_206 (y_hs (yh_iast (j := (k : Int)) (hl_set (hl_lt h29)) (by omega) (by omega) (by omega) (by decide)) (by rw [show (k : Int).toNat = k from rfl]; rw [List.set_set])) rfl rfl rfl ?_
                refine y_iinc (pc' := 210) (L' := [(4, ii ((k : Int) + 1)), (0, .ref 26), (1, .ref p), (2, .ref q), (3, ii (n : Int))]) dm_X9_taken_207 (y_incp (a := (k : Int)) (c := 1) rfl rfl (by decide)) rfl ?_
                refine me2 (pc' := 136) (S' := []) dm_X9_taken_210 rfl rfl rfl ?_
                exact pg_sub (L := [(0, .ref 26), (1, .ref p), (2, .ref q), (3, ii (n : Int)), (4, ii ((k + 1) : Int))]) rfl rfl rfl (ih136 (n - (k + 1)) (by omega) (k + 1) (va_up P k ((k % vm w : Nat) : Int)) rfl (by omega) (fun _ j hj => by rw [up_at]; by_cases z : j = k; (subst z; rw [if_pos rfl]); (rw [if_neg z]; exact hP1 (by omega) j (by omega))) (fun z => absurd z (by omega)))
    refine pg_cast (h2 := (h).set 29 (cI 144 pf0)) (hl_self h29).symm ?_
    exact pg_sub (L := [(0, .ref 26), (1, .ref p), (2, .ref q), (3, ii (n : Int)), (4, ii (0 : Int))]) rfl rfl rfl (lp136 _ 0 pf0 rfl (Nat.zero_le _) (fun _ j hj => absurd hj (Nat.not_lt_zero j)) (fun _ j h1 h2 => absurd h2 (by omega)))
  refine me1 (pc' := 1) (L' := [(0, .ref 26), (1, .ref p), (2, .ref q)]) (S' := [.ref p]) dm_X9_taken_0 rfl rfl rfl rfl ?_
  refine x_cp (pc' := 4) (v := zz (decide (2 ≤ vk v ∧ vk v ≤ 5))) (rest := []) dm_X9_taken_1 rfl (g_inv (As := []) (S := []) hp rfl rfl rfl (by omega)) rfl rfl rfl (c_isRow (by omega) hv) ?_
  refine y_zeq (c := decide (2 ≤ vk v ∧ vk v ≤ 5)) (t := 38) (pc' := 7) dm_X9_taken_4 rfl rfl (fun hb6 => ?_) (fun hb6 => ?_)
  · replace hb6 := dF hb6
    refine me1 (pc' := 39) (L' := [(0, .ref 26), (1, .ref p), (2, .ref q)]) (S' := [.ref p]) dm_X9_taken_38 rfl rfl rfl rfl ?_
    refine x_cp (pc' := 42) (v := zz (decide (vk v ≤ 1))) (rest := []) dm_X9_taken_39 rfl (g_inv (As := []) (S := []) hp rfl rfl rfl (by omega)) rfl rfl rfl (c_isOne (by omega) hv) ?_
    refine y_zne (c := decide (vk v ≤ 1)) (t := 50) (pc' := 45) dm_X9_taken_42 rfl rfl (fun hb7 => ?_) (fun hb7 => ?_)
    · replace hb7 := dT hb7
      refine me1 (pc' := 51) (L' := [(0, .ref 26), (1, .ref p), (2, .ref q)]) (S' := [.ref p]) dm_X9_taken_50 rfl rfl rfl rfl ?_
      refine me3 (pc' := 54) (S' := [ii (vk v : Int)]) dm_X9_taken_51 (g_get (v := ii (vk v : Int)) hp rfl rfl (by omega)) rfl rfl rfl ?_
      refine me0 (pc' := 55) (S' := [ii 1, ii (vk v : Int)]) dm_X9_taken_54 rfl rfl rfl rfl ?_
      refine y_2eq (a := (vk v : Int)) (b := 1) (t := 98) (pc' := 58) dm_X9_taken_55 rfl rfl (by omega) (fun hb8 => ?_) (fun hb8 => ?_)
      · refine me0 (pc' := 99) (S' := [ii 5]) dm_X9_taken_98 rfl rfl rfl rfl ?_
        refine x_cv (pc' := 102) (rest := []) dm_X9_taken_99 rfl (g_invs (As := [ii 5]) (S := []) rfl rfl rfl) rfl rfl rfl (c_fault (q := h.length) (by omega) (by omega) rfl (by omega)) ?_
        rintro _ _ ⟨rfl, rfl⟩
        refine y_ret (r := some (.ref h.length)) dm_X9_taken_102 rfl rfl rfl ?_
        exact ⟨_, rfl, h, scrS_rf h, hH, by rw [show d_take v w = .inl 5 by unfold d_take; rw [if_neg (by omega), if_neg (by omega), if_pos (by rw [hvn0 (by omega)]; omega)]]; exact ares_f 5 (by omega) (by omega) (by omega)⟩
      · refine me1 (pc' := 59) (L' := [(0, .ref 26), (1, .ref p), (2, .ref q)]) (S' := [.ref p]) dm_X9_taken_58 rfl rfl rfl rfl ?_
        refine me3 (pc' := 62) (S' := [.long (cnum v)]) dm_X9_taken_59 (g_get (v := .long (cnum v)) hp rfl rfl (by omega)) rfl rfl rfl ?_
        refine me3 (pc' := 65) (S' := [.long (Int64.ofInt (-120)), .long (cnum v)]) dm_X9_taken_62 rfl rfl rfl rfl ?_
        refine y_llt (x := cnum v) (y := Int64.ofInt (-120)) (t := 98) (pc1 := 66) (pc' := 69) dm_X9_taken_65 rfl dm_X9_taken_66 rfl rfl (fun hb9 => ?_) (fun hb9 => ?_)
        · refine me0 (pc' := 99) (S' := [ii 5]) dm_X9_taken_98 rfl rfl rfl rfl ?_
          refine x_cv (pc' := 102) (rest := []) dm_X9_taken_99 rfl (g_invs (As := [ii 5]) (S := []) rfl rfl rfl) rfl rfl rfl (c_fault (q := h.length) (by omega) (by omega) rfl (by omega)) ?_
          rintro _ _ ⟨rfl, rfl⟩
          refine y_ret (r := some (.ref h.length)) dm_X9_taken_102 rfl rfl rfl ?_
          exact ⟨_, rfl, h, scrS_rf h, hH, by rw [show d_take v w = .inl 5 by unfold d_take; rw [if_neg (by omega), if_neg (by omega), if_pos (by rw [hvn0 (by omega)]; omega)]]; exact ares_f 5 (by omega) (by omega) (by omega)⟩
        · refine me1 (pc' := 70) (L' := [(0, .ref 26), (1, .ref p), (2, .ref q)]) (S' := [.ref p]) dm_X9_taken_69 rfl rfl rfl rfl ?_
          refine me3 (pc' := 73) (S' := [.long (cnum v)]) dm_X9_taken_70 (g_get (v := .long (cnum v)) hp rfl rfl (by omega)) rfl rfl rfl ?_
          refine me3 (pc' := 76) (S' := [.long (Int64.ofInt 120), .long (cnum v)]) dm_X9_taken_73 rfl rfl rfl rfl ?_
          refine y_lgt (x := cnum v) (y := Int64.ofInt 120) (t := 98) (pc1 := 77) (pc' := 80) dm_X9_taken_76 rfl dm_X9_taken_77 rfl rfl (fun hb10 => ?_) (fun hb10 => ?_)
          · refine me0 (pc' := 99) (S' := [ii 5]) dm_X9_taken_98 rfl rfl rfl rfl ?_
            refine x_cv (pc' := 102) (rest := []) dm_X9_taken_99 rfl (g_invs (As := [ii 5]) (S := []) rfl rfl rfl) rfl rfl rfl (c_fault (q := h.length) (by omega) (by omega) rfl (by omega)) ?_
            rintro _ _ ⟨rfl, rfl⟩
            refine y_ret (r := some (.ref h.length)) dm_X9_taken_102 rfl rfl rfl ?_
            exact ⟨_, rfl, h, scrS_rf h, hH, by rw [show d_take v w = .inl 5 by unfold d_take; rw [if_neg (by omega), if_neg (by omega), if_pos (by rw [hvn0 (by omega)]; omega)]]; exact ares_f 5 (by omega) (by omega) (by omega)⟩
          · refine me1 (pc' := 81) (L' := [(0, .ref 26), (1, .ref p), (2, .ref q)]) (S' := [.ref p]) dm_X9_taken_80 rfl rfl rfl rfl ?_
            refine me3 (pc' := 84) (S' := [.long (cnum v)]) dm_X9_taken_81 (g_get (v := .long (cnum v)) hp rfl rfl (by omega)) rfl rfl rfl ?_
            refine me0 (pc' := 85) (S' := [.long (Int64.ofInt 0), .long (cnum v)]) dm_X9_taken_84 rfl rfl rfl rfl ?_
            refine y_lne (x := cnum v) (y := Int64.ofInt 0) (t := 103) (pc1 := 86) (pc' := 89) dm_X9_taken_85 rfl dm_X9_taken_86 rfl rfl (fun hb11 => ?_) (fun hb11 => ?_)
            · have hb11i : ¬ (cnum v).toInt = (Int64.ofInt 0).toInt := fun z => hb11 (Int64.toInt_inj.mp z)
              refine me1 (pc' := 104) (L' := [(0, .ref 26), (1, .ref p), (2, .ref q)]) (S' := [.ref p]) dm_X9_taken_103 rfl rfl rfl rfl ?_
              refine me3 (pc' := 107) (S' := [.long (cnum v)]) dm_X9_taken_104 (g_get (v := .long (cnum v)) hp rfl rfl (by omega)) rfl rfl rfl ?_
              refine me0 (pc' := 108) (S' := [.long (Int64.ofInt 0), .long (cnum v)]) dm_X9_taken_107 rfl rfl rfl rfl ?_
              refine y_leq (x := cnum v) (y := Int64.ofInt 0) (t := 124) (pc1 := 109) (pc' := 112) dm_X9_taken_108 rfl dm_X9_taken_109 rfl rfl (fun hb12 => ?_) (fun hb12 => ?_)
              · have hb12i := congrArg Int64.toInt hb12
                exact pg_sub (L := [(0, .ref 26), (1, .ref p), (2, .ref q)]) rfl rfl rfl (cut124 (by omega) (by rw [hvn0 (by omega)]; omega) (by rw [hvn0 (by omega)]; omega) (by rw [hvn0 (by omega)]; omega))
              · have hb12i : ¬ (cnum v).toInt = (Int64.ofInt 0).toInt := fun z => hb12 (Int64.toInt_inj.mp z)
                refine me1 (pc' := 113) (L' := [(0, .ref 26), (1, .ref p), (2, .ref q)]) (S' := [.ref q]) dm_X9_taken_112 rfl rfl rfl rfl ?_
                refine me3 (pc' := 116) (S' := [ii (vm w : Int)]) dm_X9_taken_113 (g_get (v := ii (vm w : Int)) hq rfl rfl (by omega)) rfl rfl rfl ?_
                refine y_1ne (a := (vm w : Int)) (t := 124) (pc' := 119) dm_X9_taken_116 rfl rfl (by omega) (fun hb13 => ?_) (fun hb13 => ?_)
                · exact pg_sub (L := [(0, .ref 26), (1, .ref p), (2, .ref q)]) rfl rfl rfl (cut124 (by omega) (by rw [hvn0 (by omega)]; omega) (by rw [hvn0 (by omega)]; omega) (by rw [hvn0 (by omega)]; omega))
                · refine me0 (pc' := 120) (S' := [ii 4]) dm_X9_taken_119 rfl rfl rfl rfl ?_
                  refine x_cv (pc' := 123) (rest := []) dm_X9_taken_120 rfl (g_invs (As := [ii 4]) (S := []) rfl rfl rfl) rfl rfl rfl (c_fault (q := h.length) (by omega) (by omega) rfl (by omega)) ?_
                  rintro _ _ ⟨rfl, rfl⟩
                  refine y_ret (r := some (.ref h.length)) dm_X9_taken_123 rfl rfl rfl ?_
                  exact ⟨_, rfl, h, scrS_rf h, hH, by rw [show d_take v w = .inl 4 by unfold d_take; rw [if_neg (by omega), if_neg (by omega), if_neg (by rw [hvn0 (by omega)]; omega), if_pos (by rw [hvn0 (by omega)]; omega)]]; exact ares_f 4 (by omega) (by omega) (by omega)⟩
            · have hb11i := congrArg Int64.toInt hb11
              refine me1 (pc' := 90) (L' := [(0, .ref 26), (1, .ref p), (2, .ref q)]) (S' := [.ref q]) dm_X9_taken_89 rfl rfl rfl rfl ?_
              refine me3 (pc' := 93) (S' := [ii (vk w : Int)]) dm_X9_taken_90 (g_get (v := ii (vk w : Int)) hq rfl rfl (by omega)) rfl rfl rfl ?_
              refine me0 (pc' := 95) (S' := [ii 6, ii (vk w : Int)]) dm_X9_taken_93 rfl rfl rfl rfl ?_
              refine y_2ne (a := (vk w : Int)) (b := 6) (t := 103) (pc' := 98) dm_X9_taken_95 rfl rfl (by omega) (fun hb14 => ?_) (fun hb14 => ?_)
              · refine me1 (pc' := 104) (L' := [(0, .ref 26), (1, .ref p), (2, .ref q)]) (S' := [.ref p]) dm_X9_taken_103 rfl rfl rfl rfl ?_
                refine me3 (pc' := 107) (S' := [.long (cnum v)]) dm_X9_taken_104 (g_get (v := .long (cnum v)) hp rfl rfl (by omega)) rfl rfl rfl ?_
                refine me0 (pc' := 108) (S' := [.long (Int64.ofInt 0), .long (cnum v)]) dm_X9_taken_107 rfl rfl rfl rfl ?_
                refine y_leq (x := cnum v) (y := Int64.ofInt 0) (t := 124) (pc1 := 109) (pc' := 112) dm_X9_taken_108 rfl dm_X9_taken_109 rfl rfl (fun hb15 => ?_) (fun hb15 => ?_)
                · have hb15i := congrArg Int64.toInt hb15
                  exact pg_sub (L := [(0, .ref 26), (1, .ref p), (2, .ref q)]) rfl rfl rfl (cut124 (by omega) (by rw [hvn0 (by omega)]; omega) (by rw [hvn0 (by omega)]; omega) (by rw [hvn0 (by omega)]; omega))
                · have hb15i : ¬ (cnum v).toInt = (Int64.ofInt 0).toInt := fun z => hb15 (Int64.toInt_inj.mp z)
                  refine me1 (pc' := 113) (L' := [(0, .ref 26), (1, .ref p), (2, .ref q)]) (S' := [.ref q]) dm_X9_taken_112 rfl rfl rfl rfl ?_
                  refine me3 (pc' := 116) (S' := [ii (vm w : Int)]) dm_X9_taken_113 (g_get (v := ii (vm w : Int)) hq rfl rfl (by omega)) rfl rfl rfl ?_
                  refine y_1ne (a := (vm w : Int)) (t := 124) (pc' := 119) dm_X9_taken_116 rfl rfl (by omega) (fun hb16 => ?_) (fun hb16 => ?_)
                  · exact pg_sub (L := [(0, .ref 26), (1, .ref p), (2, .ref q)]) rfl rfl rfl (cut124 (by omega) (by rw [hvn0 (by omega)]; omega) (by rw [hvn0 (by omega)]; omega) (by rw [hvn0 (by omega)]; omega))
                  · refine me0 (pc' := 120) (S' := [ii 4]) dm_X9_taken_119 rfl rfl rfl rfl ?_
                    refine x_cv (pc' := 123) (rest := []) dm_X9_taken_120 rfl (g_invs (As := [ii 4]) (S := []) rfl rfl rfl) rfl rfl rfl (c_fault (q := h.length) (by omega) (by omega) rfl (by omega)) ?_
                    rintro _ _ ⟨rfl, rfl⟩
                    refine y_ret (r := some (.ref h.length)) dm_X9_taken_123 rfl rfl rfl ?_
                    exact ⟨_, rfl, h, scrS_rf h, hH, by rw [show d_take v w = .inl 4 by unfold d_take; rw [if_neg (by omega), if_neg (by omega), if_neg (by rw [hvn0 (by omega)]; omega), if_pos (by rw [hvn0 (by omega)]; omega)]]; exact ares_f 4 (by omega) (by omega) (by omega)⟩
              · refine me0 (pc' := 99) (S' := [ii 5]) dm_X9_taken_98 rfl rfl rfl rfl ?_
                refine x_cv (pc' := 102) (rest := []) dm_X9_taken_99 rfl (g_invs (As := [ii 5]) (S := []) rfl rfl rfl) rfl rfl rfl (c_fault (q := h.length) (by omega) (by omega) rfl (by omega)) ?_
                rintro _ _ ⟨rfl, rfl⟩
                refine y_ret (r := some (.ref h.length)) dm_X9_taken_102 rfl rfl rfl ?_
                exact ⟨_, rfl, h, scrS_rf h, hH, by rw [show d_take v w = .inl 5 by unfold d_take; rw [if_neg (by omega), if_neg (by omega), if_pos (by rw [hvn0 (by omega)]; omega)]]; exact ares_f 5 (by omega) (by omega) (by omega)⟩
    · replace hb7 := dF hb7
      refine me0 (pc' := 46) (S' := [ii 3]) dm_X9_taken_45 rfl rfl rfl rfl ?_
      refine x_cv (pc' := 49) (rest := []) dm_X9_taken_46 rfl (g_invs (As := [ii 3]) (S := []) rfl rfl rfl) rfl rfl rfl (c_fault (q := h.length) (by omega) (by omega) rfl (by omega)) ?_
      rintro _ _ ⟨rfl, rfl⟩
      refine y_ret (r := some (.ref h.length)) dm_X9_taken_49 rfl rfl rfl ?_
      exact ⟨_, rfl, h, scrS_rf h, hH, by rw [show d_take v w = .inl 3 by unfold d_take; rw [if_neg (by omega), if_pos (by omega)]]; exact ares_f 3 (by omega) (by omega) (by omega)⟩
  · replace hb6 := dT hb6
    refine me1 (pc' := 8) (L' := [(0, .ref 26), (1, .ref p), (2, .ref q)]) (S' := [.ref p]) dm_X9_taken_7 rfl rfl rfl rfl ?_
    refine me3 (pc' := 11) (S' := [ii (vk v : Int)]) dm_X9_taken_8 (g_get (v := ii (vk v : Int)) hp rfl rfl (by omega)) rfl rfl rfl ?_
    refine me0 (pc' := 12) (S' := [ii 3, ii (vk v : Int)]) dm_X9_taken_11 rfl rfl rfl rfl ?_
    refine y_2eq (a := (vk v : Int)) (b := 3) (t := 38) (pc' := 15) dm_X9_taken_12 rfl rfl (by omega) (fun hb17 => ?_) (fun hb17 => ?_)
    · refine me1 (pc' := 39) (L' := [(0, .ref 26), (1, .ref p), (2, .ref q)]) (S' := [.ref p]) dm_X9_taken_38 rfl rfl rfl rfl ?_
      refine x_cp (pc' := 42) (v := zz (decide (vk v ≤ 1))) (rest := []) dm_X9_taken_39 rfl (g_inv (As := []) (S := []) hp rfl rfl rfl (by omega)) rfl rfl rfl (c_isOne (by omega) hv) ?_
      refine y_zne (c := decide (vk v ≤ 1)) (t := 50) (pc' := 45) dm_X9_taken_42 rfl rfl (fun hb18 => ?_) (fun hb18 => ?_)
      · replace hb18 := dT hb18
        refine me1 (pc' := 51) (L' := [(0, .ref 26), (1, .ref p), (2, .ref q)]) (S' := [.ref p]) dm_X9_taken_50 rfl rfl rfl rfl ?_
        refine me3 (pc' := 54) (S' := [ii (vk v : Int)]) dm_X9_taken_51 (g_get (v := ii (vk v : Int)) hp rfl rfl (by omega)) rfl rfl rfl ?_
        refine me0 (pc' := 55) (S' := [ii 1, ii (vk v : Int)]) dm_X9_taken_54 rfl rfl rfl rfl ?_
        refine y_2eq (a := (vk v : Int)) (b := 1) (t := 98) (pc' := 58) dm_X9_taken_55 rfl rfl (by omega) (fun hb19 => ?_) (fun hb19 => ?_)
        · refine me0 (pc' := 99) (S' := [ii 5]) dm_X9_taken_98 rfl rfl rfl rfl ?_
          refine x_cv (pc' := 102) (rest := []) dm_X9_taken_99 rfl (g_invs (As := [ii 5]) (S := []) rfl rfl rfl) rfl rfl rfl (c_fault (q := h.length) (by omega) (by omega) rfl (by omega)) ?_
          rintro _ _ ⟨rfl, rfl⟩
          refine y_ret (r := some (.ref h.length)) dm_X9_taken_102 rfl rfl rfl ?_
          exact ⟨_, rfl, h, scrS_rf h, hH, by rw [show d_take v w = .inl 5 by unfold d_take; rw [if_neg (by omega), if_neg (by omega), if_pos (by rw [hvn0 (by omega)]; omega)]]; exact ares_f 5 (by omega) (by omega) (by omega)⟩
        · refine me1 (pc' := 59) (L' := [(0, .ref 26), (1, .ref p), (2, .ref q)]) (S' := [.ref p]) dm_X9_taken_58 rfl rfl rfl rfl ?_
          refine me3 (pc' := 62) (S' := [.long (cnum v)]) dm_X9_taken_59 (g_get (v := .long (cnum v)) hp rfl rfl (by omega)) rfl rfl rfl ?_
          refine me3 (pc' := 65) (S' := [.long (Int64.ofInt (-120)), .long (cnum v)]) dm_X9_taken_62 rfl rfl rfl rfl ?_
          refine y_llt (x := cnum v) (y := Int64.ofInt (-120)) (t := 98) (pc1 := 66) (pc' := 69) dm_X9_taken_65 rfl dm_X9_taken_66 rfl rfl (fun hb20 => ?_) (fun hb20 => ?_)
          · refine me0 (pc' := 99) (S' := [ii 5]) dm_X9_taken_98 rfl rfl rfl rfl ?_
            refine x_cv (pc' := 102) (rest := []) dm_X9_taken_99 rfl (g_invs (As := [ii 5]) (S := []) rfl rfl rfl) rfl rfl rfl (c_fault (q := h.length) (by omega) (by omega) rfl (by omega)) ?_
            rintro _ _ ⟨rfl, rfl⟩
            refine y_ret (r := some (.ref h.length)) dm_X9_taken_102 rfl rfl rfl ?_
            exact ⟨_, rfl, h, scrS_rf h, hH, by rw [show d_take v w = .inl 5 by unfold d_take; rw [if_neg (by omega), if_neg (by omega), if_pos (by rw [hvn0 (by omega)]; omega)]]; exact ares_f 5 (by omega) (by omega) (by omega)⟩
          · refine me1 (pc' := 70) (L' := [(0, .ref 26), (1, .ref p), (2, .ref q)]) (S' := [.ref p]) dm_X9_taken_69 rfl rfl rfl rfl ?_
            refine me3 (pc' := 73) (S' := [.long (cnum v)]) dm_X9_taken_70 (g_get (v := .long (cnum v)) hp rfl rfl (by omega)) rfl rfl rfl ?_
            refine me3 (pc' := 76) (S' := [.long (Int64.ofInt 120), .long (cnum v)]) dm_X9_taken_73 rfl rfl rfl rfl ?_
            refine y_lgt (x := cnum v) (y := Int64.ofInt 120) (t := 98) (pc1 := 77) (pc' := 80) dm_X9_taken_76 rfl dm_X9_taken_77 rfl rfl (fun hb21 => ?_) (fun hb21 => ?_)
            · refine me0 (pc' := 99) (S' := [ii 5]) dm_X9_taken_98 rfl rfl rfl rfl ?_
              refine x_cv (pc' := 102) (rest := []) dm_X9_taken_99 rfl (g_invs (As := [ii 5]) (S := []) rfl rfl rfl) rfl rfl rfl (c_fault (q := h.length) (by omega) (by omega) rfl (by omega)) ?_
              rintro _ _ ⟨rfl, rfl⟩
              refine y_ret (r := some (.ref h.length)) dm_X9_taken_102 rfl rfl rfl ?_
              exact ⟨_, rfl, h, scrS_rf h, hH, by rw [show d_take v w = .inl 5 by unfold d_take; rw [if_neg (by omega), if_neg (by omega), if_pos (by rw [hvn0 (by omega)]; omega)]]; exact ares_f 5 (by omega) (by omega) (by omega)⟩
            · refine me1 (pc' := 81) (L' := [(0, .ref 26), (1, .ref p), (2, .ref q)]) (S' := [.ref p]) dm_X9_taken_80 rfl rfl rfl rfl ?_
              refine me3 (pc' := 84) (S' := [.long (cnum v)]) dm_X9_taken_81 (g_get (v := .long (cnum v)) hp rfl rfl (by omega)) rfl rfl rfl ?_
              refine me0 (pc' := 85) (S' := [.long (Int64.ofInt 0), .long (cnum v)]) dm_X9_taken_84 rfl rfl rfl rfl ?_
              refine y_lne (x := cnum v) (y := Int64.ofInt 0) (t := 103) (pc1 := 86) (pc' := 89) dm_X9_taken_85 rfl dm_X9_taken_86 rfl rfl (fun hb22 => ?_) (fun hb22 => ?_)
              · have hb22i : ¬ (cnum v).toInt = (Int64.ofInt 0).toInt := fun z => hb22 (Int64.toInt_inj.mp z)
                refine me1 (pc' := 104) (L' := [(0, .ref 26), (1, .ref p), (2, .ref q)]) (S' := [.ref p]) dm_X9_taken_103 rfl rfl rfl rfl ?_
                refine me3 (pc' := 107) (S' := [.long (cnum v)]) dm_X9_taken_104 (g_get (v := .long (cnum v)) hp rfl rfl (by omega)) rfl rfl rfl ?_
                refine me0 (pc' := 108) (S' := [.long (Int64.ofInt 0), .long (cnum v)]) dm_X9_taken_107 rfl rfl rfl rfl ?_
                refine y_leq (x := cnum v) (y := Int64.ofInt 0) (t := 124) (pc1 := 109) (pc' := 112) dm_X9_taken_108 rfl dm_X9_taken_109 rfl rfl (fun hb23 => ?_) (fun hb23 => ?_)
                · have hb23i := congrArg Int64.toInt hb23
                  exact pg_sub (L := [(0, .ref 26), (1, .ref p), (2, .ref q)]) rfl rfl rfl (cut124 (by omega) (by rw [hvn0 (by omega)]; omega) (by rw [hvn0 (by omega)]; omega) (by rw [hvn0 (by omega)]; omega))
                · have hb23i : ¬ (cnum v).toInt = (Int64.ofInt 0).toInt := fun z => hb23 (Int64.toInt_inj.mp z)
                  refine me1 (pc' := 113) (L' := [(0, .ref 26), (1, .ref p), (2, .ref q)]) (S' := [.ref q]) dm_X9_taken_112 rfl rfl rfl rfl ?_
                  refine me3 (pc' := 116) (S' := [ii (vm w : Int)]) dm_X9_taken_113 (g_get (v := ii (vm w : Int)) hq rfl rfl (by omega)) rfl rfl rfl ?_
                  refine y_1ne (a := (vm w : Int)) (t := 124) (pc' := 119) dm_X9_taken_116 rfl rfl (by omega) (fun hb24 => ?_) (fun hb24 => ?_)
                  · exact pg_sub (L := [(0, .ref 26), (1, .ref p), (2, .ref q)]) rfl rfl rfl (cut124 (by omega) (by rw [hvn0 (by omega)]; omega) (by rw [hvn0 (by omega)]; omega) (by rw [hvn0 (by omega)]; omega))
                  · refine me0 (pc' := 120) (S' := [ii 4]) dm_X9_taken_119 rfl rfl rfl rfl ?_
                    refine x_cv (pc' := 123) (rest := []) dm_X9_taken_120 rfl (g_invs (As := [ii 4]) (S := []) rfl rfl rfl) rfl rfl rfl (c_fault (q := h.length) (by omega) (by omega) rfl (by omega)) ?_
                    rintro _ _ ⟨rfl, rfl⟩
                    refine y_ret (r := some (.ref h.length)) dm_X9_taken_123 rfl rfl rfl ?_
                    exact ⟨_, rfl, h, scrS_rf h, hH, by rw [show d_take v w = .inl 4 by unfold d_take; rw [if_neg (by omega), if_neg (by omega), if_neg (by rw [hvn0 (by omega)]; omega), if_pos (by rw [hvn0 (by omega)]; omega)]]; exact ares_f 4 (by omega) (by omega) (by omega)⟩
              · have hb22i := congrArg Int64.toInt hb22
                refine me1 (pc' := 90) (L' := [(0, .ref 26), (1, .ref p), (2, .ref q)]) (S' := [.ref q]) dm_X9_taken_89 rfl rfl rfl rfl ?_
                refine me3 (pc' := 93) (S' := [ii (vk w : Int)]) dm_X9_taken_90 (g_get (v := ii (vk w : Int)) hq rfl rfl (by omega)) rfl rfl rfl ?_
                refine me0 (pc' := 95) (S' := [ii 6, ii (vk w : Int)]) dm_X9_taken_93 rfl rfl rfl rfl ?_
                refine y_2ne (a := (vk w : Int)) (b := 6) (t := 103) (pc' := 98) dm_X9_taken_95 rfl rfl (by omega) (fun hb25 => ?_) (fun hb25 => ?_)
                · refine me1 (pc' := 104) (L' := [(0, .ref 26), (1, .ref p), (2, .ref q)]) (S' := [.ref p]) dm_X9_taken_103 rfl rfl rfl rfl ?_
                  refine me3 (pc' := 107) (S' := [.long (cnum v)]) dm_X9_taken_104 (g_get (v := .long (cnum v)) hp rfl rfl (by omega)) rfl rfl rfl ?_
                  refine me0 (pc' := 108) (S' := [.long (Int64.ofInt 0), .long (cnum v)]) dm_X9_taken_107 rfl rfl rfl rfl ?_
                  refine y_leq (x := cnum v) (y := Int64.ofInt 0) (t := 124) (pc1 := 109) (pc' := 112) dm_X9_taken_108 rfl dm_X9_taken_109 rfl rfl (fun hb26 => ?_) (fun hb26 => ?_)
                  · have hb26i := congrArg Int64.toInt hb26
                    exact pg_sub (L := [(0, .ref 26), (1, .ref p), (2, .ref q)]) rfl rfl rfl (cut124 (by omega) (by rw [hvn0 (by omega)]; omega) (by rw [hvn0 (by omega)]; omega) (by rw [hvn0 (by omega)]; omega))
                  · have hb26i : ¬ (cnum v).toInt = (Int64.ofInt 0).toInt := fun z => hb26 (Int64.toInt_inj.mp z)
                    refine me1 (pc' := 113) (L' := [(0, .ref 26), (1, .ref p), (2, .ref q)]) (S' := [.ref q]) dm_X9_taken_112 rfl rfl rfl rfl ?_
                    refine me3 (pc' := 116) (S' := [ii (vm w : Int)]) dm_X9_taken_113 (g_get (v := ii (vm w : Int)) hq rfl rfl (by omega)) rfl rfl rfl ?_
                    refine y_1ne (a := (vm w : Int)) (t := 124) (pc' := 119) dm_X9_taken_116 rfl rfl (by omega) (fun hb27 => ?_) (fun hb27 => ?_)
                    · exact pg_sub (L := [(0, .ref 26), (1, .ref p), (2, .ref q)]) rfl rfl rfl (cut124 (by omega) (by rw [hvn0 (by omega)]; omega) (by rw [hvn0 (by omega)]; omega) (by rw [hvn0 (by omega)]; omega))
                    · refine me0 (pc' := 120) (S' := [ii 4]) dm_X9_taken_119 rfl rfl rfl rfl ?_
                      refine x_cv (pc' := 123) (rest := []) dm_X9_taken_120 rfl (g_invs (As := [ii 4]) (S := []) rfl rfl rfl) rfl rfl rfl (c_fault (q := h.length) (by omega) (by omega) rfl (by omega)) ?_
                      rintro _ _ ⟨rfl, rfl⟩
                      refine y_ret (r := some (.ref h.length)) dm_X9_taken_123 rfl rfl rfl ?_
                      exact ⟨_, rfl, h, scrS_rf h, hH, by rw [show d_take v w = .inl 4 by unfold d_take; rw [if_neg (by omega), if_neg (by omega), if_neg (by rw [hvn0 (by omega)]; omega), if_pos (by rw [hvn0 (by omega)]; omega)]]; exact ares_f 4 (by omega) (by omega) (by omega)⟩
                · refine me0 (pc' := 99) (S' := [ii 5]) dm_X9_taken_98 rfl rfl rfl rfl ?_
                  refine x_cv (pc' := 102) (rest := []) dm_X9_taken_99 rfl (g_invs (As := [ii 5]) (S := []) rfl rfl rfl) rfl rfl rfl (c_fault (q := h.length) (by omega) (by omega) rfl (by omega)) ?_
                  rintro _ _ ⟨rfl, rfl⟩
                  refine y_ret (r := some (.ref h.length)) dm_X9_taken_102 rfl rfl rfl ?_
                  exact ⟨_, rfl, h, scrS_rf h, hH, by rw [show d_take v w = .inl 5 by unfold d_take; rw [if_neg (by omega), if_neg (by omega), if_pos (by rw [hvn0 (by omega)]; omega)]]; exact ares_f 5 (by omega) (by omega) (by omega)⟩
      · replace hb18 := dF hb18
        refine me0 (pc' := 46) (S' := [ii 3]) dm_X9_taken_45 rfl rfl rfl rfl ?_
        refine x_cv (pc' := 49) (rest := []) dm_X9_taken_46 rfl (g_invs (As := [ii 3]) (S := []) rfl rfl rfl) rfl rfl rfl (c_fault (q := h.length) (by omega) (by omega) rfl (by omega)) ?_
        rintro _ _ ⟨rfl, rfl⟩
        refine y_ret (r := some (.ref h.length)) dm_X9_taken_49 rfl rfl rfl ?_
        exact ⟨_, rfl, h, scrS_rf h, hH, by rw [show d_take v w = .inl 3 by unfold d_take; rw [if_neg (by omega), if_pos (by omega)]]; exact ares_f 3 (by omega) (by omega) (by omega)⟩
    · refine me1 (pc' := 16) (L' := [(0, .ref 26), (1, .ref p), (2, .ref q)]) (S' := [.ref p]) dm_X9_taken_15 rfl rfl rfl rfl ?_
      refine me3 (pc' := 19) (S' := [ii (vm v : Int)]) dm_X9_taken_16 (g_get (v := ii (vm v : Int)) hp rfl rfl (by omega)) rfl rfl rfl ?_
      refine me0 (pc' := 20) (S' := [ii 2, ii (vm v : Int)]) dm_X9_taken_19 rfl rfl rfl rfl ?_
      refine y_2ne (a := (vm v : Int)) (b := 2) (t := 38) (pc' := 23) dm_X9_taken_20 rfl rfl (by omega) (fun hb28 => ?_) (fun hb28 => ?_)
      · refine me1 (pc' := 39) (L' := [(0, .ref 26), (1, .ref p), (2, .ref q)]) (S' := [.ref p]) dm_X9_taken_38 rfl rfl rfl rfl ?_
        refine x_cp (pc' := 42) (v := zz (decide (vk v ≤ 1))) (rest := []) dm_X9_taken_39 rfl (g_inv (As := []) (S := []) hp rfl rfl rfl (by omega)) rfl rfl rfl (c_isOne (by omega) hv) ?_
        refine y_zne (c := decide (vk v ≤ 1)) (t := 50) (pc' := 45) dm_X9_taken_42 rfl rfl (fun hb29 => ?_) (fun hb29 => ?_)
        · replace hb29 := dT hb29
          refine me1 (pc' := 51) (L' := [(0, .ref 26), (1, .ref p), (2, .ref q)]) (S' := [.ref p]) dm_X9_taken_50 rfl rfl rfl rfl ?_
          refine me3 (pc' := 54) (S' := [ii (vk v : Int)]) dm_X9_taken_51 (g_get (v := ii (vk v : Int)) hp rfl rfl (by omega)) rfl rfl rfl ?_
          refine me0 (pc' := 55) (S' := [ii 1, ii (vk v : Int)]) dm_X9_taken_54 rfl rfl rfl rfl ?_
          refine y_2eq (a := (vk v : Int)) (b := 1) (t := 98) (pc' := 58) dm_X9_taken_55 rfl rfl (by omega) (fun hb30 => ?_) (fun hb30 => ?_)
          · refine me0 (pc' := 99) (S' := [ii 5]) dm_X9_taken_98 rfl rfl rfl rfl ?_
            refine x_cv (pc' := 102) (rest := []) dm_X9_taken_99 rfl (g_invs (As := [ii 5]) (S := []) rfl rfl rfl) rfl rfl rfl (c_fault (q := h.length) (by omega) (by omega) rfl (by omega)) ?_
            rintro _ _ ⟨rfl, rfl⟩
            refine y_ret (r := some (.ref h.length)) dm_X9_taken_102 rfl rfl rfl ?_
            exact ⟨_, rfl, h, scrS_rf h, hH, by rw [show d_take v w = .inl 5 by unfold d_take; rw [if_neg (by omega), if_neg (by omega), if_pos (by rw [hvn0 (by omega)]; omega)]]; exact ares_f 5 (by omega) (by omega) (by omega)⟩
          · refine me1 (pc' := 59) (L' := [(0, .ref 26), (1, .ref p), (2, .ref q)]) (S' := [.ref p]) dm_X9_taken_58 rfl rfl rfl rfl ?_
            refine me3 (pc' := 62) (S' := [.long (cnum v)]) dm_X9_taken_59 (g_get (v := .long (cnum v)) hp rfl rfl (by omega)) rfl rfl rfl ?_
            refine me3 (pc' := 65) (S' := [.long (Int64.ofInt (-120)), .long (cnum v)]) dm_X9_taken_62 rfl rfl rfl rfl ?_
            refine y_llt (x := cnum v) (y := Int64.ofInt (-120)) (t := 98) (pc1 := 66) (pc' := 69) dm_X9_taken_65 rfl dm_X9_taken_66 rfl rfl (fun hb31 => ?_) (fun hb31 => ?_)
            · refine me0 (pc' := 99) (S' := [ii 5]) dm_X9_taken_98 rfl rfl rfl rfl ?_
              refine x_cv (pc' := 102) (rest := []) dm_X9_taken_99 rfl (g_invs (As := [ii 5]) (S := []) rfl rfl rfl) rfl rfl rfl (c_fault (q := h.length) (by omega) (by omega) rfl (by omega)) ?_
              rintro _ _ ⟨rfl, rfl⟩
              refine y_ret (r := some (.ref h.length)) dm_X9_taken_102 rfl rfl rfl ?_
              exact ⟨_, rfl, h, scrS_rf h, hH, by rw [show d_take v w = .inl 5 by unfold d_take; rw [if_neg (by omega), if_neg (by omega), if_pos (by rw [hvn0 (by omega)]; omega)]]; exact ares_f 5 (by omega) (by omega) (by omega)⟩
            · refine me1 (pc' := 70) (L' := [(0, .ref 26), (1, .ref p), (2, .ref q)]) (S' := [.ref p]) dm_X9_taken_69 rfl rfl rfl rfl ?_
              refine me3 (pc' := 73) (S' := [.long (cnum v)]) dm_X9_taken_70 (g_get (v := .long (cnum v)) hp rfl rfl (by omega)) rfl rfl rfl ?_
              refine me3 (pc' := 76) (S' := [.long (Int64.ofInt 120), .long (cnum v)]) dm_X9_taken_73 rfl rfl rfl rfl ?_
              refine y_lgt (x := cnum v) (y := Int64.ofInt 120) (t := 98) (pc1 := 77) (pc' := 80) dm_X9_taken_76 rfl dm_X9_taken_77 rfl rfl (fun hb32 => ?_) (fun hb32 => ?_)
              · refine me0 (pc' := 99) (S' := [ii 5]) dm_X9_taken_98 rfl rfl rfl rfl ?_
                refine x_cv (pc' := 102) (rest := []) dm_X9_taken_99 rfl (g_invs (As := [ii 5]) (S := []) rfl rfl rfl) rfl rfl rfl (c_fault (q := h.length) (by omega) (by omega) rfl (by omega)) ?_
                rintro _ _ ⟨rfl, rfl⟩
                refine y_ret (r := some (.ref h.length)) dm_X9_taken_102 rfl rfl rfl ?_
                exact ⟨_, rfl, h, scrS_rf h, hH, by rw [show d_take v w = .inl 5 by unfold d_take; rw [if_neg (by omega), if_neg (by omega), if_pos (by rw [hvn0 (by omega)]; omega)]]; exact ares_f 5 (by omega) (by omega) (by omega)⟩
              · refine me1 (pc' := 81) (L' := [(0, .ref 26), (1, .ref p), (2, .ref q)]) (S' := [.ref p]) dm_X9_taken_80 rfl rfl rfl rfl ?_
                refine me3 (pc' := 84) (S' := [.long (cnum v)]) dm_X9_taken_81 (g_get (v := .long (cnum v)) hp rfl rfl (by omega)) rfl rfl rfl ?_
                refine me0 (pc' := 85) (S' := [.long (Int64.ofInt 0), .long (cnum v)]) dm_X9_taken_84 rfl rfl rfl rfl ?_
                refine y_lne (x := cnum v) (y := Int64.ofInt 0) (t := 103) (pc1 := 86) (pc' := 89) dm_X9_taken_85 rfl dm_X9_taken_86 rfl rfl (fun hb33 => ?_) (fun hb33 => ?_)
                · have hb33i : ¬ (cnum v).toInt = (Int64.ofInt 0).toInt := fun z => hb33 (Int64.toInt_inj.mp z)
                  refine me1 (pc' := 104) (L' := [(0, .ref 26), (1, .ref p), (2, .ref q)]) (S' := [.ref p]) dm_X9_taken_103 rfl rfl rfl rfl ?_
                  refine me3 (pc' := 107) (S' := [.long (cnum v)]) dm_X9_taken_104 (g_get (v := .long (cnum v)) hp rfl rfl (by omega)) rfl rfl rfl ?_
                  refine me0 (pc' := 108) (S' := [.long (Int64.ofInt 0), .long (cnum v)]) dm_X9_taken_107 rfl rfl rfl rfl ?_
                  refine y_leq (x := cnum v) (y := Int64.ofInt 0) (t := 124) (pc1 := 109) (pc' := 112) dm_X9_taken_108 rfl dm_X9_taken_109 rfl rfl (fun hb34 => ?_) (fun hb34 => ?_)
                  · have hb34i := congrArg Int64.toInt hb34
                    exact pg_sub (L := [(0, .ref 26), (1, .ref p), (2, .ref q)]) rfl rfl rfl (cut124 (by omega) (by rw [hvn0 (by omega)]; omega) (by rw [hvn0 (by omega)]; omega) (by rw [hvn0 (by omega)]; omega))
                  · have hb34i : ¬ (cnum v).toInt = (Int64.ofInt 0).toInt := fun z => hb34 (Int64.toInt_inj.mp z)
                    refine me1 (pc' := 113) (L' := [(0, .ref 26), (1, .ref p), (2, .ref q)]) (S' := [.ref q]) dm_X9_taken_112 rfl rfl rfl rfl ?_
                    refine me3 (pc' := 116) (S' := [ii (vm w : Int)]) dm_X9_taken_113 (g_get (v := ii (vm w : Int)) hq rfl rfl (by omega)) rfl rfl rfl ?_
                    refine y_1ne (a := (vm w : Int)) (t := 124) (pc' := 119) dm_X9_taken_116 rfl rfl (by omega) (fun hb35 => ?_) (fun hb35 => ?_)
                    · exact pg_sub (L := [(0, .ref 26), (1, .ref p), (2, .ref q)]) rfl rfl rfl (cut124 (by omega) (by rw [hvn0 (by omega)]; omega) (by rw [hvn0 (by omega)]; omega) (by rw [hvn0 (by omega)]; omega))
                    · refine me0 (pc' := 120) (S' := [ii 4]) dm_X9_taken_119 rfl rfl rfl rfl ?_
                      refine x_cv (pc' := 123) (rest := []) dm_X9_taken_120 rfl (g_invs (As := [ii 4]) (S := []) rfl rfl rfl) rfl rfl rfl (c_fault (q := h.length) (by omega) (by omega) rfl (by omega)) ?_
                      rintro _ _ ⟨rfl, rfl⟩
                      refine y_ret (r := some (.ref h.length)) dm_X9_taken_123 rfl rfl rfl ?_
                      exact ⟨_, rfl, h, scrS_rf h, hH, by rw [show d_take v w = .inl 4 by unfold d_take; rw [if_neg (by omega), if_neg (by omega), if_neg (by rw [hvn0 (by omega)]; omega), if_pos (by rw [hvn0 (by omega)]; omega)]]; exact ares_f 4 (by omega) (by omega) (by omega)⟩
                · have hb33i := congrArg Int64.toInt hb33
                  refine me1 (pc' := 90) (L' := [(0, .ref 26), (1, .ref p), (2, .ref q)]) (S' := [.ref q]) dm_X9_taken_89 rfl rfl rfl rfl ?_
                  refine me3 (pc' := 93) (S' := [ii (vk w : Int)]) dm_X9_taken_90 (g_get (v := ii (vk w : Int)) hq rfl rfl (by omega)) rfl rfl rfl ?_
                  refine me0 (pc' := 95) (S' := [ii 6, ii (vk w : Int)]) dm_X9_taken_93 rfl rfl rfl rfl ?_
                  refine y_2ne (a := (vk w : Int)) (b := 6) (t := 103) (pc' := 98) dm_X9_taken_95 rfl rfl (by omega) (fun hb36 => ?_) (fun hb36 => ?_)
                  · refine me1 (pc' := 104) (L' := [(0, .ref 26), (1, .ref p), (2, .ref q)]) (S' := [.ref p]) dm_X9_taken_103 rfl rfl rfl rfl ?_
                    refine me3 (pc' := 107) (S' := [.long (cnum v)]) dm_X9_taken_104 (g_get (v := .long (cnum v)) hp rfl rfl (by omega)) rfl rfl rfl ?_
                    refine me0 (pc' := 108) (S' := [.long (Int64.ofInt 0), .long (cnum v)]) dm_X9_taken_107 rfl rfl rfl rfl ?_
                    refine y_leq (x := cnum v) (y := Int64.ofInt 0) (t := 124) (pc1 := 109) (pc' := 112) dm_X9_taken_108 rfl dm_X9_taken_109 rfl rfl (fun hb37 => ?_) (fun hb37 => ?_)
                    · have hb37i := congrArg Int64.toInt hb37
                      exact pg_sub (L := [(0, .ref 26), (1, .ref p), (2, .ref q)]) rfl rfl rfl (cut124 (by omega) (by rw [hvn0 (by omega)]; omega) (by rw [hvn0 (by omega)]; omega) (by rw [hvn0 (by omega)]; omega))
                    · have hb37i : ¬ (cnum v).toInt = (Int64.ofInt 0).toInt := fun z => hb37 (Int64.toInt_inj.mp z)
                      refine me1 (pc' := 113) (L' := [(0, .ref 26), (1, .ref p), (2, .ref q)]) (S' := [.ref q]) dm_X9_taken_112 rfl rfl rfl rfl ?_
                      refine me3 (pc' := 116) (S' := [ii (vm w : Int)]) dm_X9_taken_113 (g_get (v := ii (vm w : Int)) hq rfl rfl (by omega)) rfl rfl rfl ?_
                      refine y_1ne (a := (vm w : Int)) (t := 124) (pc' := 119) dm_X9_taken_116 rfl rfl (by omega) (fun hb38 => ?_) (fun hb38 => ?_)
                      · exact pg_sub (L := [(0, .ref 26), (1, .ref p), (2, .ref q)]) rfl rfl rfl (cut124 (by omega) (by rw [hvn0 (by omega)]; omega) (by rw [hvn0 (by omega)]; omega) (by rw [hvn0 (by omega)]; omega))
                      · refine me0 (pc' := 120) (S' := [ii 4]) dm_X9_taken_119 rfl rfl rfl rfl ?_
                        refine x_cv (pc' := 123) (rest := []) dm_X9_taken_120 rfl (g_invs (As := [ii 4]) (S := []) rfl rfl rfl) rfl rfl rfl (c_fault (q := h.length) (by omega) (by omega) rfl (by omega)) ?_
                        rintro _ _ ⟨rfl, rfl⟩
                        refine y_ret (r := some (.ref h.length)) dm_X9_taken_123 rfl rfl rfl ?_
                        exact ⟨_, rfl, h, scrS_rf h, hH, by rw [show d_take v w = .inl 4 by unfold d_take; rw [if_neg (by omega), if_neg (by omega), if_neg (by rw [hvn0 (by omega)]; omega), if_pos (by rw [hvn0 (by omega)]; omega)]]; exact ares_f 4 (by omega) (by omega) (by omega)⟩
                  · refine me0 (pc' := 99) (S' := [ii 5]) dm_X9_taken_98 rfl rfl rfl rfl ?_
                    refine x_cv (pc' := 102) (rest := []) dm_X9_taken_99 rfl (g_invs (As := [ii 5]) (S := []) rfl rfl rfl) rfl rfl rfl (c_fault (q := h.length) (by omega) (by omega) rfl (by omega)) ?_
                    rintro _ _ ⟨rfl, rfl⟩
                    refine y_ret (r := some (.ref h.length)) dm_X9_taken_102 rfl rfl rfl ?_
                    exact ⟨_, rfl, h, scrS_rf h, hH, by rw [show d_take v w = .inl 5 by unfold d_take; rw [if_neg (by omega), if_neg (by omega), if_pos (by rw [hvn0 (by omega)]; omega)]]; exact ares_f 5 (by omega) (by omega) (by omega)⟩
        · replace hb29 := dF hb29
          refine me0 (pc' := 46) (S' := [ii 3]) dm_X9_taken_45 rfl rfl rfl rfl ?_
          refine x_cv (pc' := 49) (rest := []) dm_X9_taken_46 rfl (g_invs (As := [ii 3]) (S := []) rfl rfl rfl) rfl rfl rfl (c_fault (q := h.length) (by omega) (by omega) rfl (by omega)) ?_
          rintro _ _ ⟨rfl, rfl⟩
          refine y_ret (r := some (.ref h.length)) dm_X9_taken_49 rfl rfl rfl ?_
          exact ⟨_, rfl, h, scrS_rf h, hH, by rw [show d_take v w = .inl 3 by unfold d_take; rw [if_neg (by omega), if_pos (by omega)]]; exact ares_f 3 (by omega) (by omega) (by omega)⟩
      · refine me1 (pc' := 24) (L' := [(0, .ref 26), (1, .ref p), (2, .ref q)]) (S' := [.ref p]) dm_X9_taken_23 rfl rfl rfl rfl ?_
        refine me0 (pc' := 25) (S' := [ii 0, .ref p]) dm_X9_taken_24 rfl rfl rfl rfl ?_
        refine x_cp (pc' := 28) (v := .long (vn v 0)) (rest := []) dm_X9_taken_25 rfl (g_inv (As := [ii 0]) (S := []) hp rfl rfl rfl (by omega)) rfl rfl rfl ((show pgP xt (d - 1) _ _ _ (.long (vn v 0)) from vnum_nq (k := 0) hv.1 (by omega) (by have hq9 : vq v = vm v := (by unfold vq; rw [if_neg (by omega), if_neg (by omega)]); omega) ▸ c_numberAt (i := ((0 : Nat) : Int)) hx1 (by omega) hv (by omega))) ?_
        refine me1 (pc' := 29) (L' := [(0, .ref 26), (1, .ref p), (2, .ref q)]) (S' := [.ref p, .long (vn v 0)]) dm_X9_taken_28 rfl rfl rfl rfl ?_
        refine me0 (pc' := 30) (S' := [ii 1, .ref p, .long (vn v 0)]) dm_X9_taken_29 rfl rfl rfl rfl ?_
        refine x_cp (pc' := 33) (v := .long (vn v 1)) (rest := [.long (vn v 0)]) dm_X9_taken_30 rfl (g_inv (As := [ii 1]) (S := [.long (vn v 0)]) hp rfl rfl rfl (by omega)) rfl rfl rfl ((show pgP xt (d - 1) _ _ _ (.long (vn v 1)) from vnum_nq (k := 1) hv.1 (by omega) (by have hq9 : vq v = vm v := (by unfold vq; rw [if_neg (by omega), if_neg (by omega)]); omega) ▸ c_numberAt (i := ((1 : Nat) : Int)) hx1 (by omega) hv (by omega))) ?_
        refine me1 (pc' := 34) (L' := [(0, .ref 26), (1, .ref p), (2, .ref q)]) (S' := [.ref q, .long (vn v 1), .long (vn v 0)]) dm_X9_taken_33 rfl rfl rfl rfl ?_
        refine x_cv (pc' := 37) (rest := []) dm_X9_taken_34 rfl (g_invs (As := [.long (vn v 0), .long (vn v 1), .ref q]) (S := []) rfl rfl rfl) rfl rfl rfl (t_tableTaken (x := vn v 0) (y := vn v 1) hx1 (by omega) hl hw) ?_
        rintro x h2 hres
        obtain ⟨qr, rfl⟩ := ares_ref hres
        refine y_ret (r := some (.ref qr)) dm_X9_taken_37 rfl rfl rfl ?_
        refine ⟨_, rfl, h, scrS_rf h, hH, ?_⟩
        rw [show d_take v w = d_lay (vn v 0) (vn v 1) w by unfold d_take; rw [if_pos (by omega)]]
        exact ares_up hres (by omega) (by unfold tkb; rw [if_pos (by omega)]; omega)
