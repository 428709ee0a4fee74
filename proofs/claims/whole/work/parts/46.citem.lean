theorem cv_val {A : Nat → Prop} {h : mj_H} {e p : Nat} {v : VV} (hv : cv A h (e + 1) p v) : ∃ (row fr : Nat) (vals : Value), h[p]? = some (cO 10 [ii (vk v : Int), .long (cnum v), .ref row, vals, ii (fr : Int), ii (vm v : Int), ii (vc v : Int), ii (vsz (e + 1) v : Int), ii (vlv (e + 1) v : Int)]) ∧ 2 ≤ p ∧ A p ∧ vk v ≤ 7 ∧ vm v ≤ 120 ∧ vc v ≤ 12 ∧ vsz (e + 1) v ≤ 30000 ∧ vlv (e + 1) v ≤ 30 := by
  obtain ⟨hw, ⟨hp2, hpA⟩, hsz, hlv, row, fr, vals, hp, hfr, h1, h3, h7⟩ := hv
  have := vw1_m hw
  exact ⟨row, fr, vals, hp, hp2, hpA, this.2.2, this.1, this.2.1, hsz, hlv⟩
theorem mulb {a b : Nat} (x y : Nat) (h1 : a ≤ x) (h2 : b ≤ y) : 0 ≤ (a : Int) * (b : Int) ∧ (a : Int) * (b : Int) ≤ ((x * y : Nat) : Int) := by
  have := Nat.mul_le_mul h1 h2
  rw [← Int.natCast_mul]
  omega
set_option maxRecDepth 20000 in
theorem pm_X10_itemAt : mj_mmof pg_ms 76 = some ((⟨"ArrayCalculator$Value", "itemAt", "(I)LArrayCalculator$Value;"⟩, prog_12_method_20_code, 2, (Option.some (Jvm.ClassFile.FieldType.object "ArrayCalculator$Value"))), 10, false, mj_dec prog_12_method_20_code) := rfl
theorem dm_X10_itemAt_0 : mj_dec prog_12_method_20_code 0 = some (.aload_n 0, 1) := by decide +kernel
theorem dm_X10_itemAt_1 : mj_dec prog_12_method_20_code 1 = some (.getfield 9, 3) := by decide +kernel
theorem dm_X10_itemAt_4 : mj_dec prog_12_method_20_code 4 = some (.bipush 7, 2) := by decide +kernel
theorem dm_X10_itemAt_6 : mj_dec prog_12_method_20_code 6 = some (.if_icmp .ne 9, 3) := by decide +kernel
theorem dm_X10_itemAt_9 : mj_dec prog_12_method_20_code 9 = some (.aload_n 0, 1) := by decide +kernel
theorem dm_X10_itemAt_10 : mj_dec prog_12_method_20_code 10 = some (.iload_n 1, 1) := by decide +kernel
theorem dm_X10_itemAt_11 : mj_dec prog_12_method_20_code 11 = some (.invokevirtual 65, 3) := by decide +kernel
theorem dm_X10_itemAt_14 : mj_dec prog_12_method_20_code 14 = some (.areturn, 1) := by decide +kernel
theorem dm_X10_itemAt_15 : mj_dec prog_12_method_20_code 15 = some (.aload_n 0, 1) := by decide +kernel
theorem dm_X10_itemAt_16 : mj_dec prog_12_method_20_code 16 = some (.invokevirtual 69, 3) := by decide +kernel
theorem dm_X10_itemAt_19 : mj_dec prog_12_method_20_code 19 = some (.ifCond .ne 15, 3) := by decide +kernel
theorem dm_X10_itemAt_22 : mj_dec prog_12_method_20_code 22 = some (.iload_n 1, 1) := by decide +kernel
theorem dm_X10_itemAt_23 : mj_dec prog_12_method_20_code 23 = some (.ifCond .lt 11, 3) := by decide +kernel
theorem dm_X10_itemAt_26 : mj_dec prog_12_method_20_code 26 = some (.iload_n 1, 1) := by decide +kernel
theorem dm_X10_itemAt_27 : mj_dec prog_12_method_20_code 27 = some (.aload_n 0, 1) := by decide +kernel
theorem dm_X10_itemAt_28 : mj_dec prog_12_method_20_code 28 = some (.getfield 30, 3) := by decide +kernel
theorem dm_X10_itemAt_31 : mj_dec prog_12_method_20_code 31 = some (.if_icmp .lt 5, 3) := by decide +kernel
theorem dm_X10_itemAt_34 : mj_dec prog_12_method_20_code 34 = some (.aload_n 0, 1) := by decide +kernel
theorem dm_X10_itemAt_35 : mj_dec prog_12_method_20_code 35 = some (.areturn, 1) := by decide +kernel
theorem dm_X10_itemAt_36 : mj_dec prog_12_method_20_code 36 = some (.aload_n 0, 1) := by decide +kernel
theorem dm_X10_itemAt_37 : mj_dec prog_12_method_20_code 37 = some (.getfield 9, 3) := by decide +kernel
theorem dm_X10_itemAt_40 : mj_dec prog_12_method_20_code 40 = some (.bipush 6, 2) := by decide +kernel
theorem dm_X10_itemAt_42 : mj_dec prog_12_method_20_code 42 = some (.if_icmp .ne 33, 3) := by decide +kernel
theorem dm_X10_itemAt_45 : mj_dec prog_12_method_20_code 45 = some (.new 10, 3) := by decide +kernel
theorem dm_X10_itemAt_48 : mj_dec prog_12_method_20_code 48 = some (.dup, 1) := by decide +kernel
theorem dm_X10_itemAt_49 : mj_dec prog_12_method_20_code 49 = some (.iconst 4, 1) := by decide +kernel
theorem dm_X10_itemAt_50 : mj_dec prog_12_method_20_code 50 = some (.lconst 0, 1) := by decide +kernel
theorem dm_X10_itemAt_51 : mj_dec prog_12_method_20_code 51 = some (.aload_n 0, 1) := by decide +kernel
theorem dm_X10_itemAt_52 : mj_dec prog_12_method_20_code 52 = some (.getfield 19, 3) := by decide +kernel
theorem dm_X10_itemAt_55 : mj_dec prog_12_method_20_code 55 = some (.aload_n 0, 1) := by decide +kernel
theorem dm_X10_itemAt_56 : mj_dec prog_12_method_20_code 56 = some (.getfield 27, 3) := by decide +kernel
theorem dm_X10_itemAt_59 : mj_dec prog_12_method_20_code 59 = some (.iload_n 1, 1) := by decide +kernel
theorem dm_X10_itemAt_60 : mj_dec prog_12_method_20_code 60 = some (.aload_n 0, 1) := by decide +kernel
theorem dm_X10_itemAt_61 : mj_dec prog_12_method_20_code 61 = some (.getfield 33, 3) := by decide +kernel
theorem dm_X10_itemAt_64 : mj_dec prog_12_method_20_code 64 = some (.imul, 1) := by decide +kernel
theorem dm_X10_itemAt_65 : mj_dec prog_12_method_20_code 65 = some (.iadd, 1) := by decide +kernel
theorem dm_X10_itemAt_66 : mj_dec prog_12_method_20_code 66 = some (.aload_n 0, 1) := by decide +kernel
theorem dm_X10_itemAt_67 : mj_dec prog_12_method_20_code 67 = some (.getfield 33, 3) := by decide +kernel
theorem dm_X10_itemAt_70 : mj_dec prog_12_method_20_code 70 = some (.iconst 0, 1) := by decide +kernel
theorem dm_X10_itemAt_71 : mj_dec prog_12_method_20_code 71 = some (.invokespecial 45, 3) := by decide +kernel
theorem dm_X10_itemAt_74 : mj_dec prog_12_method_20_code 74 = some (.areturn, 1) := by decide +kernel
theorem dm_X10_itemAt_75 : mj_dec prog_12_method_20_code 75 = some (.new 10, 3) := by decide +kernel
theorem dm_X10_itemAt_78 : mj_dec prog_12_method_20_code 78 = some (.dup, 1) := by decide +kernel
theorem dm_X10_itemAt_79 : mj_dec prog_12_method_20_code 79 = some (.aload_n 0, 1) := by decide +kernel
theorem dm_X10_itemAt_80 : mj_dec prog_12_method_20_code 80 = some (.getfield 9, 3) := by decide +kernel
theorem dm_X10_itemAt_83 : mj_dec prog_12_method_20_code 83 = some (.iconst 3, 1) := by decide +kernel
theorem dm_X10_itemAt_84 : mj_dec prog_12_method_20_code 84 = some (.if_icmp .ne 7, 3) := by decide +kernel
theorem dm_X10_itemAt_87 : mj_dec prog_12_method_20_code 87 = some (.iconst 1, 1) := by decide +kernel
theorem dm_X10_itemAt_88 : mj_dec prog_12_method_20_code 88 = some (.goto 4, 3) := by decide +kernel
theorem dm_X10_itemAt_91 : mj_dec prog_12_method_20_code 91 = some (.iconst 0, 1) := by decide +kernel
theorem dm_X10_itemAt_92 : mj_dec prog_12_method_20_code 92 = some (.aload_n 0, 1) := by decide +kernel
theorem dm_X10_itemAt_93 : mj_dec prog_12_method_20_code 93 = some (.iload_n 1, 1) := by decide +kernel
theorem dm_X10_itemAt_94 : mj_dec prog_12_method_20_code 94 = some (.invokevirtual 72, 3) := by decide +kernel
theorem dm_X10_itemAt_97 : mj_dec prog_12_method_20_code 97 = some (.getstatic 42, 3) := by decide +kernel
theorem dm_X10_itemAt_100 : mj_dec prog_12_method_20_code 100 = some (.iconst 0, 1) := by decide +kernel
theorem dm_X10_itemAt_101 : mj_dec prog_12_method_20_code 101 = some (.iconst 1, 1) := by decide +kernel
theorem dm_X10_itemAt_102 : mj_dec prog_12_method_20_code 102 = some (.iconst 0, 1) := by decide +kernel
theorem dm_X10_itemAt_103 : mj_dec prog_12_method_20_code 103 = some (.invokespecial 45, 3) := by decide +kernel
theorem dm_X10_itemAt_106 : mj_dec prog_12_method_20_code 106 = some (.areturn, 1) := by decide +kernel
theorem c_itemAt {xt : mj_X} {d e p : Nat} {A : Nat → Prop} {h : mj_H} {v : VV} {i : Nat} {f1 : Nat → Value} (hx1 : xt 1 = some (.long, 0, f1)) (hd : 4 ≤ d) (hl : 127 ≤ h.length) (hv : cv A h (e + 1) p v) (hi : vk v ≤ 1 ∨ i < vm v) (hi2 : i ≤ 100000) : pgV xt d 76 [.ref p, ii (i : Int)] h (vres A h (e + 1) (vit v i) 1 9) := by
  have hw := hv.1
  have hsz := hv.2.2.1
  obtain ⟨row, fr, n, vals, f, hp, ⟨hp2, hpA⟩, hfr, hn, hrow, hF, hN⟩ := cv_row hv
  have hm := vw1_m hw
  have hmb := mulb 100000 12 hi2 hm.2.1
  refine x_enter pm_X10_itemAt (L0 := [(0, .ref p), (1, ii (i : Int))]) rfl (Nat.le_of_ble_eq_true rfl) (by omega) ?_
  refine me1 (pc' := 1) (L' := [(0, .ref p), (1, ii (i : Int))]) (S' := [.ref p]) dm_X10_itemAt_0 rfl rfl rfl rfl ?_
  refine me3 (pc' := 4) (S' := [ii (vk v : Int)]) dm_X10_itemAt_1 (g_get (v := ii (vk v : Int)) hp rfl rfl (by omega)) rfl rfl rfl ?_
  refine me0 (pc' := 6) (S' := [ii 7, ii (vk v : Int)]) dm_X10_itemAt_4 rfl rfl rfl rfl ?_
  refine y_2ne (a := (vk v : Int)) (b := 7) (t := 15) (pc' := 9) dm_X10_itemAt_6 rfl rfl (by omega) (fun hb1 => ?_) (fun hb1 => ?_)
  · refine me1 (pc' := 16) (L' := [(0, .ref p), (1, ii (i : Int))]) (S' := [.ref p]) dm_X10_itemAt_15 rfl rfl rfl rfl ?_
    refine x_cp (pc' := 19) (v := zz (decide (vk v ≤ 1))) (rest := []) dm_X10_itemAt_16 rfl (g_inv (As := []) (S := []) hp rfl rfl rfl (by omega)) rfl rfl rfl (c_isOne (by omega) hv) ?_
    refine y_zne (c := decide (vk v ≤ 1)) (t := 34) (pc' := 22) dm_X10_itemAt_19 rfl rfl (fun hb2 => ?_) (fun hb2 => ?_)
    · replace hb2 := dT hb2
      refine me1 (pc' := 35) (L' := [(0, .ref p), (1, ii (i : Int))]) (S' := [.ref p]) dm_X10_itemAt_34 rfl rfl rfl rfl ?_
      refine y_ret (r := some (.ref p)) dm_X10_itemAt_35 rfl rfl rfl ?_
      rw [vit_1 (by omega)]
      exact ⟨_, rfl, vres_same hv⟩
    · replace hb2 := dF hb2
      refine me1 (pc' := 23) (L' := [(0, .ref p), (1, ii (i : Int))]) (S' := [ii (i : Int)]) dm_X10_itemAt_22 rfl rfl rfl rfl ?_
      refine y_1lt (a := (i : Int)) (t := 34) (pc' := 26) dm_X10_itemAt_23 rfl rfl (by omega) (fun hb3 => ?_) (fun hb3 => ?_)
      · refine me1 (pc' := 35) (L' := [(0, .ref p), (1, ii (i : Int))]) (S' := [.ref p]) dm_X10_itemAt_34 rfl rfl rfl rfl ?_
        refine y_ret (r := some (.ref p)) dm_X10_itemAt_35 rfl rfl rfl ?_
        rw [vit_1 (by omega)]
        exact ⟨_, rfl, vres_same hv⟩
      · refine me1 (pc' := 27) (L' := [(0, .ref p), (1, ii (i : Int))]) (S' := [ii (i : Int)]) dm_X10_itemAt_26 rfl rfl rfl rfl ?_
        refine me1 (pc' := 28) (L' := [(0, .ref p), (1, ii (i : Int))]) (S' := [.ref p, ii (i : Int)]) dm_X10_itemAt_27 rfl rfl rfl rfl ?_
        refine me3 (pc' := 31) (S' := [ii (vm v : Int), ii (i : Int)]) dm_X10_itemAt_28 (g_get (v := ii (vm v : Int)) hp rfl rfl (by omega)) rfl rfl rfl ?_
        refine y_2lt (a := (i : Int)) (b := (vm v : Int)) (t := 36) (pc' := 34) dm_X10_itemAt_31 rfl rfl (by omega) (fun hb4 => ?_) (fun hb4 => ?_)
        · refine me1 (pc' := 37) (L' := [(0, .ref p), (1, ii (i : Int))]) (S' := [.ref p]) dm_X10_itemAt_36 rfl rfl rfl rfl ?_
          refine me3 (pc' := 40) (S' := [ii (vk v : Int)]) dm_X10_itemAt_37 (g_get (v := ii (vk v : Int)) hp rfl rfl (by omega)) rfl rfl rfl ?_
          refine me0 (pc' := 42) (S' := [ii 6, ii (vk v : Int)]) dm_X10_itemAt_40 rfl rfl rfl rfl ?_
          refine y_2ne (a := (vk v : Int)) (b := 6) (t := 75) (pc' := 45) dm_X10_itemAt_42 rfl rfl (by omega) (fun hb5 => ?_) (fun hb5 => ?_)
          · refine me3 (pc' := 78) (S' := [.ref h.length]) (h1 := h ++ [cO 10 [ii 0, .long (Int64.ofInt 0), .null, .null, ii 0, ii 0, ii 0, ii 0, ii 0]]) dm_X10_itemAt_75 (g_nw rfl rfl rfl) rfl rfl rfl ?_
            refine me0 (pc' := 79) (S' := [.ref h.length, .ref h.length]) dm_X10_itemAt_78 rfl rfl rfl rfl ?_
            refine me1 (pc' := 80) (L' := [(0, .ref p), (1, ii (i : Int))]) (S' := [.ref p, .ref h.length, .ref h.length]) dm_X10_itemAt_79 rfl rfl rfl rfl ?_
            refine me3 (pc' := 83) (S' := [ii (vk v : Int), .ref h.length, .ref h.length]) dm_X10_itemAt_80 (g_get (v := ii (vk v : Int)) (hl_app hp) rfl rfl (by omega)) rfl rfl rfl ?_
            refine me0 (pc' := 84) (S' := [ii 3, ii (vk v : Int), .ref h.length, .ref h.length]) dm_X10_itemAt_83 rfl rfl rfl rfl ?_
            refine y_2ne (a := (vk v : Int)) (b := 3) (t := 91) (pc' := 87) dm_X10_itemAt_84 rfl rfl (by omega) (fun hb6 => ?_) (fun hb6 => ?_)
            · refine me0 (pc' := 92) (S' := [ii 0, .ref h.length, .ref h.length]) dm_X10_itemAt_91 rfl rfl rfl rfl ?_
              refine me1 (pc' := 93) (L' := [(0, .ref p), (1, ii (i : Int))]) (S' := [.ref p, ii 0, .ref h.length, .ref h.length]) dm_X10_itemAt_92 rfl rfl rfl rfl ?_
              refine me1 (pc' := 94) (L' := [(0, .ref p), (1, ii (i : Int))]) (S' := [ii (i : Int), .ref p, ii 0, .ref h.length, .ref h.length]) dm_X10_itemAt_93 rfl rfl rfl rfl ?_
              refine x_cp (pc' := 97) (v := .long (vnum v (i : Int))) (rest := [ii 0, .ref h.length, .ref h.length]) dm_X10_itemAt_94 rfl (g_inv (As := [ii (i : Int)]) (S := [ii 0, .ref h.length, .ref h.length]) (hl_app hp) rfl rfl rfl (by omega)) rfl rfl rfl (c_numberAt (i := (i : Int)) hx1 (by omega) (cv_app hv) (by omega)) ?_
              refine me3 (pc' := 100) (S' := [.ref 1, .long (vnum v (i : Int)), ii 0, .ref h.length, .ref h.length]) dm_X10_itemAt_97 rfl rfl rfl rfl ?_
              refine me0 (pc' := 101) (S' := [ii 0, .ref 1, .long (vnum v (i : Int)), ii 0, .ref h.length, .ref h.length]) dm_X10_itemAt_100 rfl rfl rfl rfl ?_
              refine me0 (pc' := 102) (S' := [ii 1, ii 0, .ref 1, .long (vnum v (i : Int)), ii 0, .ref h.length, .ref h.length]) dm_X10_itemAt_101 rfl rfl rfl rfl ?_
              refine me0 (pc' := 103) (S' := [ii 0, ii 1, ii 0, .ref 1, .long (vnum v (i : Int)), ii 0, .ref h.length, .ref h.length]) dm_X10_itemAt_102 rfl rfl rfl rfl ?_
              refine x_cn (pc' := 106) (rest := [.ref h.length]) dm_X10_itemAt_103 rfl (g_invp (As := [ii 0, .long (vnum v (i : Int)), .ref 1, ii 0, ii 1, ii 0]) (S := [.ref h.length]) rfl rfl rfl) rfl rfl rfl (c_newV (by omega) hl_new (by omega) (by omega) (by omega) (by omega) (by omega) (hl_setl)) ?_
              rintro _ rfl
              refine y_ret (r := some (.ref h.length)) dm_X10_itemAt_106 rfl rfl rfl ?_
              rw [vit_r (by omega) (by omega), if_neg (by omega)]
              refine ⟨_, rfl, ?_⟩
              rw [vnum_r (by omega) (by omega) (by unfold vq; rw [if_neg (by omega), if_neg (by omega)]; omega), show (i : Int).toNat = i from rfl]
              exact vres_one (k := 0) (by omega) (by omega) (by omega) (by omega)
            · refine me0 (pc' := 88) (S' := [ii 1, .ref h.length, .ref h.length]) dm_X10_itemAt_87 rfl rfl rfl rfl ?_
              refine me2 (pc' := 92) (S' := [ii 1, .ref h.length, .ref h.length]) dm_X10_itemAt_88 rfl rfl rfl ?_
              refine me1 (pc' := 93) (L' := [(0, .ref p), (1, ii (i : Int))]) (S' := [.ref p, ii 1, .ref h.length, .ref h.length]) dm_X10_itemAt_92 rfl rfl rfl rfl ?_
              refine me1 (pc' := 94) (L' := [(0, .ref p), (1, ii (i : Int))]) (S' := [ii (i : Int), .ref p, ii 1, .ref h.length, .ref h.length]) dm_X10_itemAt_93 rfl rfl rfl rfl ?_
              refine x_cp (pc' := 97) (v := .long (vnum v (i : Int))) (rest := [ii 1, .ref h.length, .ref h.length]) dm_X10_itemAt_94 rfl (g_inv (As := [ii (i : Int)]) (S := [ii 1, .ref h.length, .ref h.length]) (hl_app hp) rfl rfl rfl (by omega)) rfl rfl rfl (c_numberAt (i := (i : Int)) hx1 (by omega) (cv_app hv) (by omega)) ?_
              refine me3 (pc' := 100) (S' := [.ref 1, .long (vnum v (i : Int)), ii 1, .ref h.length, .ref h.length]) dm_X10_itemAt_97 rfl rfl rfl rfl ?_
              refine me0 (pc' := 101) (S' := [ii 0, .ref 1, .long (vnum v (i : Int)), ii 1, .ref h.length, .ref h.length]) dm_X10_itemAt_100 rfl rfl rfl rfl ?_
              refine me0 (pc' := 102) (S' := [ii 1, ii 0, .ref 1, .long (vnum v (i : Int)), ii 1, .ref h.length, .ref h.length]) dm_X10_itemAt_101 rfl rfl rfl rfl ?_
              refine me0 (pc' := 103) (S' := [ii 0, ii 1, ii 0, .ref 1, .long (vnum v (i : Int)), ii 1, .ref h.length, .ref h.length]) dm_X10_itemAt_102 rfl rfl rfl rfl ?_
              refine x_cn (pc' := 106) (rest := [.ref h.length]) dm_X10_itemAt_103 rfl (g_invp (As := [ii 1, .long (vnum v (i : Int)), .ref 1, ii 0, ii 1, ii 0]) (S := [.ref h.length]) rfl rfl rfl) rfl rfl rfl (c_newV (by omega) hl_new (by omega) (by omega) (by omega) (by omega) (by omega) (hl_setl)) ?_
              rintro _ rfl
              refine y_ret (r := some (.ref h.length)) dm_X10_itemAt_106 rfl rfl rfl ?_
              rw [vit_r (by omega) (by omega), if_pos (by omega)]
              refine ⟨_, rfl, ?_⟩
              rw [vnum_r (by omega) (by omega) (by unfold vq; rw [if_neg (by omega), if_neg (by omega)]; omega), show (i : Int).toNat = i from rfl]
              exact vres_one (k := 1) (by omega) (by omega) (by omega) (by omega)
          · refine me3 (pc' := 48) (S' := [.ref h.length]) (h1 := h ++ [cO 10 [ii 0, .long (Int64.ofInt 0), .null, .null, ii 0, ii 0, ii 0, ii 0, ii 0]]) dm_X10_itemAt_45 (g_nw rfl rfl rfl) rfl rfl rfl ?_
            refine me0 (pc' := 49) (S' := [.ref h.length, .ref h.length]) dm_X10_itemAt_48 rfl rfl rfl rfl ?_
            refine me0 (pc' := 50) (S' := [ii 4, .ref h.length, .ref h.length]) dm_X10_itemAt_49 rfl rfl rfl rfl ?_
            refine me0 (pc' := 51) (S' := [.long (Int64.ofInt 0), ii 4, .ref h.length, .ref h.length]) dm_X10_itemAt_50 rfl rfl rfl rfl ?_
            refine me1 (pc' := 52) (L' := [(0, .ref p), (1, ii (i : Int))]) (S' := [.ref p, .long (Int64.ofInt 0), ii 4, .ref h.length, .ref h.length]) dm_X10_itemAt_51 rfl rfl rfl rfl ?_
            refine me3 (pc' := 55) (S' := [.ref row, .long (Int64.ofInt 0), ii 4, .ref h.length, .ref h.length]) dm_X10_itemAt_52 (g_get (v := .ref row) (hl_app hp) rfl rfl (by omega)) rfl rfl rfl ?_
            refine me1 (pc' := 56) (L' := [(0, .ref p), (1, ii (i : Int))]) (S' := [.ref p, .ref row, .long (Int64.ofInt 0), ii 4, .ref h.length, .ref h.length]) dm_X10_itemAt_55 rfl rfl rfl rfl ?_
            refine me3 (pc' := 59) (S' := [ii (fr : Int), .ref row, .long (Int64.ofInt 0), ii 4, .ref h.length, .ref h.length]) dm_X10_itemAt_56 (g_get (v := ii (fr : Int)) (hl_app hp) rfl rfl (by omega)) rfl rfl rfl ?_
            refine me1 (pc' := 60) (L' := [(0, .ref p), (1, ii (i : Int))]) (S' := [ii (i : Int), ii (fr : Int), .ref row, .long (Int64.ofInt 0), ii 4, .ref h.length, .ref h.length]) dm_X10_itemAt_59 rfl rfl rfl rfl ?_
            refine me1 (pc' := 61) (L' := [(0, .ref p), (1, ii (i : Int))]) (S' := [.ref p, ii (i : Int), ii (fr : Int), .ref row, .long (Int64.ofInt 0), ii 4, .ref h.length, .ref h.length]) dm_X10_itemAt_60 rfl rfl rfl rfl ?_
            refine me3 (pc' := 64) (S' := [ii (vc v : Int), ii (i : Int), ii (fr : Int), .ref row, .long (Int64.ofInt 0), ii 4, .ref h.length, .ref h.length]) dm_X10_itemAt_61 (g_get (v := ii (vc v : Int)) (hl_app hp) rfl rfl (by omega)) rfl rfl rfl ?_
            refine y_imul (a := (i : Int)) (b := (vc v : Int)) dm_X10_itemAt_64 (pc' := 65) rfl ?_
            refine y_iadd (a := (fr : Int)) (b := (i : Int) * (vc v : Int)) dm_X10_itemAt_65 (pc' := 66) rfl ?_
            refine me1 (pc' := 67) (L' := [(0, .ref p), (1, ii (i : Int))]) (S' := [.ref p, ii ((fr : Int) + ((i : Int) * (vc v : Int))), .ref row, .long (Int64.ofInt 0), ii 4, .ref h.length, .ref h.length]) dm_X10_itemAt_66 rfl rfl rfl rfl ?_
            refine me3 (pc' := 70) (S' := [ii (vc v : Int), ii ((fr : Int) + ((i : Int) * (vc v : Int))), .ref row, .long (Int64.ofInt 0), ii 4, .ref h.length, .ref h.length]) dm_X10_itemAt_67 (g_get (v := ii (vc v : Int)) (hl_app hp) rfl rfl (by omega)) rfl rfl rfl ?_
            refine me0 (pc' := 71) (S' := [ii 0, ii (vc v : Int), ii ((fr : Int) + ((i : Int) * (vc v : Int))), .ref row, .long (Int64.ofInt 0), ii 4, .ref h.length, .ref h.length]) dm_X10_itemAt_70 rfl rfl rfl rfl ?_
            refine x_cn (pc' := 74) (rest := [.ref h.length]) dm_X10_itemAt_71 rfl (g_invp (As := [ii 4, .long (Int64.ofInt 0), .ref row, ii ((fr : Int) + ((i : Int) * (vc v : Int))), ii (vc v : Int), ii 0]) (S := [.ref h.length]) rfl rfl rfl) rfl rfl rfl (c_newV (by omega) hl_new (by omega) (by omega) (by omega) (by omega) (by omega) (hl_setl)) ?_
            rintro _ rfl
            refine y_ret (r := some (.ref h.length)) dm_X10_itemAt_74 rfl rfl rfl ?_
            rw [vit_6 (by omega)]
            refine ⟨_, rfl, ?_⟩
            have hk6 : vk v = 6 := by omega
            have hF6 := hF (by omega) (by omega)
            have hq6 : vq v = vm v * vc v := by unfold vq; rw [if_pos hk6]
            have hw6 := hw.2.2.2.1 hk6
            have hmul : i * vc v + vc v ≤ vm v * vc v := by rw [← Nat.succ_mul]; exact Nat.mul_le_mul_right _ (by omega)
            have hq0 : 0 < vm v * vc v := Nat.mul_pos (by omega) (by omega)
            have hb6 := hF6.1 (by omega)
            have e1 : (fr : Int) + (i : Int) * (vc v : Int) = ((fr + i * vc v : Nat) : Int) := by push_cast; rfl
            rw [e1]
            exact vres_view (w := vrow 4 (vc v) (fun k => vn v (i * vc v + k))) (n := n) (f := f) (by omega) (vw1_row (by omega) (by omega) (by omega)) (by show 2 ≤ 4; omega) (by show 4 ≤ 6; omega) hrow (by omega) (fun _ => by rw [vq_row (by omega)]; omega) (fun k hk => by rw [vq_row (by omega)] at hk; rw [Nat.add_assoc]; exact hF6.2 _ (by omega)) (by omega) (by omega)
        · refine me1 (pc' := 35) (L' := [(0, .ref p), (1, ii (i : Int))]) (S' := [.ref p]) dm_X10_itemAt_34 rfl rfl rfl rfl ?_
          refine y_ret (r := some (.ref p)) dm_X10_itemAt_35 rfl rfl rfl ?_
          rw [vit_1 (by omega)]
          exact ⟨_, rfl, vres_same hv⟩
  · refine me1 (pc' := 10) (L' := [(0, .ref p), (1, ii (i : Int))]) (S' := [.ref p]) dm_X10_itemAt_9 rfl rfl rfl rfl ?_
    refine me1 (pc' := 11) (L' := [(0, .ref p), (1, ii (i : Int))]) (S' := [ii (i : Int), .ref p]) dm_X10_itemAt_10 rfl rfl rfl rfl ?_
    obtain ⟨q, hq, hcq⟩ := c_valueAt7 (d := d - 1) (i := (i : Int)) (by omega) hv (by omega) (by omega) (by omega)
    refine x_cp (pc' := 14) (v := .ref q) (rest := []) dm_X10_itemAt_11 rfl (g_inv (As := [ii (i : Int)]) (S := []) hp rfl rfl rfl (by omega)) rfl rfl rfl (hcq) ?_
    refine y_ret (r := some (.ref q)) dm_X10_itemAt_14 rfl rfl rfl ?_
    rw [vit_7 (by omega)]
    exact ⟨_, rfl, vres_same (cv_up (by rw [show (i : Int).toNat = i from rfl] at hq; exact hq))⟩
