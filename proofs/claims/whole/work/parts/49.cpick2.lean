theorem dm_lin {r k c : Nat} (hk : k < c) : (r * c + k) / c = r ∧ (r * c + k) % c = k := by
  have hc : 0 < c := Nat.lt_of_le_of_lt (Nat.zero_le k) hk
  refine ⟨?_, ?_⟩
  · rw [Nat.mul_comm, Nat.mul_add_div hc, Nat.div_eq_of_lt hk, Nat.add_zero]
  · rw [Nat.mul_comm, Nat.mul_add_mod, Nat.mod_eq_of_lt hk]
theorem lin_lt {r k n c : Nat} (hr : r < n) (hk : k < c) : r * c + k < n * c := by
  have h := Nat.mul_le_mul_right c hr
  rw [Nat.succ_mul] at h
  omega
theorem divb {k n c : Nat} (hc : 0 < c) (hk : k < n * c) : 0 ≤ (k : Int) / (c : Int) ∧ (k : Int) / (c : Int) < n ∧ ((k : Int) / (c : Int)).toNat = k / c ∧ 0 ≤ (k : Int) % (c : Int) ∧ (k : Int) % (c : Int) < c ∧ (k : Int) % (c : Int) = ((k % c : Nat) : Int) := by
  have h1 : k / c < n := (Nat.div_lt_iff_lt_mul hc).mpr hk
  have h2 : k % c < c := Nat.mod_lt _ hc
  rw [← Int.natCast_ediv, ← Int.natCast_emod]
  exact ⟨Int.natCast_nonneg _, Int.ofNat_lt.mpr h1, Int.toNat_natCast _, Int.natCast_nonneg _, Int.ofNat_lt.mpr h2, rfl⟩
theorem mulbI {x : Int} {c : Nat} (a b : Nat) (h0 : 0 ≤ x) (h1 : x ≤ a) (h2 : c ≤ b) : 0 ≤ x * (c : Int) ∧ x * (c : Int) ≤ ((a * b : Nat) : Int) := by
  obtain ⟨y, rfl⟩ : ∃ y : Nat, x = (y : Int) := ⟨x.toNat, by omega⟩
  exact mulb a b (by omega) h2
theorem vw1_pick {v : VV} {o : Nat → Nat} {n : Nat} (hw : vw1 v) (hk : vk v ≤ 5) (hn : n ≤ 120) (ho : ∀ k, k < n → vk v ≤ 1 ∨ o k < vm v) : vw1 (vrow (pickk v) n (fun k => vn v (if vk v ≤ 1 then 0 else o k))) := by
  by_cases h2 : vk v = 2
  · rw [show pickk v = 2 by unfold pickk; rw [if_neg (by omega), if_neg (by omega)]; exact h2]
    refine vw1_bits hn (fun k hk2 => ?_)
    rw [if_neg (by omega)]
    exact hw.2.2.2.2.2 h2 _ (by have := ho k hk2; omega)
  · refine vw1_row ?_ ?_ hn
    · unfold pickk; split
      · omega
      · split
        · split <;> omega
        · omega
    · unfold pickk; split
      · omega
      · split
        · split <;> omega
        · omega
theorem vres_ref {A : Nat → Prop} {h h' : mj_H} {e a b : Nat} {w : VV} {r : Value} (hr : vres A h e w a b r h') : ∃ q, r = .ref q := by
  obtain ⟨q, X, h1, -⟩ := hr
  exact ⟨q, h1⟩
theorem vres_up {A : Nat → Prop} {h h' : mj_H} {e a b a' b' : Nat} {w : VV} {r : Value} (ha : a ≤ a') (hb : b ≤ b') (hr : vres A h e w a b r h') : vres A h e w a' b' r h' := by
  obtain ⟨q, X, h1, h2, h3, h4, h5⟩ := hr
  exact ⟨q, X, h1, h2, by omega, by omega, h5⟩
set_option maxRecDepth 20000 in
theorem pm_X10_pickLines : mj_mmof pg_ms 115 = some ((⟨"ArrayCalculator$Value", "pickLines", "([II)LArrayCalculator$Value;"⟩, prog_12_method_26_code, 6, (Option.some (Jvm.ClassFile.FieldType.object "ArrayCalculator$Value"))), 10, false, mj_dec prog_12_method_26_code) := rfl
theorem dm_X10_pickLines_0 : mj_dec prog_12_method_26_code 0 = some (.iload_n 2, 1) := by decide +kernel
theorem dm_X10_pickLines_1 : mj_dec prog_12_method_26_code 1 = some (.aload_n 0, 1) := by decide +kernel
theorem dm_X10_pickLines_2 : mj_dec prog_12_method_26_code 2 = some (.getfield 33, 3) := by decide +kernel
theorem dm_X10_pickLines_5 : mj_dec prog_12_method_26_code 5 = some (.imul, 1) := by decide +kernel
theorem dm_X10_pickLines_6 : mj_dec prog_12_method_26_code 6 = some (.newarray .long, 2) := by decide +kernel
theorem dm_X10_pickLines_8 : mj_dec prog_12_method_26_code 8 = some (.astore_n 3, 1) := by decide +kernel
theorem dm_X10_pickLines_9 : mj_dec prog_12_method_26_code 9 = some (.iconst 0, 1) := by decide +kernel
theorem dm_X10_pickLines_10 : mj_dec prog_12_method_26_code 10 = some (.istore 4, 2) := by decide +kernel
theorem dm_X10_pickLines_12 : mj_dec prog_12_method_26_code 12 = some (.iload 4, 2) := by decide +kernel
theorem dm_X10_pickLines_14 : mj_dec prog_12_method_26_code 14 = some (.iload_n 2, 1) := by decide +kernel
theorem dm_X10_pickLines_15 : mj_dec prog_12_method_26_code 15 = some (.if_icmp .ge 62, 3) := by decide +kernel
theorem dm_X10_pickLines_18 : mj_dec prog_12_method_26_code 18 = some (.iload 4, 2) := by decide +kernel
theorem dm_X10_pickLines_20 : mj_dec prog_12_method_26_code 20 = some (.aload_n 1, 1) := by decide +kernel
theorem dm_X10_pickLines_21 : mj_dec prog_12_method_26_code 21 = some (.arraylength, 1) := by decide +kernel
theorem dm_X10_pickLines_22 : mj_dec prog_12_method_26_code 22 = some (.if_icmp .ge 55, 3) := by decide +kernel
theorem dm_X10_pickLines_25 : mj_dec prog_12_method_26_code 25 = some (.iconst 0, 1) := by decide +kernel
theorem dm_X10_pickLines_26 : mj_dec prog_12_method_26_code 26 = some (.istore 5, 2) := by decide +kernel
theorem dm_X10_pickLines_28 : mj_dec prog_12_method_26_code 28 = some (.iload 5, 2) := by decide +kernel
theorem dm_X10_pickLines_30 : mj_dec prog_12_method_26_code 30 = some (.aload_n 0, 1) := by decide +kernel
theorem dm_X10_pickLines_31 : mj_dec prog_12_method_26_code 31 = some (.getfield 33, 3) := by decide +kernel
theorem dm_X10_pickLines_34 : mj_dec prog_12_method_26_code 34 = some (.if_icmp .ge 37, 3) := by decide +kernel
theorem dm_X10_pickLines_37 : mj_dec prog_12_method_26_code 37 = some (.aload_n 3, 1) := by decide +kernel
theorem dm_X10_pickLines_38 : mj_dec prog_12_method_26_code 38 = some (.iload 4, 2) := by decide +kernel
theorem dm_X10_pickLines_40 : mj_dec prog_12_method_26_code 40 = some (.aload_n 0, 1) := by decide +kernel
theorem dm_X10_pickLines_41 : mj_dec prog_12_method_26_code 41 = some (.getfield 33, 3) := by decide +kernel
theorem dm_X10_pickLines_44 : mj_dec prog_12_method_26_code 44 = some (.imul, 1) := by decide +kernel
theorem dm_X10_pickLines_45 : mj_dec prog_12_method_26_code 45 = some (.iload 5, 2) := by decide +kernel
theorem dm_X10_pickLines_47 : mj_dec prog_12_method_26_code 47 = some (.iadd, 1) := by decide +kernel
theorem dm_X10_pickLines_48 : mj_dec prog_12_method_26_code 48 = some (.aload_n 0, 1) := by decide +kernel
theorem dm_X10_pickLines_49 : mj_dec prog_12_method_26_code 49 = some (.aload_n 1, 1) := by decide +kernel
theorem dm_X10_pickLines_50 : mj_dec prog_12_method_26_code 50 = some (.iload 4, 2) := by decide +kernel
theorem dm_X10_pickLines_52 : mj_dec prog_12_method_26_code 52 = some (.iaload, 1) := by decide +kernel
theorem dm_X10_pickLines_53 : mj_dec prog_12_method_26_code 53 = some (.aload_n 0, 1) := by decide +kernel
theorem dm_X10_pickLines_54 : mj_dec prog_12_method_26_code 54 = some (.getfield 33, 3) := by decide +kernel
theorem dm_X10_pickLines_57 : mj_dec prog_12_method_26_code 57 = some (.imul, 1) := by decide +kernel
theorem dm_X10_pickLines_58 : mj_dec prog_12_method_26_code 58 = some (.iload 5, 2) := by decide +kernel
theorem dm_X10_pickLines_60 : mj_dec prog_12_method_26_code 60 = some (.iadd, 1) := by decide +kernel
theorem dm_X10_pickLines_61 : mj_dec prog_12_method_26_code 61 = some (.invokevirtual 72, 3) := by decide +kernel
theorem dm_X10_pickLines_64 : mj_dec prog_12_method_26_code 64 = some (.lastore, 1) := by decide +kernel
theorem dm_X10_pickLines_65 : mj_dec prog_12_method_26_code 65 = some (.iinc 5 1, 3) := by decide +kernel
theorem dm_X10_pickLines_68 : mj_dec prog_12_method_26_code 68 = some (.goto (-40), 3) := by decide +kernel
theorem dm_X10_pickLines_71 : mj_dec prog_12_method_26_code 71 = some (.iinc 4 1, 3) := by decide +kernel
theorem dm_X10_pickLines_74 : mj_dec prog_12_method_26_code 74 = some (.goto (-62), 3) := by decide +kernel
theorem dm_X10_pickLines_77 : mj_dec prog_12_method_26_code 77 = some (.new 10, 3) := by decide +kernel
theorem dm_X10_pickLines_80 : mj_dec prog_12_method_26_code 80 = some (.dup, 1) := by decide +kernel
theorem dm_X10_pickLines_81 : mj_dec prog_12_method_26_code 81 = some (.bipush 6, 2) := by decide +kernel
theorem dm_X10_pickLines_83 : mj_dec prog_12_method_26_code 83 = some (.lconst 0, 1) := by decide +kernel
theorem dm_X10_pickLines_84 : mj_dec prog_12_method_26_code 84 = some (.aload_n 3, 1) := by decide +kernel
theorem dm_X10_pickLines_85 : mj_dec prog_12_method_26_code 85 = some (.iconst 0, 1) := by decide +kernel
theorem dm_X10_pickLines_86 : mj_dec prog_12_method_26_code 86 = some (.iload_n 2, 1) := by decide +kernel
theorem dm_X10_pickLines_87 : mj_dec prog_12_method_26_code 87 = some (.aload_n 0, 1) := by decide +kernel
theorem dm_X10_pickLines_88 : mj_dec prog_12_method_26_code 88 = some (.getfield 33, 3) := by decide +kernel
theorem dm_X10_pickLines_91 : mj_dec prog_12_method_26_code 91 = some (.invokespecial 45, 3) := by decide +kernel
theorem dm_X10_pickLines_94 : mj_dec prog_12_method_26_code 94 = some (.areturn, 1) := by decide +kernel
theorem c_pickLines {xt : mj_X} {d e p : Nat} {A : Nat → Prop} {h : mj_H} {v : VV} {pl np n : Nat} {pf : Nat → Int} {f1 : Nat → Value} (hx1 : xt 1 = some (.long, 0, f1)) (hd : 4 ≤ d) (hA : okA A h) (hl : 127 ≤ h.length) (hv : cv A h (e + 1) p v) (hpl : h[pl]? = some (cI np pf)) (hpl2 : 2 ≤ pl) (hnp : np ≤ 1000) (hn : n ≤ np) (hk6 : vk v = 6) (hn0 : 1 ≤ n) (hn12 : n ≤ 12) (hpf : ∀ k, k < n → 0 ≤ pf k ∧ pf k < vm v) : pgV xt d 115 [.ref p, .ref pl, ii (n : Int)] h (vres A h (e + 1) (vpick v (fun k => (pf k).toNat) n) 2 (n * vc v + 9)) := by
  obtain ⟨hw, ⟨hp2, hpA⟩, hsz, hlv, row, fr, vals, hp, hfr, h1, h3, h7⟩ := id hv
  clear h1 h3 h7
  have hm := vw1_m hw
  have hw6 := hw.2.2.2.1 hk6
  have hmb := mulb 12 12 hn12 (show vc v ≤ 12 by omega)
  have hq6 : vq v = vm v * vc v := by unfold vq; rw [if_pos hk6]
  have ixb : ∀ {x y : Nat}, x < vm v → y < vc v → x * vc v + y < vm v * vc v := fun {x y} hx hy => by have := Nat.mul_le_mul_right (vc v) hx; rw [Nat.succ_mul] at this; omega
  refine x_enter pm_X10_pickLines (L0 := [(0, .ref p), (1, .ref pl), (2, ii (n : Int))]) rfl (Nat.le_of_ble_eq_true rfl) (by omega) ?_
  refine me1 (pc' := 1) (L' := [(0, .ref p), (1, .ref pl), (2, ii (n : Int))]) (S' := [ii (n : Int)]) dm_X10_pickLines_0 rfl rfl rfl rfl ?_
  refine me1 (pc' := 2) (L' := [(0, .ref p), (1, .ref pl), (2, ii (n : Int))]) (S' := [.ref p, ii (n : Int)]) dm_X10_pickLines_1 rfl rfl rfl rfl ?_
  refine me3 (pc' := 5) (S' := [ii (vc v : Int), ii (n : Int)]) dm_X10_pickLines_2 (g_get (v := ii (vc v : Int)) hp rfl rfl (by omega)) rfl rfl rfl ?_
  refine y_imul (a := (n : Int)) (b := (vc v : Int)) dm_X10_pickLines_5 (pc' := 6) rfl ?_
  refine me3 (pc' := 8) (S' := [.ref h.length]) (h1 := h ++ [cJ (n * vc v) (fun _ => 0)]) dm_X10_pickLines_6 (yh_newJ (by omega) (by omega) (by omega) rfl) rfl rfl rfl ?_
  refine me1 (pc' := 9) (L' := [(3, .ref h.length), (0, .ref p), (1, .ref pl), (2, ii (n : Int))]) (S' := []) dm_X10_pickLines_8 rfl rfl rfl rfl ?_
  refine me0 (pc' := 10) (S' := [ii 0]) dm_X10_pickLines_9 rfl rfl rfl rfl ?_
  refine me1 (pc' := 12) (L' := [(4, ii 0), (3, .ref h.length), (0, .ref p), (1, .ref pl), (2, ii (n : Int))]) (S' := []) dm_X10_pickLines_10 rfl rfl rfl rfl ?_
  have lp12 : ∀ (n12 : Nat) (r : Nat), n - r = n12 → (r ≤ n) → pgE xt (d - 1) 10 6 false (Option.some (Jvm.ClassFile.FieldType.object "ArrayCalculator$Value")) (mj_dec prog_12_method_26_code) 12 [(0, .ref p), (1, .ref pl), (2, ii (n : Int)), (3, .ref h.length), (4, ii (r : Int))] [] (h ++ [cJ (n * vc v) (fl (r * vc v) (fun i : Nat => vnum v (pf (i / vc v) * (vc v : Int) + ((i % vc v : Nat) : Int))) (fun _ => 0))]) (fun r h' => ∃ x, r = some x ∧ vres A h (e + 1) (vpick v (fun k => (pf k).toNat) n) 2 (n * vc v + 9) x h') := by
    intro n12
    induction n12 using Nat.strongRecOn with
    | ind n12 ih12 =>
      intro r hm12 hr
      refine me1 (pc' := 14) (L' := [(0, .ref p), (1, .ref pl), (2, ii (n : Int)), (3, .ref h.length), (4, ii (r : Int))]) (S' := [ii (r : Int)]) dm_X10_pickLines_12 rfl rfl rfl rfl ?_
      refine me1 (pc' := 15) (L' := [(0, .ref p), (1, .ref pl), (2, ii (n : Int)), (3, .ref h.length), (4, ii (r : Int))]) (S' := [ii (n : Int), ii (r : Int)]) dm_X10_pickLines_14 rfl rfl rfl rfl ?_
      refine y_2ge (a := (r : Int)) (b := (n : Int)) (t := 77) (pc' := 18) dm_X10_pickLines_15 rfl rfl (by omega) (fun hb1 => ?_) (fun hb1 => ?_)
      · refine me3 (pc' := 80) (S' := [.ref (h.length + 1)]) (h1 := (h ++ [cJ (n * vc v) (fl (r * vc v) (fun i : Nat => vnum v (pf (i / vc v) * (vc v : Int) + ((i % vc v : Nat) : Int))) (fun _ => 0))]) ++ [cO 10 [ii 0, .long (Int64.ofInt 0), .null, .null, ii 0, ii 0, ii 0, ii 0, ii 0]]) dm_X10_pickLines_77 (g_nw (by simp) rfl rfl) rfl rfl rfl ?_
        refine me0 (pc' := 81) (S' := [.ref (h.length + 1), .ref (h.length + 1)]) dm_X10_pickLines_80 rfl rfl rfl rfl ?_
        refine me0 (pc' := 83) (S' := [ii 6, .ref (h.length + 1), .ref (h.length + 1)]) dm_X10_pickLines_81 rfl rfl rfl rfl ?_
        refine me0 (pc' := 84) (S' := [.long (Int64.ofInt 0), ii 6, .ref (h.length + 1), .ref (h.length + 1)]) dm_X10_pickLines_83 rfl rfl rfl rfl ?_
        refine me1 (pc' := 85) (L' := [(0, .ref p), (1, .ref pl), (2, ii (n : Int)), (3, .ref h.length), (4, ii (r : Int))]) (S' := [.ref h.length, .long (Int64.ofInt 0), ii 6, .ref (h.length + 1), .ref (h.length + 1)]) dm_X10_pickLines_84 rfl rfl rfl rfl ?_
        refine me0 (pc' := 86) (S' := [ii 0, .ref h.length, .long (Int64.ofInt 0), ii 6, .ref (h.length + 1), .ref (h.length + 1)]) dm_X10_pickLines_85 rfl rfl rfl rfl ?_
        refine me1 (pc' := 87) (L' := [(0, .ref p), (1, .ref pl), (2, ii (n : Int)), (3, .ref h.length), (4, ii (r : Int))]) (S' := [ii (n : Int), ii 0, .ref h.length, .long (Int64.ofInt 0), ii 6, .ref (h.length + 1), .ref (h.length + 1)]) dm_X10_pickLines_86 rfl rfl rfl rfl ?_
        refine me1 (pc' := 88) (L' := [(0, .ref p), (1, .ref pl), (2, ii (n : Int)), (3, .ref h.length), (4, ii (r : Int))]) (S' := [.ref p, ii (n : Int), ii 0, .ref h.length, .long (Int64.ofInt 0), ii 6, .ref (h.length + 1), .ref (h.length + 1)]) dm_X10_pickLines_87 rfl rfl rfl rfl ?_
        refine me3 (pc' := 91) (S' := [ii (vc v : Int), ii (n : Int), ii 0, .ref h.length, .long (Int64.ofInt 0), ii 6, .ref (h.length + 1), .ref (h.length + 1)]) dm_X10_pickLines_88 (g_get (v := ii (vc v : Int)) (hl_app (hl_app hp)) rfl rfl (by omega)) rfl rfl rfl ?_
        refine x_cn (pc' := 94) (rest := [.ref (h.length + 1)]) dm_X10_pickLines_91 rfl (g_invp (As := [ii 6, .long (Int64.ofInt 0), .ref h.length, ii 0, ii (n : Int), ii (vc v : Int)]) (S := [.ref (h.length + 1)]) rfl rfl rfl) rfl rfl rfl (c_newV (by omega) (hl_newa (by simp)) (by omega) (by omega) (by omega) (by omega) (by omega) (hl_seta (by simp))) ?_
        rintro _ rfl
        refine y_ret (r := some (.ref (h.length + 1))) dm_X10_pickLines_94 rfl rfl rfl ?_
        have hkn : n = r := by omega
        subst hkn
        rw [vpick_6 hk6]
        refine ⟨_, rfl, vres_flat (w := vtab n (vc v) (fun i => vn v ((pf (i / vc v)).toNat * vc v + i % vc v))) (by omega) ?_ (by show 2 ≤ 6; omega) (by show 6 ≤ 6; omega) rfl (fun k hk => ?_) (by omega) (by omega)⟩
        · refine vw1_tab hn0 hn12 (by omega) (by omega) (fun k hk => hw6.2.2.2.2 _ ?_)
          have hdb := divb (k := k) (n := n) (c := vc v) (by omega) hk
          have hpk := hpf (k / vc v) (by omega)
          exact ixb (by omega) (by omega)
        · have hdb := divb (k := k) (n := n) (c := vc v) (by omega) hk
          have hpk := hpf (k / vc v) (by omega)
          rw [fl_at _ _ hk]
          show vnum v (pf (k / vc v) * (vc v : Int) + ((k % vc v : Nat) : Int)) = vn v ((pf (k / vc v)).toNat * vc v + k % vc v)
          have hb9 : (pf (k / vc v)).toNat * vc v + k % vc v < vm v * vc v := ixb (by omega) (by omega)
          have e0 : pf (k / vc v) = ((pf (k / vc v)).toNat : Int) := by omega
          rw [e0, ← Int.natCast_mul, ← Int.natCast_add, vnum_r (by omega) (by omega) (by rw [hq6]; omega)]
          rfl
      · refine me1 (pc' := 20) (L' := [(0, .ref p), (1, .ref pl), (2, ii (n : Int)), (3, .ref h.length), (4, ii (r : Int))]) (S' := [ii (r : Int)]) dm_X10_pickLines_18 rfl rfl rfl rfl ?_
        refine me1 (pc' := 21) (L' := [(0, .ref p), (1, .ref pl), (2, ii (n : Int)), (3, .ref h.length), (4, ii (r : Int))]) (S' := [.ref pl, ii (r : Int)]) dm_X10_pickLines_20 rfl rfl rfl rfl ?_
        refine me3 (pc' := 22) (S' := [ii np, ii (r : Int)]) dm_X10_pickLines_21 (yh_len (n := np) rfl (hl_app hpl) (by omega)) rfl rfl rfl ?_
        refine y_2ge (a := (r : Int)) (b := np) (t := 77) (pc' := 25) dm_X10_pickLines_22 rfl rfl (by omega) (fun hb2 => ?_) (fun hb2 => ?_)
        · refine me3 (pc' := 80) (S' := [.ref (h.length + 1)]) (h1 := (h ++ [cJ (n * vc v) (fl (r * vc v) (fun i : Nat => vnum v (pf (i / vc v) * (vc v : Int) + ((i % vc v : Nat) : Int))) (fun _ => 0))]) ++ [cO 10 [ii 0, .long (Int64.ofInt 0), .null, .null, ii 0, ii 0, ii 0, ii 0, ii 0]]) dm_X10_pickLines_77 (g_nw (by simp) rfl rfl) rfl rfl rfl ?_
          refine me0 (pc' := 81) (S' := [.ref (h.length + 1), .ref (h.length + 1)]) dm_X10_pickLines_80 rfl rfl rfl rfl ?_
          refine me0 (pc' := 83) (S' := [ii 6, .ref (h.length + 1), .ref (h.length + 1)]) dm_X10_pickLines_81 rfl rfl rfl rfl ?_
          refine me0 (pc' := 84) (S' := [.long (Int64.ofInt 0), ii 6, .ref (h.length + 1), .ref (h.length + 1)]) dm_X10_pickLines_83 rfl rfl rfl rfl ?_
          refine me1 (pc' := 85) (L' := [(0, .ref p), (1, .ref pl), (2, ii (n : Int)), (3, .ref h.length), (4, ii (r : Int))]) (S' := [.ref h.length, .long (Int64.ofInt 0), ii 6, .ref (h.length + 1), .ref (h.length + 1)]) dm_X10_pickLines_84 rfl rfl rfl rfl ?_
          refine me0 (pc' := 86) (S' := [ii 0, .ref h.length, .long (Int64.ofInt 0), ii 6, .ref (h.length + 1), .ref (h.length + 1)]) dm_X10_pickLines_85 rfl rfl rfl rfl ?_
          refine me1 (pc' := 87) (L' := [(0, .ref p), (1, .ref pl), (2, ii (n : Int)), (3, .ref h.length), (4, ii (r : Int))]) (S' := [ii (n : Int), ii 0, .ref h.length, .long (Int64.ofInt 0), ii 6, .ref (h.length + 1), .ref (h.length + 1)]) dm_X10_pickLines_86 rfl rfl rfl rfl ?_
          refine me1 (pc' := 88) (L' := [(0, .ref p), (1, .ref pl), (2, ii (n : Int)), (3, .ref h.length), (4, ii (r : Int))]) (S' := [.ref p, ii (n : Int), ii 0, .ref h.length, .long (Int64.ofInt 0), ii 6, .ref (h.length + 1), .ref (h.length + 1)]) dm_X10_pickLines_87 rfl rfl rfl rfl ?_
          refine me3 (pc' := 91) (S' := [ii (vc v : Int), ii (n : Int), ii 0, .ref h.length, .long (Int64.ofInt 0), ii 6, .ref (h.length + 1), .ref (h.length + 1)]) dm_X10_pickLines_88 (g_get (v := ii (vc v : Int)) (hl_app (hl_app hp)) rfl rfl (by omega)) rfl rfl rfl ?_
          refine x_cn (pc' := 94) (rest := [.ref (h.length + 1)]) dm_X10_pickLines_91 rfl (g_invp (As := [ii 6, .long (Int64.ofInt 0), .ref h.length, ii 0, ii (n : Int), ii (vc v : Int)]) (S := [.ref (h.length + 1)]) rfl rfl rfl) rfl rfl rfl (c_newV (by omega) (hl_newa (by simp)) (by omega) (by omega) (by omega) (by omega) (by omega) (hl_seta (by simp))) ?_
          rintro _ rfl
          refine y_ret (r := some (.ref (h.length + 1))) dm_X10_pickLines_94 rfl rfl rfl ?_
          have hkn : n = r := by omega
          subst hkn
          rw [vpick_6 hk6]
          refine ⟨_, rfl, vres_flat (w := vtab n (vc v) (fun i => vn v ((pf (i / vc v)).toNat * vc v + i % vc v))) (by omega) ?_ (by show 2 ≤ 6; omega) (by show 6 ≤ 6; omega) rfl (fun k hk => ?_) (by omega) (by omega)⟩
          · refine vw1_tab hn0 hn12 (by omega) (by omega) (fun k hk => hw6.2.2.2.2 _ ?_)
            have hdb := divb (k := k) (n := n) (c := vc v) (by omega) hk
            have hpk := hpf (k / vc v) (by omega)
            exact ixb (by omega) (by omega)
          · have hdb := divb (k := k) (n := n) (c := vc v) (by omega) hk
            have hpk := hpf (k / vc v) (by omega)
            rw [fl_at _ _ hk]
            show vnum v (pf (k / vc v) * (vc v : Int) + ((k % vc v : Nat) : Int)) = vn v ((pf (k / vc v)).toNat * vc v + k % vc v)
            have hb9 : (pf (k / vc v)).toNat * vc v + k % vc v < vm v * vc v := ixb (by omega) (by omega)
            have e0 : pf (k / vc v) = ((pf (k / vc v)).toNat : Int) := by omega
            rw [e0, ← Int.natCast_mul, ← Int.natCast_add, vnum_r (by omega) (by omega) (by rw [hq6]; omega)]
            rfl
        · refine me0 (pc' := 26) (S' := [ii 0]) dm_X10_pickLines_25 rfl rfl rfl rfl ?_
          refine me1 (pc' := 28) (L' := [(5, ii 0), (0, .ref p), (1, .ref pl), (2, ii (n : Int)), (3, .ref h.length), (4, ii (r : Int))]) (S' := []) dm_X10_pickLines_26 rfl rfl rfl rfl ?_
          have lp28 : ∀ (n28 : Nat) (k : Nat), vc v - k = n28 → (k ≤ vc v) → pgE xt (d - 1) 10 6 false (Option.some (Jvm.ClassFile.FieldType.object "ArrayCalculator$Value")) (mj_dec prog_12_method_26_code) 28 [(0, .ref p), (1, .ref pl), (2, ii (n : Int)), (3, .ref h.length), (4, ii (r : Int)), (5, ii (k : Int))] [] (h ++ [cJ (n * vc v) (fl (r * vc v + k) (fun i : Nat => vnum v (pf (i / vc v) * (vc v : Int) + ((i % vc v : Nat) : Int))) (fun _ => 0))]) (fun r h' => ∃ x, r = some x ∧ vres A h (e + 1) (vpick v (fun k => (pf k).toNat) n) 2 (n * vc v + 9) x h') := by
            intro n28
            induction n28 using Nat.strongRecOn with
            | ind n28 ih28 =>
              intro k hm28 hk
              refine me1 (pc' := 30) (L' := [(0, .ref p), (1, .ref pl), (2, ii (n : Int)), (3, .ref h.length), (4, ii (r : Int)), (5, ii (k : Int))]) (S' := [ii (k : Int)]) dm_X10_pickLines_28 rfl rfl rfl rfl ?_
              refine me1 (pc' := 31) (L' := [(0, .ref p), (1, .ref pl), (2, ii (n : Int)), (3, .ref h.length), (4, ii (r : Int)), (5, ii (k : Int))]) (S' := [.ref p, ii (k : Int)]) dm_X10_pickLines_30 rfl rfl rfl rfl ?_
              refine me3 (pc' := 34) (S' := [ii (vc v : Int), ii (k : Int)]) dm_X10_pickLines_31 (g_get (v := ii (vc v : Int)) (hl_app hp) rfl rfl (by omega)) rfl rfl rfl ?_
              refine y_2ge (a := (k : Int)) (b := (vc v : Int)) (t := 71) (pc' := 37) dm_X10_pickLines_34 rfl rfl (by omega) (fun hb3 => ?_) (fun hb3 => ?_)
              · refine y_iinc (pc' := 74) (L' := [(4, ii ((r : Int) + 1)), (0, .ref p), (1, .ref pl), (2, ii (n : Int)), (3, .ref h.length), (5, ii (k : Int))]) dm_X10_pickLines_71 (y_incp (a := (r : Int)) (c := 1) rfl rfl (by decide)) rfl ?_
                refine me2 (pc' := 12) (S' := []) dm_X10_pickLines_74 rfl rfl rfl ?_
                refine pg_cast (h2 := h ++ [cJ (n * vc v) (fl ((r + 1) * vc v) (fun i : Nat => vnum v (pf (i / vc v) * (vc v : Int) + ((i % vc v : Nat) : Int))) (fun _ => 0))]) (congrArg (fun z => h ++ [cJ (n * vc v) z]) (by rw [show r * vc v + k = (r + 1) * vc v by rw [Nat.add_mul, Nat.one_mul]; omega])) ?_
                exact pg_sub (L := [(0, .ref p), (1, .ref pl), (2, ii (n : Int)), (3, .ref h.length), (4, ii ((r + 1) : Int))]) rfl rfl rfl (ih12 (n - (r + 1)) (by omega) (r + 1) rfl (by omega))
              · have hix : r * vc v + k < n * vc v := lin_lt (show r < n by omega) (show k < vc v by omega)
                have hpk : 0 ≤ pf r ∧ pf r < vm v := hpf _ (by omega)
                have hpb := mulbI (c := vc v) 120 12 hpk.1 (by omega) (by omega)
                refine me1 (pc' := 38) (L' := [(0, .ref p), (1, .ref pl), (2, ii (n : Int)), (3, .ref h.length), (4, ii (r : Int)), (5, ii (k : Int))]) (S' := [.ref h.length]) dm_X10_pickLines_37 rfl rfl rfl rfl ?_
                refine me1 (pc' := 40) (L' := [(0, .ref p), (1, .ref pl), (2, ii (n : Int)), (3, .ref h.length), (4, ii (r : Int)), (5, ii (k : Int))]) (S' := [ii (r : Int), .ref h.length]) dm_X10_pickLines_38 rfl rfl rfl rfl ?_
                refine me1 (pc' := 41) (L' := [(0, .ref p), (1, .ref pl), (2, ii (n : Int)), (3, .ref h.length), (4, ii (r : Int)), (5, ii (k : Int))]) (S' := [.ref p, ii (r : Int), .ref h.length]) dm_X10_pickLines_40 rfl rfl rfl rfl ?_
                refine me3 (pc' := 44) (S' := [ii (vc v : Int), ii (r : Int), .ref h.length]) dm_X10_pickLines_41 (g_get (v := ii (vc v : Int)) (hl_app hp) rfl rfl (by omega)) rfl rfl rfl ?_
                refine y_imul (a := (r : Int)) (b := (vc v : Int)) dm_X10_pickLines_44 (pc' := 45) rfl ?_
                refine me1 (pc' := 47) (L' := [(0, .ref p), (1, .ref pl), (2, ii (n : Int)), (3, .ref h.length), (4, ii (r : Int)), (5, ii (k : Int))]) (S' := [ii (k : Int), ii ((r : Int) * (vc v : Int)), .ref h.length]) dm_X10_pickLines_45 rfl rfl rfl rfl ?_
                refine y_iadd (a := (r : Int) * (vc v : Int)) (b := (k : Int)) dm_X10_pickLines_47 (pc' := 48) rfl ?_
                refine me1 (pc' := 49) (L' := [(0, .ref p), (1, .ref pl), (2, ii (n : Int)), (3, .ref h.length), (4, ii (r : Int)), (5, ii (k : Int))]) (S' := [.ref p, ii (((r : Int) * (vc v : Int)) + (k : Int)), .ref h.length]) dm_X10_pickLines_48 rfl rfl rfl rfl ?_
                refine me1 (pc' := 50) (L' := [(0, .ref p), (1, .ref pl), (2, ii (n : Int)), (3, .ref h.length), (4, ii (r : Int)), (5, ii (k : Int))]) (S' := [.ref pl, .ref p, ii (((r : Int) * (vc v : Int)) + (k : Int)), .ref h.length]) dm_X10_pickLines_49 rfl rfl rfl rfl ?_
                refine me1 (pc' := 52) (L' := [(0, .ref p), (1, .ref pl), (2, ii (n : Int)), (3, .ref h.length), (4, ii (r : Int)), (5, ii (k : Int))]) (S' := [ii (r : Int), .ref pl, .ref p, ii (((r : Int) * (vc v : Int)) + (k : Int)), .ref h.length]) dm_X10_pickLines_50 rfl rfl rfl rfl ?_
                refine me3 (pc' := 53) (S' := [ii (pf r), .ref p, ii (((r : Int) * (vc v : Int)) + (k : Int)), .ref h.length]) dm_X10_pickLines_52 (yh_iald (v := pf r) (hl_app hpl) (by omega) (by omega) (by omega) (by omega) rfl) rfl rfl rfl ?_
                refine me1 (pc' := 54) (L' := [(0, .ref p), (1, .ref pl), (2, ii (n : Int)), (3, .ref h.length), (4, ii (r : Int)), (5, ii (k : Int))]) (S' := [.ref p, ii (pf r), .ref p, ii (((r : Int) * (vc v : Int)) + (k : Int)), .ref h.length]) dm_X10_pickLines_53 rfl rfl rfl rfl ?_
                refine me3 (pc' := 57) (S' := [ii (vc v : Int), ii (pf r), .ref p, ii (((r : Int) * (vc v : Int)) + (k : Int)), .ref h.length]) dm_X10_pickLines_54 (g_get (v := ii (vc v : Int)) (hl_app hp) rfl rfl (by omega)) rfl rfl rfl ?_
                refine y_imul (a := pf r) (b := (vc v : Int)) dm_X10_pickLines_57 (pc' := 58) rfl ?_
                refine me1 (pc' := 60) (L' := [(0, .ref p), (1, .ref pl), (2, ii (n : Int)), (3, .ref h.length), (4, ii (r : Int)), (5, ii (k : Int))]) (S' := [ii (k : Int), ii ((pf r) * (vc v : Int)), .ref p, ii (((r : Int) * (vc v : Int)) + (k : Int)), .ref h.length]) dm_X10_pickLines_58 rfl rfl rfl rfl ?_
                refine y_iadd (a := (pf r) * (vc v : Int)) (b := (k : Int)) dm_X10_pickLines_60 (pc' := 61) rfl ?_
                refine x_cp (pc' := 64) (v := .long (vnum v (((pf r) * (vc v : Int)) + (k : Int)))) (rest := [ii (((r : Int) * (vc v : Int)) + (k : Int)), .ref h.length]) dm_X10_pickLines_61 rfl (g_inv (As := [ii (((pf r) * (vc v : Int)) + (k : Int))]) (S := [ii (((r : Int) * (vc v : Int)) + (k : Int)), .ref h.length]) (hl_app hp) rfl rfl rfl (by omega)) rfl rfl rfl (c_numberAt (i := ((pf r) * (vc v : Int)) + (k : Int)) hx1 (by omega) (cv_app hv) (by omega)) ?_
                refine me3 (pc' := 65) (S' := []) (h1 := h ++ [cJ (n * vc v) (va_up (fl (r * vc v + k) (fun i : Nat => vnum v (pf (i / vc v) * (vc v : Int) + ((i % vc v : Nat) : Int))) (fun _ => 0)) (r * vc v + k) (vnum v (((pf r) * (vc v : Int)) + (k : Int))))]) dm_X10_pickLines_64 (y_hs (yh_last (j := ((r : Int) * (vc v : Int)) + (k : Int)) hl_new (by omega) (by omega) (by omega) (by omega)) (by rw [show (((r : Int) * (vc v : Int)) + (k : Int)).toNat = r * vc v + k from rfl]; exact (hl_setl))) rfl rfl rfl ?_
                refine y_iinc (pc' := 68) (L' := [(5, ii ((k : Int) + 1)), (0, .ref p), (1, .ref pl), (2, ii (n : Int)), (3, .ref h.length), (4, ii (r : Int))]) dm_X10_pickLines_65 (y_incp (a := (k : Int)) (c := 1) rfl rfl (by decide)) rfl ?_
                refine me2 (pc' := 28) (S' := []) dm_X10_pickLines_68 rfl rfl rfl ?_
                refine pg_cast (h2 := h ++ [cJ (n * vc v) (fl (r * vc v + (k + 1)) (fun i : Nat => vnum v (pf (i / vc v) * (vc v : Int) + ((i % vc v : Nat) : Int))) (fun _ => 0))]) (congrArg (fun z => h ++ [cJ (n * vc v) z]) (by rw [show vnum v (pf r * (vc v : Int) + (k : Int)) = (fun i : Nat => vnum v (pf (i / vc v) * (vc v : Int) + ((i % vc v : Nat) : Int))) (r * vc v + k) by show _ = vnum v (pf ((r * vc v + k) / vc v) * (vc v : Int) + (((r * vc v + k) % vc v : Nat) : Int)); rw [(dm_lin (r := r) (show k < vc v by omega)).1, (dm_lin (r := r) (show k < vc v by omega)).2]]; exact fl_s (r * vc v + k) (fun i : Nat => vnum v (pf (i / vc v) * (vc v : Int) + ((i % vc v : Nat) : Int))) (fun _ => 0))) ?_
                exact pg_sub (L := [(0, .ref p), (1, .ref pl), (2, ii (n : Int)), (3, .ref h.length), (4, ii (r : Int)), (5, ii ((k + 1) : Int))]) rfl rfl rfl (ih28 (vc v - (k + 1)) (by omega) (k + 1) rfl (by omega))
          refine pg_cast (h2 := h ++ [cJ (n * vc v) (fl (r * vc v + 0) (fun i : Nat => vnum v (pf (i / vc v) * (vc v : Int) + ((i % vc v : Nat) : Int))) (fun _ => 0))]) rfl ?_
          exact pg_sub (L := [(0, .ref p), (1, .ref pl), (2, ii (n : Int)), (3, .ref h.length), (4, ii (r : Int)), (5, ii (0 : Int))]) rfl rfl rfl (lp28 _ 0 rfl (Nat.zero_le _))
  refine pg_cast (h2 := h ++ [cJ (n * vc v) (fl (0 * vc v) (fun i : Nat => vnum v (pf (i / vc v) * (vc v : Int) + ((i % vc v : Nat) : Int))) (fun _ => 0))]) (congrArg (fun z => h ++ [cJ (n * vc v) z]) (by rw [Nat.zero_mul]; exact (fl_0 _ _).symm)) ?_
  exact pg_sub (L := [(0, .ref p), (1, .ref pl), (2, ii (n : Int)), (3, .ref h.length), (4, ii (0 : Int))]) rfl rfl rfl (lp12 _ 0 rfl (Nat.zero_le _))
set_option maxRecDepth 20000 in
theorem pm_X10_pick : mj_mmof pg_ms 113 = some ((⟨"ArrayCalculator$Value", "pick", "([II)LArrayCalculator$Value;"⟩, prog_12_method_24_code, 6, (Option.some (Jvm.ClassFile.FieldType.object "ArrayCalculator$Value"))), 10, false, mj_dec prog_12_method_24_code) := rfl
theorem dm_X10_pick_0 : mj_dec prog_12_method_24_code 0 = some (.aload_n 0, 1) := by decide +kernel
theorem dm_X10_pick_1 : mj_dec prog_12_method_24_code 1 = some (.getfield 9, 3) := by decide +kernel
theorem dm_X10_pick_4 : mj_dec prog_12_method_24_code 4 = some (.bipush 7, 2) := by decide +kernel
theorem dm_X10_pick_6 : mj_dec prog_12_method_24_code 6 = some (.if_icmp .ne 24, 3) := by decide +kernel
theorem dm_X10_pick_9 : mj_dec prog_12_method_24_code 9 = some (.iload_n 2, 1) := by decide +kernel
theorem dm_X10_pick_10 : mj_dec prog_12_method_24_code 10 = some (.bipush 24, 2) := by decide +kernel
theorem dm_X10_pick_12 : mj_dec prog_12_method_24_code 12 = some (.if_icmp .le 11, 3) := by decide +kernel
theorem dm_X10_pick_15 : mj_dec prog_12_method_24_code 15 = some (.bipush 8, 2) := by decide +kernel
theorem dm_X10_pick_17 : mj_dec prog_12_method_24_code 17 = some (.invokestatic 76, 3) := by decide +kernel
theorem dm_X10_pick_20 : mj_dec prog_12_method_24_code 20 = some (.goto 9, 3) := by decide +kernel
theorem dm_X10_pick_23 : mj_dec prog_12_method_24_code 23 = some (.aload_n 0, 1) := by decide +kernel
theorem dm_X10_pick_24 : mj_dec prog_12_method_24_code 24 = some (.aload_n 1, 1) := by decide +kernel
theorem dm_X10_pick_25 : mj_dec prog_12_method_24_code 25 = some (.iload_n 2, 1) := by decide +kernel
theorem dm_X10_pick_26 : mj_dec prog_12_method_24_code 26 = some (.invokevirtual 79, 3) := by decide +kernel
theorem dm_X10_pick_29 : mj_dec prog_12_method_24_code 29 = some (.areturn, 1) := by decide +kernel
theorem dm_X10_pick_30 : mj_dec prog_12_method_24_code 30 = some (.aload_n 0, 1) := by decide +kernel
theorem dm_X10_pick_31 : mj_dec prog_12_method_24_code 31 = some (.getfield 9, 3) := by decide +kernel
theorem dm_X10_pick_34 : mj_dec prog_12_method_24_code 34 = some (.bipush 6, 2) := by decide +kernel
theorem dm_X10_pick_36 : mj_dec prog_12_method_24_code 36 = some (.if_icmp .ne 27, 3) := by decide +kernel
theorem dm_X10_pick_39 : mj_dec prog_12_method_24_code 39 = some (.iload_n 2, 1) := by decide +kernel
theorem dm_X10_pick_40 : mj_dec prog_12_method_24_code 40 = some (.ifCond .eq 9, 3) := by decide +kernel
theorem dm_X10_pick_43 : mj_dec prog_12_method_24_code 43 = some (.iload_n 2, 1) := by decide +kernel
theorem dm_X10_pick_44 : mj_dec prog_12_method_24_code 44 = some (.bipush 12, 2) := by decide +kernel
theorem dm_X10_pick_46 : mj_dec prog_12_method_24_code 46 = some (.if_icmp .le 17, 3) := by decide +kernel
theorem dm_X10_pick_49 : mj_dec prog_12_method_24_code 49 = some (.iload_n 2, 1) := by decide +kernel
theorem dm_X10_pick_50 : mj_dec prog_12_method_24_code 50 = some (.ifCond .ne 7, 3) := by decide +kernel
theorem dm_X10_pick_53 : mj_dec prog_12_method_24_code 53 = some (.iconst 4, 1) := by decide +kernel
theorem dm_X10_pick_54 : mj_dec prog_12_method_24_code 54 = some (.goto 5, 3) := by decide +kernel
theorem dm_X10_pick_57 : mj_dec prog_12_method_24_code 57 = some (.bipush 8, 2) := by decide +kernel
theorem dm_X10_pick_59 : mj_dec prog_12_method_24_code 59 = some (.invokestatic 76, 3) := by decide +kernel
theorem dm_X10_pick_62 : mj_dec prog_12_method_24_code 62 = some (.areturn, 1) := by decide +kernel
theorem dm_X10_pick_63 : mj_dec prog_12_method_24_code 63 = some (.aload_n 0, 1) := by decide +kernel
theorem dm_X10_pick_64 : mj_dec prog_12_method_24_code 64 = some (.getfield 9, 3) := by decide +kernel
theorem dm_X10_pick_67 : mj_dec prog_12_method_24_code 67 = some (.bipush 6, 2) := by decide +kernel
theorem dm_X10_pick_69 : mj_dec prog_12_method_24_code 69 = some (.if_icmp .ne 10, 3) := by decide +kernel
theorem dm_X10_pick_72 : mj_dec prog_12_method_24_code 72 = some (.aload_n 0, 1) := by decide +kernel
theorem dm_X10_pick_73 : mj_dec prog_12_method_24_code 73 = some (.aload_n 1, 1) := by decide +kernel
theorem dm_X10_pick_74 : mj_dec prog_12_method_24_code 74 = some (.iload_n 2, 1) := by decide +kernel
theorem dm_X10_pick_75 : mj_dec prog_12_method_24_code 75 = some (.invokevirtual 83, 3) := by decide +kernel
theorem dm_X10_pick_78 : mj_dec prog_12_method_24_code 78 = some (.areturn, 1) := by decide +kernel
theorem dm_X10_pick_79 : mj_dec prog_12_method_24_code 79 = some (.aload_n 0, 1) := by decide +kernel
theorem dm_X10_pick_80 : mj_dec prog_12_method_24_code 80 = some (.getfield 9, 3) := by decide +kernel
theorem dm_X10_pick_83 : mj_dec prog_12_method_24_code 83 = some (.istore_n 3, 1) := by decide +kernel
theorem dm_X10_pick_84 : mj_dec prog_12_method_24_code 84 = some (.aload_n 0, 1) := by decide +kernel
theorem dm_X10_pick_85 : mj_dec prog_12_method_24_code 85 = some (.getfield 9, 3) := by decide +kernel
theorem dm_X10_pick_88 : mj_dec prog_12_method_24_code 88 = some (.iconst 1, 1) := by decide +kernel
theorem dm_X10_pick_89 : mj_dec prog_12_method_24_code 89 = some (.if_icmp .ne 8, 3) := by decide +kernel
theorem dm_X10_pick_92 : mj_dec prog_12_method_24_code 92 = some (.iconst 3, 1) := by decide +kernel
theorem dm_X10_pick_93 : mj_dec prog_12_method_24_code 93 = some (.istore_n 3, 1) := by decide +kernel
theorem dm_X10_pick_94 : mj_dec prog_12_method_24_code 94 = some (.goto 26, 3) := by decide +kernel
theorem dm_X10_pick_97 : mj_dec prog_12_method_24_code 97 = some (.aload_n 0, 1) := by decide +kernel
theorem dm_X10_pick_98 : mj_dec prog_12_method_24_code 98 = some (.getfield 9, 3) := by decide +kernel
theorem dm_X10_pick_101 : mj_dec prog_12_method_24_code 101 = some (.ifCond .ne 19, 3) := by decide +kernel
theorem dm_X10_pick_104 : mj_dec prog_12_method_24_code 104 = some (.aload_n 0, 1) := by decide +kernel
theorem dm_X10_pick_105 : mj_dec prog_12_method_24_code 105 = some (.getfield 15, 3) := by decide +kernel
theorem dm_X10_pick_108 : mj_dec prog_12_method_24_code 108 = some (.invokestatic 86, 3) := by decide +kernel
theorem dm_X10_pick_111 : mj_dec prog_12_method_24_code 111 = some (.ifCond .eq 7, 3) := by decide +kernel
theorem dm_X10_pick_114 : mj_dec prog_12_method_24_code 114 = some (.iconst 4, 1) := by decide +kernel
theorem dm_X10_pick_115 : mj_dec prog_12_method_24_code 115 = some (.goto 4, 3) := by decide +kernel
theorem dm_X10_pick_118 : mj_dec prog_12_method_24_code 118 = some (.iconst 5, 1) := by decide +kernel
theorem dm_X10_pick_119 : mj_dec prog_12_method_24_code 119 = some (.istore_n 3, 1) := by decide +kernel
theorem dm_X10_pick_120 : mj_dec prog_12_method_24_code 120 = some (.iload_n 2, 1) := by decide +kernel
theorem dm_X10_pick_121 : mj_dec prog_12_method_24_code 121 = some (.newarray .long, 2) := by decide +kernel
theorem dm_X10_pick_123 : mj_dec prog_12_method_24_code 123 = some (.astore 4, 2) := by decide +kernel
theorem dm_X10_pick_125 : mj_dec prog_12_method_24_code 125 = some (.iconst 0, 1) := by decide +kernel
theorem dm_X10_pick_126 : mj_dec prog_12_method_24_code 126 = some (.istore 5, 2) := by decide +kernel
theorem dm_X10_pick_128 : mj_dec prog_12_method_24_code 128 = some (.iload 5, 2) := by decide +kernel
theorem dm_X10_pick_130 : mj_dec prog_12_method_24_code 130 = some (.iload_n 2, 1) := by decide +kernel
theorem dm_X10_pick_131 : mj_dec prog_12_method_24_code 131 = some (.if_icmp .ge 29, 3) := by decide +kernel
theorem dm_X10_pick_134 : mj_dec prog_12_method_24_code 134 = some (.iload 5, 2) := by decide +kernel
theorem dm_X10_pick_136 : mj_dec prog_12_method_24_code 136 = some (.aload_n 1, 1) := by decide +kernel
theorem dm_X10_pick_137 : mj_dec prog_12_method_24_code 137 = some (.arraylength, 1) := by decide +kernel
theorem dm_X10_pick_138 : mj_dec prog_12_method_24_code 138 = some (.if_icmp .ge 22, 3) := by decide +kernel
theorem dm_X10_pick_141 : mj_dec prog_12_method_24_code 141 = some (.aload 4, 2) := by decide +kernel
theorem dm_X10_pick_143 : mj_dec prog_12_method_24_code 143 = some (.iload 5, 2) := by decide +kernel
theorem dm_X10_pick_145 : mj_dec prog_12_method_24_code 145 = some (.aload_n 0, 1) := by decide +kernel
theorem dm_X10_pick_146 : mj_dec prog_12_method_24_code 146 = some (.aload_n 1, 1) := by decide +kernel
theorem dm_X10_pick_147 : mj_dec prog_12_method_24_code 147 = some (.iload 5, 2) := by decide +kernel
theorem dm_X10_pick_149 : mj_dec prog_12_method_24_code 149 = some (.iaload, 1) := by decide +kernel
theorem dm_X10_pick_150 : mj_dec prog_12_method_24_code 150 = some (.invokevirtual 72, 3) := by decide +kernel
theorem dm_X10_pick_153 : mj_dec prog_12_method_24_code 153 = some (.lastore, 1) := by decide +kernel
theorem dm_X10_pick_154 : mj_dec prog_12_method_24_code 154 = some (.iinc 5 1, 3) := by decide +kernel
theorem dm_X10_pick_157 : mj_dec prog_12_method_24_code 157 = some (.goto (-29), 3) := by decide +kernel
theorem dm_X10_pick_160 : mj_dec prog_12_method_24_code 160 = some (.iload_n 3, 1) := by decide +kernel
theorem dm_X10_pick_161 : mj_dec prog_12_method_24_code 161 = some (.aload 4, 2) := by decide +kernel
theorem dm_X10_pick_163 : mj_dec prog_12_method_24_code 163 = some (.invokestatic 90, 3) := by decide +kernel
theorem dm_X10_pick_166 : mj_dec prog_12_method_24_code 166 = some (.areturn, 1) := by decide +kernel
theorem c_pick {xt : mj_X} {d e p : Nat} {A : Nat → Prop} {h : mj_H} {v : VV} {pl np n : Nat} {pf : Nat → Int} {f1 : Nat → Value} (hx1 : xt 1 = some (.long, 0, f1)) (hd : 5 ≤ d) (hA : okA A h) (hl : 127 ≤ h.length) (hv : cv A h (e + 1) p v) (hpl : h[pl]? = some (cI np pf)) (hpl2 : 2 ≤ pl) (hnp : np ≤ 1000) (hn : n ≤ np) (he : e ≤ 20) (hset : vsz (e + 1) v ≤ 1000) (hn120 : n ≤ 120) (hpf : ∀ k, k < n → -2147483648 ≤ pf k ∧ pf k ≤ 2147483647 ∧ (vk v ≤ 1 ∨ 0 ≤ pf k ∧ pf k < vm v)) : pgV xt d 113 [.ref p, .ref pl, ii (n : Int)] h (ares A h (e + 1) (s_pick v (fun k => (pf k).toNat) n) 2 (pcl v n + 9)) := by
  obtain ⟨hw, ⟨hp2, hpA⟩, hsz, hlv, row, fr, vals, hp, hfr, h1, h3, h7⟩ := id hv
  clear h1 h3 h7
  have hm := vw1_m hw
  have hvn0 : vk v ≤ 1 → vn v 0 = cnum v := fun z => by unfold cnum; rw [if_pos z]
  refine x_enter pm_X10_pick (L0 := [(0, .ref p), (1, .ref pl), (2, ii (n : Int))]) rfl (Nat.le_of_ble_eq_true rfl) (by omega) ?_
  refine me1 (pc' := 1) (L' := [(0, .ref p), (1, .ref pl), (2, ii (n : Int))]) (S' := [.ref p]) dm_X10_pick_0 rfl rfl rfl rfl ?_
  refine me3 (pc' := 4) (S' := [ii (vk v : Int)]) dm_X10_pick_1 (g_get (v := ii (vk v : Int)) hp rfl rfl (by omega)) rfl rfl rfl ?_
  refine me0 (pc' := 6) (S' := [ii 7, ii (vk v : Int)]) dm_X10_pick_4 rfl rfl rfl rfl ?_
  refine y_2ne (a := (vk v : Int)) (b := 7) (t := 30) (pc' := 9) dm_X10_pick_6 rfl rfl (by omega) (fun hb1 => ?_) (fun hb1 => ?_)
  · refine me1 (pc' := 31) (L' := [(0, .ref p), (1, .ref pl), (2, ii (n : Int))]) (S' := [.ref p]) dm_X10_pick_30 rfl rfl rfl rfl ?_
    refine me3 (pc' := 34) (S' := [ii (vk v : Int)]) dm_X10_pick_31 (g_get (v := ii (vk v : Int)) hp rfl rfl (by omega)) rfl rfl rfl ?_
    refine me0 (pc' := 36) (S' := [ii 6, ii (vk v : Int)]) dm_X10_pick_34 rfl rfl rfl rfl ?_
    refine y_2ne (a := (vk v : Int)) (b := 6) (t := 63) (pc' := 39) dm_X10_pick_36 rfl rfl (by omega) (fun hb2 => ?_) (fun hb2 => ?_)
    · refine me1 (pc' := 64) (L' := [(0, .ref p), (1, .ref pl), (2, ii (n : Int))]) (S' := [.ref p]) dm_X10_pick_63 rfl rfl rfl rfl ?_
      refine me3 (pc' := 67) (S' := [ii (vk v : Int)]) dm_X10_pick_64 (g_get (v := ii (vk v : Int)) hp rfl rfl (by omega)) rfl rfl rfl ?_
      refine me0 (pc' := 69) (S' := [ii 6, ii (vk v : Int)]) dm_X10_pick_67 rfl rfl rfl rfl ?_
      refine y_2ne (a := (vk v : Int)) (b := 6) (t := 79) (pc' := 72) dm_X10_pick_69 rfl rfl (by omega) (fun hb3 => ?_) (fun hb3 => ?_)
      · refine me1 (pc' := 80) (L' := [(0, .ref p), (1, .ref pl), (2, ii (n : Int))]) (S' := [.ref p]) dm_X10_pick_79 rfl rfl rfl rfl ?_
        refine me3 (pc' := 83) (S' := [ii (vk v : Int)]) dm_X10_pick_80 (g_get (v := ii (vk v : Int)) hp rfl rfl (by omega)) rfl rfl rfl ?_
        refine me1 (pc' := 84) (L' := [(3, ii (vk v : Int)), (0, .ref p), (1, .ref pl), (2, ii (n : Int))]) (S' := []) dm_X10_pick_83 rfl rfl rfl rfl ?_
        refine me1 (pc' := 85) (L' := [(3, ii (vk v : Int)), (0, .ref p), (1, .ref pl), (2, ii (n : Int))]) (S' := [.ref p]) dm_X10_pick_84 rfl rfl rfl rfl ?_
        refine me3 (pc' := 88) (S' := [ii (vk v : Int)]) dm_X10_pick_85 (g_get (v := ii (vk v : Int)) hp rfl rfl (by omega)) rfl rfl rfl ?_
        refine me0 (pc' := 89) (S' := [ii 1, ii (vk v : Int)]) dm_X10_pick_88 rfl rfl rfl rfl ?_
        refine y_2ne (a := (vk v : Int)) (b := 1) (t := 97) (pc' := 92) dm_X10_pick_89 rfl rfl (by omega) (fun hb4 => ?_) (fun hb4 => ?_)
        · refine me1 (pc' := 98) (L' := [(3, ii (vk v : Int)), (0, .ref p), (1, .ref pl), (2, ii (n : Int))]) (S' := [.ref p]) dm_X10_pick_97 rfl rfl rfl rfl ?_
          refine me3 (pc' := 101) (S' := [ii (vk v : Int)]) dm_X10_pick_98 (g_get (v := ii (vk v : Int)) hp rfl rfl (by omega)) rfl rfl rfl ?_
          refine y_1ne (a := (vk v : Int)) (t := 120) (pc' := 104) dm_X10_pick_101 rfl rfl (by omega) (fun hb5 => ?_) (fun hb5 => ?_)
          · have hpkk : pickk v = vk v := by unfold pickk; rw [if_neg (by omega), if_neg (by omega)]
            refine me1 (pc' := 121) (L' := [(3, ii (vk v : Int)), (0, .ref p), (1, .ref pl), (2, ii (n : Int))]) (S' := [ii (n : Int)]) dm_X10_pick_120 rfl rfl rfl rfl ?_
            refine me3 (pc' := 123) (S' := [.ref h.length]) (h1 := h ++ [cJ n (fun _ => 0)]) dm_X10_pick_121 (yh_newJ (by omega) (by omega) (by omega) rfl) rfl rfl rfl ?_
            refine me1 (pc' := 125) (L' := [(4, .ref h.length), (3, ii (vk v : Int)), (0, .ref p), (1, .ref pl), (2, ii (n : Int))]) (S' := []) dm_X10_pick_123 rfl rfl rfl rfl ?_
            refine me0 (pc' := 126) (S' := [ii 0]) dm_X10_pick_125 rfl rfl rfl rfl ?_
            refine me1 (pc' := 128) (L' := [(5, ii 0), (4, .ref h.length), (3, ii (vk v : Int)), (0, .ref p), (1, .ref pl), (2, ii (n : Int))]) (S' := []) dm_X10_pick_126 rfl rfl rfl rfl ?_
            have lp128 : ∀ (n128 : Nat) (k : Nat), n - k = n128 → (k ≤ n) → pgE xt (d - 1) 10 6 false (Option.some (Jvm.ClassFile.FieldType.object "ArrayCalculator$Value")) (mj_dec prog_12_method_24_code) 128 [(0, .ref p), (1, .ref pl), (2, ii (n : Int)), (3, ii (vk v : Int)), (4, .ref h.length), (5, ii (k : Int))] [] (h ++ [cJ n (fl k (fun i : Nat => vnum v (pf i)) (fun _ => 0))]) (fun r h' => ∃ x, r = some x ∧ ares A h (e + 1) (s_pick v (fun k => (pf k).toNat) n) 2 (pcl v n + 9) x h') := by
              intro n128
              induction n128 using Nat.strongRecOn with
              | ind n128 ih128 =>
                intro k hm128 hk
                refine me1 (pc' := 130) (L' := [(0, .ref p), (1, .ref pl), (2, ii (n : Int)), (3, ii (vk v : Int)), (4, .ref h.length), (5, ii (k : Int))]) (S' := [ii (k : Int)]) dm_X10_pick_128 rfl rfl rfl rfl ?_
                refine me1 (pc' := 131) (L' := [(0, .ref p), (1, .ref pl), (2, ii (n : Int)), (3, ii (vk v : Int)), (4, .ref h.length), (5, ii (k : Int))]) (S' := [ii (n : Int), ii (k : Int)]) dm_X10_pick_130 rfl rfl rfl rfl ?_
                refine y_2ge (a := (k : Int)) (b := (n : Int)) (t := 160) (pc' := 134) dm_X10_pick_131 rfl rfl (by omega) (fun hb6 => ?_) (fun hb6 => ?_)
                · refine me1 (pc' := 161) (L' := [(0, .ref p), (1, .ref pl), (2, ii (n : Int)), (3, ii (vk v : Int)), (4, .ref h.length), (5, ii (k : Int))]) (S' := [ii (vk v : Int)]) dm_X10_pick_160 rfl rfl rfl rfl ?_
                  refine me1 (pc' := 163) (L' := [(0, .ref p), (1, .ref pl), (2, ii (n : Int)), (3, ii (vk v : Int)), (4, .ref h.length), (5, ii (k : Int))]) (S' := [.ref h.length, ii (vk v : Int)]) dm_X10_pick_161 rfl rfl rfl rfl ?_
                  refine x_cv (pc' := 166) (rest := []) dm_X10_pick_163 rfl (g_invs (As := [ii (vk v : Int), .ref h.length]) (S := []) rfl rfl rfl) rfl rfl rfl (c_row (hx1 := hx1) (q := h.length + 1) (by omega) (by simp; omega) (by simp) (by omega) (show rowAt (fun _ => True) _ _ _ _ from Or.inr ⟨by omega, hl_new, by omega, trivial⟩) (by omega)) ?_
                  rintro _ _ ⟨rfl, rfl⟩
                  refine y_ret (r := some (.ref (h.length + 1))) dm_X10_pick_166 rfl rfl rfl ?_
                  have hkn : k = n := by omega
                  subst hkn
                  rw [s_pick_r (by omega), vpick_r (by omega), pcl_n (by omega)]
                  have hwp := vw1_pick (o := fun k => (pf k).toNat) hw (show vk v ≤ 5 by omega) (show k ≤ 120 by omega) (fun j hj => by have := hpf j hj; omega)
                  rw [hpkk] at hwp ⊢
                  refine ⟨_, rfl, vres_flat (w := vrow (vk v) k (fun j => vn v (if vk v ≤ 1 then 0 else (pf j).toNat))) (by omega) hwp (by show 2 ≤ vk v; omega) (by show vk v ≤ 6; omega) (vq_row (by omega)) (fun j hj => ?_) (by omega) (by omega)⟩
                  rw [fl_at _ _ hj]
                  have hpj := hpf j hj
                  show vnum v (pf j) = vn v (if vk v ≤ 1 then 0 else (pf j).toNat)
                  by_cases h1k : vk v ≤ 1
                  · rw [if_pos h1k, vnum_1 h1k]
                  · rw [if_neg h1k, vnum_r (by omega) (by omega) (by have hq9 : vq v = vm v := (by unfold vq; rw [if_neg (by omega), if_neg (by omega)]); omega)]
                · have hpk := hpf k (by omega)
                  refine me1 (pc' := 136) (L' := [(0, .ref p), (1, .ref pl), (2, ii (n : Int)), (3, ii (vk v : Int)), (4, .ref h.length), (5, ii (k : Int))]) (S' := [ii (k : Int)]) dm_X10_pick_134 rfl rfl rfl rfl ?_
                  refine me1 (pc' := 137) (L' := [(0, .ref p), (1, .ref pl), (2, ii (n : Int)), (3, ii (vk v : Int)), (4, .ref h.length), (5, ii (k : Int))]) (S' := [.ref pl, ii (k : Int)]) dm_X10_pick_136 rfl rfl rfl rfl ?_
                  refine me3 (pc' := 138) (S' := [ii np, ii (k : Int)]) dm_X10_pick_137 (yh_len (n := np) rfl (hl_app hpl) (by omega)) rfl rfl rfl ?_
                  refine y_2ge (a := (k : Int)) (b := np) (t := 160) (pc' := 141) dm_X10_pick_138 rfl rfl (by omega) (fun hb7 => ?_) (fun hb7 => ?_)
                  · refine me1 (pc' := 161) (L' := [(0, .ref p), (1, .ref pl), (2, ii (n : Int)), (3, ii (vk v : Int)), (4, .ref h.length), (5, ii (k : Int))]) (S' := [ii (vk v : Int)]) dm_X10_pick_160 rfl rfl rfl rfl ?_
                    refine me1 (pc' := 163) (L' := [(0, .ref p), (1, .ref pl), (2, ii (n : Int)), (3, ii (vk v : Int)), (4, .ref h.length), (5, ii (k : Int))]) (S' := [.ref h.length, ii (vk v : Int)]) dm_X10_pick_161 rfl rfl rfl rfl ?_
                    refine x_cv (pc' := 166) (rest := []) dm_X10_pick_163 rfl (g_invs (As := [ii (vk v : Int), .ref h.length]) (S := []) rfl rfl rfl) rfl rfl rfl (c_row (hx1 := hx1) (q := h.length + 1) (by omega) (by simp; omega) (by simp) (by omega) (show rowAt (fun _ => True) _ _ _ _ from Or.inr ⟨by omega, hl_new, by omega, trivial⟩) (by omega)) ?_
                    rintro _ _ ⟨rfl, rfl⟩
                    refine y_ret (r := some (.ref (h.length + 1))) dm_X10_pick_166 rfl rfl rfl ?_
                    have hkn : k = n := by omega
                    subst hkn
                    rw [s_pick_r (by omega), vpick_r (by omega), pcl_n (by omega)]
                    have hwp := vw1_pick (o := fun k => (pf k).toNat) hw (show vk v ≤ 5 by omega) (show k ≤ 120 by omega) (fun j hj => by have := hpf j hj; omega)
                    rw [hpkk] at hwp ⊢
                    refine ⟨_, rfl, vres_flat (w := vrow (vk v) k (fun j => vn v (if vk v ≤ 1 then 0 else (pf j).toNat))) (by omega) hwp (by show 2 ≤ vk v; omega) (by show vk v ≤ 6; omega) (vq_row (by omega)) (fun j hj => ?_) (by omega) (by omega)⟩
                    rw [fl_at _ _ hj]
                    have hpj := hpf j hj
                    show vnum v (pf j) = vn v (if vk v ≤ 1 then 0 else (pf j).toNat)
                    by_cases h1k : vk v ≤ 1
                    · rw [if_pos h1k, vnum_1 h1k]
                    · rw [if_neg h1k, vnum_r (by omega) (by omega) (by have hq9 : vq v = vm v := (by unfold vq; rw [if_neg (by omega), if_neg (by omega)]); omega)]
                  · refine me1 (pc' := 143) (L' := [(0, .ref p), (1, .ref pl), (2, ii (n : Int)), (3, ii (vk v : Int)), (4, .ref h.length), (5, ii (k : Int))]) (S' := [.ref h.length]) dm_X10_pick_141 rfl rfl rfl rfl ?_
                    refine me1 (pc' := 145) (L' := [(0, .ref p), (1, .ref pl), (2, ii (n : Int)), (3, ii (vk v : Int)), (4, .ref h.length), (5, ii (k : Int))]) (S' := [ii (k : Int), .ref h.length]) dm_X10_pick_143 rfl rfl rfl rfl ?_
                    refine me1 (pc' := 146) (L' := [(0, .ref p), (1, .ref pl), (2, ii (n : Int)), (3, ii (vk v : Int)), (4, .ref h.length), (5, ii (k : Int))]) (S' := [.ref p, ii (k : Int), .ref h.length]) dm_X10_pick_145 rfl rfl rfl rfl ?_
                    refine me1 (pc' := 147) (L' := [(0, .ref p), (1, .ref pl), (2, ii (n : Int)), (3, ii (vk v : Int)), (4, .ref h.length), (5, ii (k : Int))]) (S' := [.ref pl, .ref p, ii (k : Int), .ref h.length]) dm_X10_pick_146 rfl rfl rfl rfl ?_
                    refine me1 (pc' := 149) (L' := [(0, .ref p), (1, .ref pl), (2, ii (n : Int)), (3, ii (vk v : Int)), (4, .ref h.length), (5, ii (k : Int))]) (S' := [ii (k : Int), .ref pl, .ref p, ii (k : Int), .ref h.length]) dm_X10_pick_147 rfl rfl rfl rfl ?_
                    refine me3 (pc' := 150) (S' := [ii (pf k), .ref p, ii (k : Int), .ref h.length]) dm_X10_pick_149 (yh_iald (v := pf k) (hl_app hpl) (by omega) (by omega) (by omega) (by omega) rfl) rfl rfl rfl ?_
                    refine x_cp (pc' := 153) (v := .long (vnum v (pf k))) (rest := [ii (k : Int), .ref h.length]) dm_X10_pick_150 rfl (g_inv (As := [ii (pf k)]) (S := [ii (k : Int), .ref h.length]) (hl_app hp) rfl rfl rfl (by omega)) rfl rfl rfl (c_numberAt (i := pf k) hx1 (by omega) (cv_app hv) (by omega)) ?_
                    refine me3 (pc' := 154) (S' := []) (h1 := h ++ [cJ n (va_up (fl k (fun i : Nat => vnum v (pf i)) (fun _ => 0)) k (vnum v (pf k)))]) dm_X10_pick_153 (y_hs (yh_last (j := (k : Int)) hl_new (by omega) (by omega) (by omega) (by omega)) (by rw [show (k : Int).toNat = k from rfl]; exact (hl_setl))) rfl rfl rfl ?_
                    refine y_iinc (pc' := 157) (L' := [(5, ii ((k : Int) + 1)), (0, .ref p), (1, .ref pl), (2, ii (n : Int)), (3, ii (vk v : Int)), (4, .ref h.length)]) dm_X10_pick_154 (y_incp (a := (k : Int)) (c := 1) rfl rfl (by decide)) rfl ?_
                    refine me2 (pc' := 128) (S' := []) dm_X10_pick_157 rfl rfl rfl ?_
                    refine pg_cast (h2 := h ++ [cJ n (fl (k + 1) (fun i : Nat => vnum v (pf i)) (fun _ => 0))]) (congrArg (fun z => h ++ [cJ n z]) (fl_s k (fun i : Nat => vnum v (pf i)) (fun _ => 0))) ?_
                    exact pg_sub (L := [(0, .ref p), (1, .ref pl), (2, ii (n : Int)), (3, ii (vk v : Int)), (4, .ref h.length), (5, ii ((k + 1) : Int))]) rfl rfl rfl (ih128 (n - (k + 1)) (by omega) (k + 1) rfl (by omega))
            refine pg_cast (h2 := h ++ [cJ n (fl 0 (fun i : Nat => vnum v (pf i)) (fun _ => 0))]) (congrArg (fun z => h ++ [cJ n z]) (fl_0 _ _).symm) ?_
            exact pg_sub (L := [(0, .ref p), (1, .ref pl), (2, ii (n : Int)), (3, ii (vk v : Int)), (4, .ref h.length), (5, ii (0 : Int))]) rfl rfl rfl (lp128 _ 0 rfl (Nat.zero_le _))
          · refine me1 (pc' := 105) (L' := [(3, ii (vk v : Int)), (0, .ref p), (1, .ref pl), (2, ii (n : Int))]) (S' := [.ref p]) dm_X10_pick_104 rfl rfl rfl rfl ?_
            refine me3 (pc' := 108) (S' := [.long (cnum v)]) dm_X10_pick_105 (g_get (v := .long (cnum v)) hp rfl rfl (by omega)) rfl rfl rfl ?_
            refine x_cp (pc' := 111) (v := zz (fitsB (cnum v))) (rest := []) dm_X10_pick_108 rfl (g_invs (As := [.long (cnum v)]) (S := []) rfl rfl rfl) rfl rfl rfl (c_fitsInt (by omega)) ?_
            refine y_zeq (c := fitsB (cnum v)) (t := 118) (pc' := 114) dm_X10_pick_111 rfl rfl (fun hb8 => ?_) (fun hb8 => ?_)
            · refine me0 (pc' := 119) (S' := [ii 5]) dm_X10_pick_118 rfl rfl rfl rfl ?_
              refine me1 (pc' := 120) (L' := [(3, ii 5), (0, .ref p), (1, .ref pl), (2, ii (n : Int))]) (S' := []) dm_X10_pick_119 rfl rfl rfl rfl ?_
              have hpkk : pickk v = 5 := by unfold pickk; rw [if_neg (by omega), if_pos (by omega), if_neg (by rw [hvn0 (by omega), hb8]; decide)]
              refine me1 (pc' := 121) (L' := [(3, ii 5), (0, .ref p), (1, .ref pl), (2, ii (n : Int))]) (S' := [ii (n : Int)]) dm_X10_pick_120 rfl rfl rfl rfl ?_
              refine me3 (pc' := 123) (S' := [.ref h.length]) (h1 := h ++ [cJ n (fun _ => 0)]) dm_X10_pick_121 (yh_newJ (by omega) (by omega) (by omega) rfl) rfl rfl rfl ?_
              refine me1 (pc' := 125) (L' := [(4, .ref h.length), (3, ii 5), (0, .ref p), (1, .ref pl), (2, ii (n : Int))]) (S' := []) dm_X10_pick_123 rfl rfl rfl rfl ?_
              refine me0 (pc' := 126) (S' := [ii 0]) dm_X10_pick_125 rfl rfl rfl rfl ?_
              refine me1 (pc' := 128) (L' := [(5, ii 0), (4, .ref h.length), (3, ii 5), (0, .ref p), (1, .ref pl), (2, ii (n : Int))]) (S' := []) dm_X10_pick_126 rfl rfl rfl rfl ?_
              have lp128 : ∀ (n128 : Nat) (k : Nat), n - k = n128 → (k ≤ n) → pgE xt (d - 1) 10 6 false (Option.some (Jvm.ClassFile.FieldType.object "ArrayCalculator$Value")) (mj_dec prog_12_method_24_code) 128 [(0, .ref p), (1, .ref pl), (2, ii (n : Int)), (3, ii 5), (4, .ref h.length), (5, ii (k : Int))] [] (h ++ [cJ n (fl k (fun i : Nat => vnum v (pf i)) (fun _ => 0))]) (fun r h' => ∃ x, r = some x ∧ ares A h (e + 1) (s_pick v (fun k => (pf k).toNat) n) 2 (pcl v n + 9) x h') := by
                intro n128
                induction n128 using Nat.strongRecOn with
                | ind n128 ih128 =>
                  intro k hm128 hk
                  refine me1 (pc' := 130) (L' := [(0, .ref p), (1, .ref pl), (2, ii (n : Int)), (3, ii 5), (4, .ref h.length), (5, ii (k : Int))]) (S' := [ii (k : Int)]) dm_X10_pick_128 rfl rfl rfl rfl ?_
                  refine me1 (pc' := 131) (L' := [(0, .ref p), (1, .ref pl), (2, ii (n : Int)), (3, ii 5), (4, .ref h.length), (5, ii (k : Int))]) (S' := [ii (n : Int), ii (k : Int)]) dm_X10_pick_130 rfl rfl rfl rfl ?_
                  refine y_2ge (a := (k : Int)) (b := (n : Int)) (t := 160) (pc' := 134) dm_X10_pick_131 rfl rfl (by omega) (fun hb9 => ?_) (fun hb9 => ?_)
                  · refine me1 (pc' := 161) (L' := [(0, .ref p), (1, .ref pl), (2, ii (n : Int)), (3, ii 5), (4, .ref h.length), (5, ii (k : Int))]) (S' := [ii 5]) dm_X10_pick_160 rfl rfl rfl rfl ?_
                    refine me1 (pc' := 163) (L' := [(0, .ref p), (1, .ref pl), (2, ii (n : Int)), (3, ii 5), (4, .ref h.length), (5, ii (k : Int))]) (S' := [.ref h.length, ii 5]) dm_X10_pick_161 rfl rfl rfl rfl ?_
                    refine x_cv (pc' := 166) (rest := []) dm_X10_pick_163 rfl (g_invs (As := [ii 5, .ref h.length]) (S := []) rfl rfl rfl) rfl rfl rfl (c_row (hx1 := hx1) (q := h.length + 1) (by omega) (by simp; omega) (by simp) (by omega) (show rowAt (fun _ => True) _ _ _ _ from Or.inr ⟨by omega, hl_new, by omega, trivial⟩) (by omega)) ?_
                    rintro _ _ ⟨rfl, rfl⟩
                    refine y_ret (r := some (.ref (h.length + 1))) dm_X10_pick_166 rfl rfl rfl ?_
                    have hkn : k = n := by omega
                    subst hkn
                    rw [s_pick_r (by omega), vpick_r (by omega), pcl_n (by omega)]
                    have hwp := vw1_pick (o := fun k => (pf k).toNat) hw (show vk v ≤ 5 by omega) (show k ≤ 120 by omega) (fun j hj => by have := hpf j hj; omega)
                    rw [hpkk] at hwp ⊢
                    refine ⟨_, rfl, vres_flat (w := vrow 5 k (fun j => vn v (if vk v ≤ 1 then 0 else (pf j).toNat))) (by omega) hwp (by show 2 ≤ 5; omega) (by show 5 ≤ 6; omega) (vq_row (by omega)) (fun j hj => ?_) (by omega) (by omega)⟩
                    rw [fl_at _ _ hj]
                    have hpj := hpf j hj
                    show vnum v (pf j) = vn v (if vk v ≤ 1 then 0 else (pf j).toNat)
                    by_cases h1k : vk v ≤ 1
                    · rw [if_pos h1k, vnum_1 h1k]
                    · rw [if_neg h1k, vnum_r (by omega) (by omega) (by have hq9 : vq v = vm v := (by unfold vq; rw [if_neg (by omega), if_neg (by omega)]); omega)]
                  · have hpk := hpf k (by omega)
                    refine me1 (pc' := 136) (L' := [(0, .ref p), (1, .ref pl), (2, ii (n : Int)), (3, ii 5), (4, .ref h.length), (5, ii (k : Int))]) (S' := [ii (k : Int)]) dm_X10_pick_134 rfl rfl rfl rfl ?_
                    refine me1 (pc' := 137) (L' := [(0, .ref p), (1, .ref pl), (2, ii (n : Int)), (3, ii 5), (4, .ref h.length), (5, ii (k : Int))]) (S' := [.ref pl, ii (k : Int)]) dm_X10_pick_136 rfl rfl rfl rfl ?_
                    refine me3 (pc' := 138) (S' := [ii np, ii (k : Int)]) dm_X10_pick_137 (yh_len (n := np) rfl (hl_app hpl) (by omega)) rfl rfl rfl ?_
                    refine y_2ge (a := (k : Int)) (b := np) (t := 160) (pc' := 141) dm_X10_pick_138 rfl rfl (by omega) (fun hb10 => ?_) (fun hb10 => ?_)
                    · refine me1 (pc' := 161) (L' := [(0, .ref p), (1, .ref pl), (2, ii (n : Int)), (3, ii 5), (4, .ref h.length), (5, ii (k : Int))]) (S' := [ii 5]) dm_X10_pick_160 rfl rfl rfl rfl ?_
                      refine me1 (pc' := 163) (L' := [(0, .ref p), (1, .ref pl), (2, ii (n : Int)), (3, ii 5), (4, .ref h.length), (5, ii (k : Int))]) (S' := [.ref h.length, ii 5]) dm_X10_pick_161 rfl rfl rfl rfl ?_
                      refine x_cv (pc' := 166) (rest := []) dm_X10_pick_163 rfl (g_invs (As := [ii 5, .ref h.length]) (S := []) rfl rfl rfl) rfl rfl rfl (c_row (hx1 := hx1) (q := h.length + 1) (by omega) (by simp; omega) (by simp) (by omega) (show rowAt (fun _ => True) _ _ _ _ from Or.inr ⟨by omega, hl_new, by omega, trivial⟩) (by omega)) ?_
                      rintro _ _ ⟨rfl, rfl⟩
                      refine y_ret (r := some (.ref (h.length + 1))) dm_X10_pick_166 rfl rfl rfl ?_
                      have hkn : k = n := by omega
                      subst hkn
                      rw [s_pick_r (by omega), vpick_r (by omega), pcl_n (by omega)]
                      have hwp := vw1_pick (o := fun k => (pf k).toNat) hw (show vk v ≤ 5 by omega) (show k ≤ 120 by omega) (fun j hj => by have := hpf j hj; omega)
                      rw [hpkk] at hwp ⊢
                      refine ⟨_, rfl, vres_flat (w := vrow 5 k (fun j => vn v (if vk v ≤ 1 then 0 else (pf j).toNat))) (by omega) hwp (by show 2 ≤ 5; omega) (by show 5 ≤ 6; omega) (vq_row (by omega)) (fun j hj => ?_) (by omega) (by omega)⟩
                      rw [fl_at _ _ hj]
                      have hpj := hpf j hj
                      show vnum v (pf j) = vn v (if vk v ≤ 1 then 0 else (pf j).toNat)
                      by_cases h1k : vk v ≤ 1
                      · rw [if_pos h1k, vnum_1 h1k]
                      · rw [if_neg h1k, vnum_r (by omega) (by omega) (by have hq9 : vq v = vm v := (by unfold vq; rw [if_neg (by omega), if_neg (by omega)]); omega)]
                    · refine me1 (pc' := 143) (L' := [(0, .ref p), (1, .ref pl), (2, ii (n : Int)), (3, ii 5), (4, .ref h.length), (5, ii (k : Int))]) (S' := [.ref h.length]) dm_X10_pick_141 rfl rfl rfl rfl ?_
                      refine me1 (pc' := 145) (L' := [(0, .ref p), (1, .ref pl), (2, ii (n : Int)), (3, ii 5), (4, .ref h.length), (5, ii (k : Int))]) (S' := [ii (k : Int), .ref h.length]) dm_X10_pick_143 rfl rfl rfl rfl ?_
                      refine me1 (pc' := 146) (L' := [(0, .ref p), (1, .ref pl), (2, ii (n : Int)), (3, ii 5), (4, .ref h.length), (5, ii (k : Int))]) (S' := [.ref p, ii (k : Int), .ref h.length]) dm_X10_pick_145 rfl rfl rfl rfl ?_
                      refine me1 (pc' := 147) (L' := [(0, .ref p), (1, .ref pl), (2, ii (n : Int)), (3, ii 5), (4, .ref h.length), (5, ii (k : Int))]) (S' := [.ref pl, .ref p, ii (k : Int), .ref h.length]) dm_X10_pick_146 rfl rfl rfl rfl ?_
                      refine me1 (pc' := 149) (L' := [(0, .ref p), (1, .ref pl), (2, ii (n : Int)), (3, ii 5), (4, .ref h.length), (5, ii (k : Int))]) (S' := [ii (k : Int), .ref pl, .ref p, ii (k : Int), .ref h.length]) dm_X10_pick_147 rfl rfl rfl rfl ?_
                      refine me3 (pc' := 150) (S' := [ii (pf k), .ref p, ii (k : Int), .ref h.length]) dm_X10_pick_149 (yh_iald (v := pf k) (hl_app hpl) (by omega) (by omega) (by omega) (by omega) rfl) rfl rfl rfl ?_
                      refine x_cp (pc' := 153) (v := .long (vnum v (pf k))) (rest := [ii (k : Int), .ref h.length]) dm_X10_pick_150 rfl (g_inv (As := [ii (pf k)]) (S := [ii (k : Int), .ref h.length]) (hl_app hp) rfl rfl rfl (by omega)) rfl rfl rfl (c_numberAt (i := pf k) hx1 (by omega) (cv_app hv) (by omega)) ?_
                      refine me3 (pc' := 154) (S' := []) (h1 := h ++ [cJ n (va_up (fl k (fun i : Nat => vnum v (pf i)) (fun _ => 0)) k (vnum v (pf k)))]) dm_X10_pick_153 (y_hs (yh_last (j := (k : Int)) hl_new (by omega) (by omega) (by omega) (by omega)) (by rw [show (k : Int).toNat = k from rfl]; exact (hl_setl))) rfl rfl rfl ?_
                      refine y_iinc (pc' := 157) (L' := [(5, ii ((k : Int) + 1)), (0, .ref p), (1, .ref pl), (2, ii (n : Int)), (3, ii 5), (4, .ref h.length)]) dm_X10_pick_154 (y_incp (a := (k : Int)) (c := 1) rfl rfl (by decide)) rfl ?_
                      refine me2 (pc' := 128) (S' := []) dm_X10_pick_157 rfl rfl rfl ?_
                      refine pg_cast (h2 := h ++ [cJ n (fl (k + 1) (fun i : Nat => vnum v (pf i)) (fun _ => 0))]) (congrArg (fun z => h ++ [cJ n z]) (fl_s k (fun i : Nat => vnum v (pf i)) (fun _ => 0))) ?_
                      exact pg_sub (L := [(0, .ref p), (1, .ref pl), (2, ii (n : Int)), (3, ii 5), (4, .ref h.length), (5, ii ((k + 1) : Int))]) rfl rfl rfl (ih128 (n - (k + 1)) (by omega) (k + 1) rfl (by omega))
              refine pg_cast (h2 := h ++ [cJ n (fl 0 (fun i : Nat => vnum v (pf i)) (fun _ => 0))]) (congrArg (fun z => h ++ [cJ n z]) (fl_0 _ _).symm) ?_
              exact pg_sub (L := [(0, .ref p), (1, .ref pl), (2, ii (n : Int)), (3, ii 5), (4, .ref h.length), (5, ii (0 : Int))]) rfl rfl rfl (lp128 _ 0 rfl (Nat.zero_le _))
            · refine me0 (pc' := 115) (S' := [ii 4]) dm_X10_pick_114 rfl rfl rfl rfl ?_
              refine me2 (pc' := 119) (S' := [ii 4]) dm_X10_pick_115 rfl rfl rfl ?_
              refine me1 (pc' := 120) (L' := [(3, ii 4), (0, .ref p), (1, .ref pl), (2, ii (n : Int))]) (S' := []) dm_X10_pick_119 rfl rfl rfl rfl ?_
              have hpkk : pickk v = 4 := by unfold pickk; rw [if_neg (by omega), if_pos (by omega), if_pos (by rw [hvn0 (by omega)]; exact hb8)]
              refine me1 (pc' := 121) (L' := [(3, ii 4), (0, .ref p), (1, .ref pl), (2, ii (n : Int))]) (S' := [ii (n : Int)]) dm_X10_pick_120 rfl rfl rfl rfl ?_
              refine me3 (pc' := 123) (S' := [.ref h.length]) (h1 := h ++ [cJ n (fun _ => 0)]) dm_X10_pick_121 (yh_newJ (by omega) (by omega) (by omega) rfl) rfl rfl rfl ?_
              refine me1 (pc' := 125) (L' := [(4, .ref h.length), (3, ii 4), (0, .ref p), (1, .ref pl), (2, ii (n : Int))]) (S' := []) dm_X10_pick_123 rfl rfl rfl rfl ?_
              refine me0 (pc' := 126) (S' := [ii 0]) dm_X10_pick_125 rfl rfl rfl rfl ?_
              refine me1 (pc' := 128) (L' := [(5, ii 0), (4, .ref h.length), (3, ii 4), (0, .ref p), (1, .ref pl), (2, ii (n : Int))]) (S' := []) dm_X10_pick_126 rfl rfl rfl rfl ?_
              have lp128 : ∀ (n128 : Nat) (k : Nat), n - k = n128 → (k ≤ n) → pgE xt (d - 1) 10 6 false (Option.some (Jvm.ClassFile.FieldType.object "ArrayCalculator$Value")) (mj_dec prog_12_method_24_code) 128 [(0, .ref p), (1, .ref pl), (2, ii (n : Int)), (3, ii 4), (4, .ref h.length), (5, ii (k : Int))] [] (h ++ [cJ n (fl k (fun i : Nat => vnum v (pf i)) (fun _ => 0))]) (fun r h' => ∃ x, r = some x ∧ ares A h (e + 1) (s_pick v (fun k => (pf k).toNat) n) 2 (pcl v n + 9) x h') := by
                intro n128
                induction n128 using Nat.strongRecOn with
                | ind n128 ih128 =>
                  intro k hm128 hk
                  refine me1 (pc' := 130) (L' := [(0, .ref p), (1, .ref pl), (2, ii (n : Int)), (3, ii 4), (4, .ref h.length), (5, ii (k : Int))]) (S' := [ii (k : Int)]) dm_X10_pick_128 rfl rfl rfl rfl ?_
                  refine me1 (pc' := 131) (L' := [(0, .ref p), (1, .ref pl), (2, ii (n : Int)), (3, ii 4), (4, .ref h.length), (5, ii (k : Int))]) (S' := [ii (n : Int), ii (k : Int)]) dm_X10_pick_130 rfl rfl rfl rfl ?_
                  refine y_2ge (a := (k : Int)) (b := (n : Int)) (t := 160) (pc' := 134) dm_X10_pick_131 rfl rfl (by omega) (fun hb11 => ?_) (fun hb11 => ?_)
                  · refine me1 (pc' := 161) (L' := [(0, .ref p), (1, .ref pl), (2, ii (n : Int)), (3, ii 4), (4, .ref h.length), (5, ii (k : Int))]) (S' := [ii 4]) dm_X10_pick_160 rfl rfl rfl rfl ?_
                    refine me1 (pc' := 163) (L' := [(0, .ref p), (1, .ref pl), (2, ii (n : Int)), (3, ii 4), (4, .ref h.length), (5, ii (k : Int))]) (S' := [.ref h.length, ii 4]) dm_X10_pick_161 rfl rfl rfl rfl ?_
                    refine x_cv (pc' := 166) (rest := []) dm_X10_pick_163 rfl (g_invs (As := [ii 4, .ref h.length]) (S := []) rfl rfl rfl) rfl rfl rfl (c_row (hx1 := hx1) (q := h.length + 1) (by omega) (by simp; omega) (by simp) (by omega) (show rowAt (fun _ => True) _ _ _ _ from Or.inr ⟨by omega, hl_new, by omega, trivial⟩) (by omega)) ?_
                    rintro _ _ ⟨rfl, rfl⟩
                    refine y_ret (r := some (.ref (h.length + 1))) dm_X10_pick_166 rfl rfl rfl ?_
                    have hkn : k = n := by omega
                    subst hkn
                    rw [s_pick_r (by omega), vpick_r (by omega), pcl_n (by omega)]
                    have hwp := vw1_pick (o := fun k => (pf k).toNat) hw (show vk v ≤ 5 by omega) (show k ≤ 120 by omega) (fun j hj => by have := hpf j hj; omega)
                    rw [hpkk] at hwp ⊢
                    refine ⟨_, rfl, vres_flat (w := vrow 4 k (fun j => vn v (if vk v ≤ 1 then 0 else (pf j).toNat))) (by omega) hwp (by show 2 ≤ 4; omega) (by show 4 ≤ 6; omega) (vq_row (by omega)) (fun j hj => ?_) (by omega) (by omega)⟩
                    rw [fl_at _ _ hj]
                    have hpj := hpf j hj
                    show vnum v (pf j) = vn v (if vk v ≤ 1 then 0 else (pf j).toNat)
                    by_cases h1k : vk v ≤ 1
                    · rw [if_pos h1k, vnum_1 h1k]
                    · rw [if_neg h1k, vnum_r (by omega) (by omega) (by have hq9 : vq v = vm v := (by unfold vq; rw [if_neg (by omega), if_neg (by omega)]); omega)]
                  · have hpk := hpf k (by omega)
                    refine me1 (pc' := 136) (L' := [(0, .ref p), (1, .ref pl), (2, ii (n : Int)), (3, ii 4), (4, .ref h.length), (5, ii (k : Int))]) (S' := [ii (k : Int)]) dm_X10_pick_134 rfl rfl rfl rfl ?_
                    refine me1 (pc' := 137) (L' := [(0, .ref p), (1, .ref pl), (2, ii (n : Int)), (3, ii 4), (4, .ref h.length), (5, ii (k : Int))]) (S' := [.ref pl, ii (k : Int)]) dm_X10_pick_136 rfl rfl rfl rfl ?_
                    refine me3 (pc' := 138) (S' := [ii np, ii (k : Int)]) dm_X10_pick_137 (yh_len (n := np) rfl (hl_app hpl) (by omega)) rfl rfl rfl ?_
                    refine y_2ge (a := (k : Int)) (b := np) (t := 160) (pc' := 141) dm_X10_pick_138 rfl rfl (by omega) (fun hb12 => ?_) (fun hb12 => ?_)
                    · refine me1 (pc' := 161) (L' := [(0, .ref p), (1, .ref pl), (2, ii (n : Int)), (3, ii 4), (4, .ref h.length), (5, ii (k : Int))]) (S' := [ii 4]) dm_X10_pick_160 rfl rfl rfl rfl ?_
                      refine me1 (pc' := 163) (L' := [(0, .ref p), (1, .ref pl), (2, ii (n : Int)), (3, ii 4), (4, .ref h.length), (5, ii (k : Int))]) (S' := [.ref h.length, ii 4]) dm_X10_pick_161 rfl rfl rfl rfl ?_
                      refine x_cv (pc' := 166) (rest := []) dm_X10_pick_163 rfl (g_invs (As := [ii 4, .ref h.length]) (S := []) rfl rfl rfl) rfl rfl rfl (c_row (hx1 := hx1) (q := h.length + 1) (by omega) (by simp; omega) (by simp) (by omega) (show rowAt (fun _ => True) _ _ _ _ from Or.inr ⟨by omega, hl_new, by omega, trivial⟩) (by omega)) ?_
                      rintro _ _ ⟨rfl, rfl⟩
                      refine y_ret (r := some (.ref (h.length + 1))) dm_X10_pick_166 rfl rfl rfl ?_
                      have hkn : k = n := by omega
                      subst hkn
                      rw [s_pick_r (by omega), vpick_r (by omega), pcl_n (by omega)]
                      have hwp := vw1_pick (o := fun k => (pf k).toNat) hw (show vk v ≤ 5 by omega) (show k ≤ 120 by omega) (fun j hj => by have := hpf j hj; omega)
                      rw [hpkk] at hwp ⊢
                      refine ⟨_, rfl, vres_flat (w := vrow 4 k (fun j => vn v (if vk v ≤ 1 then 0 else (pf j).toNat))) (by omega) hwp (by show 2 ≤ 4; omega) (by show 4 ≤ 6; omega) (vq_row (by omega)) (fun j hj => ?_) (by omega) (by omega)⟩
                      rw [fl_at _ _ hj]
                      have hpj := hpf j hj
                      show vnum v (pf j) = vn v (if vk v ≤ 1 then 0 else (pf j).toNat)
                      by_cases h1k : vk v ≤ 1
                      · rw [if_pos h1k, vnum_1 h1k]
                      · rw [if_neg h1k, vnum_r (by omega) (by omega) (by have hq9 : vq v = vm v := (by unfold vq; rw [if_neg (by omega), if_neg (by omega)]); omega)]
                    · refine me1 (pc' := 143) (L' := [(0, .ref p), (1, .ref pl), (2, ii (n : Int)), (3, ii 4), (4, .ref h.length), (5, ii (k : Int))]) (S' := [.ref h.length]) dm_X10_pick_141 rfl rfl rfl rfl ?_
                      refine me1 (pc' := 145) (L' := [(0, .ref p), (1, .ref pl), (2, ii (n : Int)), (3, ii 4), (4, .ref h.length), (5, ii (k : Int))]) (S' := [ii (k : Int), .ref h.length]) dm_X10_pick_143 rfl rfl rfl rfl ?_
                      refine me1 (pc' := 146) (L' := [(0, .ref p), (1, .ref pl), (2, ii (n : Int)), (3, ii 4), (4, .ref h.length), (5, ii (k : Int))]) (S' := [.ref p, ii (k : Int), .ref h.length]) dm_X10_pick_145 rfl rfl rfl rfl ?_
                      refine me1 (pc' := 147) (L' := [(0, .ref p), (1, .ref pl), (2, ii (n : Int)), (3, ii 4), (4, .ref h.length), (5, ii (k : Int))]) (S' := [.ref pl, .ref p, ii (k : Int), .ref h.length]) dm_X10_pick_146 rfl rfl rfl rfl ?_
                      refine me1 (pc' := 149) (L' := [(0, .ref p), (1, .ref pl), (2, ii (n : Int)), (3, ii 4), (4, .ref h.length), (5, ii (k : Int))]) (S' := [ii (k : Int), .ref pl, .ref p, ii (k : Int), .ref h.length]) dm_X10_pick_147 rfl rfl rfl rfl ?_
                      refine me3 (pc' := 150) (S' := [ii (pf k), .ref p, ii (k : Int), .ref h.length]) dm_X10_pick_149 (yh_iald (v := pf k) (hl_app hpl) (by omega) (by omega) (by omega) (by omega) rfl) rfl rfl rfl ?_
                      refine x_cp (pc' := 153) (v := .long (vnum v (pf k))) (rest := [ii (k : Int), .ref h.length]) dm_X10_pick_150 rfl (g_inv (As := [ii (pf k)]) (S := [ii (k : Int), .ref h.length]) (hl_app hp) rfl rfl rfl (by omega)) rfl rfl rfl (c_numberAt (i := pf k) hx1 (by omega) (cv_app hv) (by omega)) ?_
                      refine me3 (pc' := 154) (S' := []) (h1 := h ++ [cJ n (va_up (fl k (fun i : Nat => vnum v (pf i)) (fun _ => 0)) k (vnum v (pf k)))]) dm_X10_pick_153 (y_hs (yh_last (j := (k : Int)) hl_new (by omega) (by omega) (by omega) (by omega)) (by rw [show (k : Int).toNat = k from rfl]; exact (hl_setl))) rfl rfl rfl ?_
                      refine y_iinc (pc' := 157) (L' := [(5, ii ((k : Int) + 1)), (0, .ref p), (1, .ref pl), (2, ii (n : Int)), (3, ii 4), (4, .ref h.length)]) dm_X10_pick_154 (y_incp (a := (k : Int)) (c := 1) rfl rfl (by decide)) rfl ?_
                      refine me2 (pc' := 128) (S' := []) dm_X10_pick_157 rfl rfl rfl ?_
                      refine pg_cast (h2 := h ++ [cJ n (fl (k + 1) (fun i : Nat => vnum v (pf i)) (fun _ => 0))]) (congrArg (fun z => h ++ [cJ n z]) (fl_s k (fun i : Nat => vnum v (pf i)) (fun _ => 0))) ?_
                      exact pg_sub (L := [(0, .ref p), (1, .ref pl), (2, ii (n : Int)), (3, ii 4), (4, .ref h.length), (5, ii ((k + 1) : Int))]) rfl rfl rfl (ih128 (n - (k + 1)) (by omega) (k + 1) rfl (by omega))
              refine pg_cast (h2 := h ++ [cJ n (fl 0 (fun i : Nat => vnum v (pf i)) (fun _ => 0))]) (congrArg (fun z => h ++ [cJ n z]) (fl_0 _ _).symm) ?_
              exact pg_sub (L := [(0, .ref p), (1, .ref pl), (2, ii (n : Int)), (3, ii 4), (4, .ref h.length), (5, ii (0 : Int))]) rfl rfl rfl (lp128 _ 0 rfl (Nat.zero_le _))
        · refine me0 (pc' := 93) (S' := [ii 3]) dm_X10_pick_92 rfl rfl rfl rfl ?_
          refine me1 (pc' := 94) (L' := [(3, ii 3), (0, .ref p), (1, .ref pl), (2, ii (n : Int))]) (S' := []) dm_X10_pick_93 rfl rfl rfl rfl ?_
          refine me2 (pc' := 120) (S' := []) dm_X10_pick_94 rfl rfl rfl ?_
          have hpkk : pickk v = 3 := by unfold pickk; rw [if_pos (by omega)]
          refine me1 (pc' := 121) (L' := [(3, ii 3), (0, .ref p), (1, .ref pl), (2, ii (n : Int))]) (S' := [ii (n : Int)]) dm_X10_pick_120 rfl rfl rfl rfl ?_
          refine me3 (pc' := 123) (S' := [.ref h.length]) (h1 := h ++ [cJ n (fun _ => 0)]) dm_X10_pick_121 (yh_newJ (by omega) (by omega) (by omega) rfl) rfl rfl rfl ?_
          refine me1 (pc' := 125) (L' := [(4, .ref h.length), (3, ii 3), (0, .ref p), (1, .ref pl), (2, ii (n : Int))]) (S' := []) dm_X10_pick_123 rfl rfl rfl rfl ?_
          refine me0 (pc' := 126) (S' := [ii 0]) dm_X10_pick_125 rfl rfl rfl rfl ?_
          refine me1 (pc' := 128) (L' := [(5, ii 0), (4, .ref h.length), (3, ii 3), (0, .ref p), (1, .ref pl), (2, ii (n : Int))]) (S' := []) dm_X10_pick_126 rfl rfl rfl rfl ?_
          have lp128 : ∀ (n128 : Nat) (k : Nat), n - k = n128 → (k ≤ n) → pgE xt (d - 1) 10 6 false (Option.some (Jvm.ClassFile.FieldType.object "ArrayCalculator$Value")) (mj_dec prog_12_method_24_code) 128 [(0, .ref p), (1, .ref pl), (2, ii (n : Int)), (3, ii 3), (4, .ref h.length), (5, ii (k : Int))] [] (h ++ [cJ n (fl k (fun i : Nat => vnum v (pf i)) (fun _ => 0))]) (fun r h' => ∃ x, r = some x ∧ ares A h (e + 1) (s_pick v (fun k => (pf k).toNat) n) 2 (pcl v n + 9) x h') := by
            intro n128
            induction n128 using Nat.strongRecOn with
            | ind n128 ih128 =>
              intro k hm128 hk
              refine me1 (pc' := 130) (L' := [(0, .ref p), (1, .ref pl), (2, ii (n : Int)), (3, ii 3), (4, .ref h.length), (5, ii (k : Int))]) (S' := [ii (k : Int)]) dm_X10_pick_128 rfl rfl rfl rfl ?_
              refine me1 (pc' := 131) (L' := [(0, .ref p), (1, .ref pl), (2, ii (n : Int)), (3, ii 3), (4, .ref h.length), (5, ii (k : Int))]) (S' := [ii (n : Int), ii (k : Int)]) dm_X10_pick_130 rfl rfl rfl rfl ?_
              refine y_2ge (a := (k : Int)) (b := (n : Int)) (t := 160) (pc' := 134) dm_X10_pick_131 rfl rfl (by omega) (fun hb13 => ?_) (fun hb13 => ?_)
              · refine me1 (pc' := 161) (L' := [(0, .ref p), (1, .ref pl), (2, ii (n : Int)), (3, ii 3), (4, .ref h.length), (5, ii (k : Int))]) (S' := [ii 3]) dm_X10_pick_160 rfl rfl rfl rfl ?_
                refine me1 (pc' := 163) (L' := [(0, .ref p), (1, .ref pl), (2, ii (n : Int)), (3, ii 3), (4, .ref h.length), (5, ii (k : Int))]) (S' := [.ref h.length, ii 3]) dm_X10_pick_161 rfl rfl rfl rfl ?_
                refine x_cv (pc' := 166) (rest := []) dm_X10_pick_163 rfl (g_invs (As := [ii 3, .ref h.length]) (S := []) rfl rfl rfl) rfl rfl rfl (c_row (hx1 := hx1) (q := h.length + 1) (by omega) (by simp; omega) (by simp) (by omega) (show rowAt (fun _ => True) _ _ _ _ from Or.inr ⟨by omega, hl_new, by omega, trivial⟩) (by omega)) ?_
                rintro _ _ ⟨rfl, rfl⟩
                refine y_ret (r := some (.ref (h.length + 1))) dm_X10_pick_166 rfl rfl rfl ?_
                have hkn : k = n := by omega
                subst hkn
                rw [s_pick_r (by omega), vpick_r (by omega), pcl_n (by omega)]
                have hwp := vw1_pick (o := fun k => (pf k).toNat) hw (show vk v ≤ 5 by omega) (show k ≤ 120 by omega) (fun j hj => by have := hpf j hj; omega)
                rw [hpkk] at hwp ⊢
                refine ⟨_, rfl, vres_flat (w := vrow 3 k (fun j => vn v (if vk v ≤ 1 then 0 else (pf j).toNat))) (by omega) hwp (by show 2 ≤ 3; omega) (by show 3 ≤ 6; omega) (vq_row (by omega)) (fun j hj => ?_) (by omega) (by omega)⟩
                rw [fl_at _ _ hj]
                have hpj := hpf j hj
                show vnum v (pf j) = vn v (if vk v ≤ 1 then 0 else (pf j).toNat)
                by_cases h1k : vk v ≤ 1
                · rw [if_pos h1k, vnum_1 h1k]
                · rw [if_neg h1k, vnum_r (by omega) (by omega) (by have hq9 : vq v = vm v := (by unfold vq; rw [if_neg (by omega), if_neg (by omega)]); omega)]
              · have hpk := hpf k (by omega)
                refine me1 (pc' := 136) (L' := [(0, .ref p), (1, .ref pl), (2, ii (n : Int)), (3, ii 3), (4, .ref h.length), (5, ii (k : Int))]) (S' := [ii (k : Int)]) dm_X10_pick_134 rfl rfl rfl rfl ?_
                refine me1 (pc' := 137) (L' := [(0, .ref p), (1, .ref pl), (2, ii (n : Int)), (3, ii 3), (4, .ref h.length), (5, ii (k : Int))]) (S' := [.ref pl, ii (k : Int)]) dm_X10_pick_136 rfl rfl rfl rfl ?_
                refine me3 (pc' := 138) (S' := [ii np, ii (k : Int)]) dm_X10_pick_137 (yh_len (n := np) rfl (hl_app hpl) (by omega)) rfl rfl rfl ?_
                refine y_2ge (a := (k : Int)) (b := np) (t := 160) (pc' := 141) dm_X10_pick_138 rfl rfl (by omega) (fun hb14 => ?_) (fun hb14 => ?_)
                · refine me1 (pc' := 161) (L' := [(0, .ref p), (1, .ref pl), (2, ii (n : Int)), (3, ii 3), (4, .ref h.length), (5, ii (k : Int))]) (S' := [ii 3]) dm_X10_pick_160 rfl rfl rfl rfl ?_
                  refine me1 (pc' := 163) (L' := [(0, .ref p), (1, .ref pl), (2, ii (n : Int)), (3, ii 3), (4, .ref h.length), (5, ii (k : Int))]) (S' := [.ref h.length, ii 3]) dm_X10_pick_161 rfl rfl rfl rfl ?_
                  refine x_cv (pc' := 166) (rest := []) dm_X10_pick_163 rfl (g_invs (As := [ii 3, .ref h.length]) (S := []) rfl rfl rfl) rfl rfl rfl (c_row (hx1 := hx1) (q := h.length + 1) (by omega) (by simp; omega) (by simp) (by omega) (show rowAt (fun _ => True) _ _ _ _ from Or.inr ⟨by omega, hl_new, by omega, trivial⟩) (by omega)) ?_
                  rintro _ _ ⟨rfl, rfl⟩
                  refine y_ret (r := some (.ref (h.length + 1))) dm_X10_pick_166 rfl rfl rfl ?_
                  have hkn : k = n := by omega
                  subst hkn
                  rw [s_pick_r (by omega), vpick_r (by omega), pcl_n (by omega)]
                  have hwp := vw1_pick (o := fun k => (pf k).toNat) hw (show vk v ≤ 5 by omega) (show k ≤ 120 by omega) (fun j hj => by have := hpf j hj; omega)
                  rw [hpkk] at hwp ⊢
                  refine ⟨_, rfl, vres_flat (w := vrow 3 k (fun j => vn v (if vk v ≤ 1 then 0 else (pf j).toNat))) (by omega) hwp (by show 2 ≤ 3; omega) (by show 3 ≤ 6; omega) (vq_row (by omega)) (fun j hj => ?_) (by omega) (by omega)⟩
                  rw [fl_at _ _ hj]
                  have hpj := hpf j hj
                  show vnum v (pf j) = vn v (if vk v ≤ 1 then 0 else (pf j).toNat)
                  by_cases h1k : vk v ≤ 1
                  · rw [if_pos h1k, vnum_1 h1k]
                  · rw [if_neg h1k, vnum_r (by omega) (by omega) (by have hq9 : vq v = vm v := (by unfold vq; rw [if_neg (by omega), if_neg (by omega)]); omega)]
                · refine me1 (pc' := 143) (L' := [(0, .ref p), (1, .ref pl), (2, ii (n : Int)), (3, ii 3), (4, .ref h.length), (5, ii (k : Int))]) (S' := [.ref h.length]) dm_X10_pick_141 rfl rfl rfl rfl ?_
                  refine me1 (pc' := 145) (L' := [(0, .ref p), (1, .ref pl), (2, ii (n : Int)), (3, ii 3), (4, .ref h.length), (5, ii (k : Int))]) (S' := [ii (k : Int), .ref h.length]) dm_X10_pick_143 rfl rfl rfl rfl ?_
                  refine me1 (pc' := 146) (L' := [(0, .ref p), (1, .ref pl), (2, ii (n : Int)), (3, ii 3), (4, .ref h.length), (5, ii (k : Int))]) (S' := [.ref p, ii (k : Int), .ref h.length]) dm_X10_pick_145 rfl rfl rfl rfl ?_
                  refine me1 (pc' := 147) (L' := [(0, .ref p), (1, .ref pl), (2, ii (n : Int)), (3, ii 3), (4, .ref h.length), (5, ii (k : Int))]) (S' := [.ref pl, .ref p, ii (k : Int), .ref h.length]) dm_X10_pick_146 rfl rfl rfl rfl ?_
                  refine me1 (pc' := 149) (L' := [(0, .ref p), (1, .ref pl), (2, ii (n : Int)), (3, ii 3), (4, .ref h.length), (5, ii (k : Int))]) (S' := [ii (k : Int), .ref pl, .ref p, ii (k : Int), .ref h.length]) dm_X10_pick_147 rfl rfl rfl rfl ?_
                  refine me3 (pc' := 150) (S' := [ii (pf k), .ref p, ii (k : Int), .ref h.length]) dm_X10_pick_149 (yh_iald (v := pf k) (hl_app hpl) (by omega) (by omega) (by omega) (by omega) rfl) rfl rfl rfl ?_
                  refine x_cp (pc' := 153) (v := .long (vnum v (pf k))) (rest := [ii (k : Int), .ref h.length]) dm_X10_pick_150 rfl (g_inv (As := [ii (pf k)]) (S := [ii (k : Int), .ref h.length]) (hl_app hp) rfl rfl rfl (by omega)) rfl rfl rfl (c_numberAt (i := pf k) hx1 (by omega) (cv_app hv) (by omega)) ?_
                  refine me3 (pc' := 154) (S' := []) (h1 := h ++ [cJ n (va_up (fl k (fun i : Nat => vnum v (pf i)) (fun _ => 0)) k (vnum v (pf k)))]) dm_X10_pick_153 (y_hs (yh_last (j := (k : Int)) hl_new (by omega) (by omega) (by omega) (by omega)) (by rw [show (k : Int).toNat = k from rfl]; exact (hl_setl))) rfl rfl rfl ?_
                  refine y_iinc (pc' := 157) (L' := [(5, ii ((k : Int) + 1)), (0, .ref p), (1, .ref pl), (2, ii (n : Int)), (3, ii 3), (4, .ref h.length)]) dm_X10_pick_154 (y_incp (a := (k : Int)) (c := 1) rfl rfl (by decide)) rfl ?_
                  refine me2 (pc' := 128) (S' := []) dm_X10_pick_157 rfl rfl rfl ?_
                  refine pg_cast (h2 := h ++ [cJ n (fl (k + 1) (fun i : Nat => vnum v (pf i)) (fun _ => 0))]) (congrArg (fun z => h ++ [cJ n z]) (fl_s k (fun i : Nat => vnum v (pf i)) (fun _ => 0))) ?_
                  exact pg_sub (L := [(0, .ref p), (1, .ref pl), (2, ii (n : Int)), (3, ii 3), (4, .ref h.length), (5, ii ((k + 1) : Int))]) rfl rfl rfl (ih128 (n - (k + 1)) (by omega) (k + 1) rfl (by omega))
          refine pg_cast (h2 := h ++ [cJ n (fl 0 (fun i : Nat => vnum v (pf i)) (fun _ => 0))]) (congrArg (fun z => h ++ [cJ n z]) (fl_0 _ _).symm) ?_
          exact pg_sub (L := [(0, .ref p), (1, .ref pl), (2, ii (n : Int)), (3, ii 3), (4, .ref h.length), (5, ii (0 : Int))]) rfl rfl rfl (lp128 _ 0 rfl (Nat.zero_le _))
      · refine me1 (pc' := 73) (L' := [(0, .ref p), (1, .ref pl), (2, ii (n : Int))]) (S' := [.ref p]) dm_X10_pick_72 rfl rfl rfl rfl ?_
        refine me1 (pc' := 74) (L' := [(0, .ref p), (1, .ref pl), (2, ii (n : Int))]) (S' := [.ref pl, .ref p]) dm_X10_pick_73 rfl rfl rfl rfl ?_
        refine me1 (pc' := 75) (L' := [(0, .ref p), (1, .ref pl), (2, ii (n : Int))]) (S' := [ii (n : Int), .ref pl, .ref p]) dm_X10_pick_74 rfl rfl rfl rfl ?_
        refine x_cv (pc' := 78) (rest := []) dm_X10_pick_75 rfl (g_inv (As := [.ref pl, ii (n : Int)]) (S := []) hp rfl rfl rfl (by omega)) rfl rfl rfl (c_pickLines hx1 (by omega) hA hl hv hpl hpl2 hnp hn (by omega) (by omega) (by omega) (fun k hk => by have := hpf k hk; omega)) ?_
        rintro x h1 hres
        obtain ⟨q, rfl⟩ := vres_ref hres
        refine y_ret (r := some (.ref q)) dm_X10_pick_78 rfl rfl rfl ?_
        rw [s_pick_6 (by omega) (by omega) (by omega), pcl_6 (by omega)]
        exact ⟨_, rfl, hres⟩
    · refine me1 (pc' := 40) (L' := [(0, .ref p), (1, .ref pl), (2, ii (n : Int))]) (S' := [ii (n : Int)]) dm_X10_pick_39 rfl rfl rfl rfl ?_
      refine y_1eq (a := (n : Int)) (t := 49) (pc' := 43) dm_X10_pick_40 rfl rfl (by omega) (fun hb15 => ?_) (fun hb15 => ?_)
      · refine me1 (pc' := 50) (L' := [(0, .ref p), (1, .ref pl), (2, ii (n : Int))]) (S' := [ii (n : Int)]) dm_X10_pick_49 rfl rfl rfl rfl ?_
        refine y_1ne (a := (n : Int)) (t := 57) (pc' := 53) dm_X10_pick_50 rfl rfl (by omega) (fun hb16 => ?_) (fun hb16 => ?_)
        · refine me0 (pc' := 59) (S' := [ii 8]) dm_X10_pick_57 rfl rfl rfl rfl ?_
          refine x_cv (pc' := 62) (rest := []) dm_X10_pick_59 rfl (g_invs (As := [ii 8]) (S := []) rfl rfl rfl) rfl rfl rfl (c_fault (q := h.length) (by omega) (by omega) rfl (by omega)) ?_
          rintro _ _ ⟨rfl, rfl⟩
          refine y_ret (r := some (.ref h.length)) dm_X10_pick_62 rfl rfl rfl ?_
          rw [s_pick_6e (by omega) (by omega)]
          exact ⟨_, rfl, ares_f 8 (by omega) (by omega) (by omega)⟩
        · refine me0 (pc' := 54) (S' := [ii 4]) dm_X10_pick_53 rfl rfl rfl rfl ?_
          refine me2 (pc' := 59) (S' := [ii 4]) dm_X10_pick_54 rfl rfl rfl ?_
          refine x_cv (pc' := 62) (rest := []) dm_X10_pick_59 rfl (g_invs (As := [ii 4]) (S := []) rfl rfl rfl) rfl rfl rfl (c_fault (q := h.length) (by omega) (by omega) rfl (by omega)) ?_
          rintro _ _ ⟨rfl, rfl⟩
          refine y_ret (r := some (.ref h.length)) dm_X10_pick_62 rfl rfl rfl ?_
          rw [s_pick_60 (by omega) (by omega)]
          exact ⟨_, rfl, ares_f 4 (by omega) (by omega) (by omega)⟩
      · refine me1 (pc' := 44) (L' := [(0, .ref p), (1, .ref pl), (2, ii (n : Int))]) (S' := [ii (n : Int)]) dm_X10_pick_43 rfl rfl rfl rfl ?_
        refine me0 (pc' := 46) (S' := [ii 12, ii (n : Int)]) dm_X10_pick_44 rfl rfl rfl rfl ?_
        refine y_2le (a := (n : Int)) (b := 12) (t := 63) (pc' := 49) dm_X10_pick_46 rfl rfl (by omega) (fun hb17 => ?_) (fun hb17 => ?_)
        · refine me1 (pc' := 64) (L' := [(0, .ref p), (1, .ref pl), (2, ii (n : Int))]) (S' := [.ref p]) dm_X10_pick_63 rfl rfl rfl rfl ?_
          refine me3 (pc' := 67) (S' := [ii (vk v : Int)]) dm_X10_pick_64 (g_get (v := ii (vk v : Int)) hp rfl rfl (by omega)) rfl rfl rfl ?_
          refine me0 (pc' := 69) (S' := [ii 6, ii (vk v : Int)]) dm_X10_pick_67 rfl rfl rfl rfl ?_
          refine y_2ne (a := (vk v : Int)) (b := 6) (t := 79) (pc' := 72) dm_X10_pick_69 rfl rfl (by omega) (fun hb18 => ?_) (fun hb18 => ?_)
          · refine me1 (pc' := 80) (L' := [(0, .ref p), (1, .ref pl), (2, ii (n : Int))]) (S' := [.ref p]) dm_X10_pick_79 rfl rfl rfl rfl ?_
            refine me3 (pc' := 83) (S' := [ii (vk v : Int)]) dm_X10_pick_80 (g_get (v := ii (vk v : Int)) hp rfl rfl (by omega)) rfl rfl rfl ?_
            refine me1 (pc' := 84) (L' := [(3, ii (vk v : Int)), (0, .ref p), (1, .ref pl), (2, ii (n : Int))]) (S' := []) dm_X10_pick_83 rfl rfl rfl rfl ?_
            refine me1 (pc' := 85) (L' := [(3, ii (vk v : Int)), (0, .ref p), (1, .ref pl), (2, ii (n : Int))]) (S' := [.ref p]) dm_X10_pick_84 rfl rfl rfl rfl ?_
            refine me3 (pc' := 88) (S' := [ii (vk v : Int)]) dm_X10_pick_85 (g_get (v := ii (vk v : Int)) hp rfl rfl (by omega)) rfl rfl rfl ?_
            refine me0 (pc' := 89) (S' := [ii 1, ii (vk v : Int)]) dm_X10_pick_88 rfl rfl rfl rfl ?_
            refine y_2ne (a := (vk v : Int)) (b := 1) (t := 97) (pc' := 92) dm_X10_pick_89 rfl rfl (by omega) (fun hb19 => ?_) (fun hb19 => ?_)
            · refine me1 (pc' := 98) (L' := [(3, ii (vk v : Int)), (0, .ref p), (1, .ref pl), (2, ii (n : Int))]) (S' := [.ref p]) dm_X10_pick_97 rfl rfl rfl rfl ?_
              refine me3 (pc' := 101) (S' := [ii (vk v : Int)]) dm_X10_pick_98 (g_get (v := ii (vk v : Int)) hp rfl rfl (by omega)) rfl rfl rfl ?_
              refine y_1ne (a := (vk v : Int)) (t := 120) (pc' := 104) dm_X10_pick_101 rfl rfl (by omega) (fun hb20 => ?_) (fun hb20 => ?_)
              · have hpkk : pickk v = vk v := by unfold pickk; rw [if_neg (by omega), if_neg (by omega)]
                refine me1 (pc' := 121) (L' := [(3, ii (vk v : Int)), (0, .ref p), (1, .ref pl), (2, ii (n : Int))]) (S' := [ii (n : Int)]) dm_X10_pick_120 rfl rfl rfl rfl ?_
                refine me3 (pc' := 123) (S' := [.ref h.length]) (h1 := h ++ [cJ n (fun _ => 0)]) dm_X10_pick_121 (yh_newJ (by omega) (by omega) (by omega) rfl) rfl rfl rfl ?_
                refine me1 (pc' := 125) (L' := [(4, .ref h.length), (3, ii (vk v : Int)), (0, .ref p), (1, .ref pl), (2, ii (n : Int))]) (S' := []) dm_X10_pick_123 rfl rfl rfl rfl ?_
                refine me0 (pc' := 126) (S' := [ii 0]) dm_X10_pick_125 rfl rfl rfl rfl ?_
                refine me1 (pc' := 128) (L' := [(5, ii 0), (4, .ref h.length), (3, ii (vk v : Int)), (0, .ref p), (1, .ref pl), (2, ii (n : Int))]) (S' := []) dm_X10_pick_126 rfl rfl rfl rfl ?_
                have lp128 : ∀ (n128 : Nat) (k : Nat), n - k = n128 → (k ≤ n) → pgE xt (d - 1) 10 6 false (Option.some (Jvm.ClassFile.FieldType.object "ArrayCalculator$Value")) (mj_dec prog_12_method_24_code) 128 [(0, .ref p), (1, .ref pl), (2, ii (n : Int)), (3, ii (vk v : Int)), (4, .ref h.length), (5, ii (k : Int))] [] (h ++ [cJ n (fl k (fun i : Nat => vnum v (pf i)) (fun _ => 0))]) (fun r h' => ∃ x, r = some x ∧ ares A h (e + 1) (s_pick v (fun k => (pf k).toNat) n) 2 (pcl v n + 9) x h') := by
                  intro n128
                  induction n128 using Nat.strongRecOn with
                  | ind n128 ih128 =>
                    intro k hm128 hk
                    refine me1 (pc' := 130) (L' := [(0, .ref p), (1, .ref pl), (2, ii (n : Int)), (3, ii (vk v : Int)), (4, .ref h.length), (5, ii (k : Int))]) (S' := [ii (k : Int)]) dm_X10_pick_128 rfl rfl rfl rfl ?_
                    refine me1 (pc' := 131) (L' := [(0, .ref p), (1, .ref pl), (2, ii (n : Int)), (3, ii (vk v : Int)), (4, .ref h.length), (5, ii (k : Int))]) (S' := [ii (n : Int), ii (k : Int)]) dm_X10_pick_130 rfl rfl rfl rfl ?_
                    refine y_2ge (a := (k : Int)) (b := (n : Int)) (t := 160) (pc' := 134) dm_X10_pick_131 rfl rfl (by omega) (fun hb21 => ?_) (fun hb21 => ?_)
                    · refine me1 (pc' := 161) (L' := [(0, .ref p), (1, .ref pl), (2, ii (n : Int)), (3, ii (vk v : Int)), (4, .ref h.length), (5, ii (k : Int))]) (S' := [ii (vk v : Int)]) dm_X10_pick_160 rfl rfl rfl rfl ?_
                      refine me1 (pc' := 163) (L' := [(0, .ref p), (1, .ref pl), (2, ii (n : Int)), (3, ii (vk v : Int)), (4, .ref h.length), (5, ii (k : Int))]) (S' := [.ref h.length, ii (vk v : Int)]) dm_X10_pick_161 rfl rfl rfl rfl ?_
                      refine x_cv (pc' := 166) (rest := []) dm_X10_pick_163 rfl (g_invs (As := [ii (vk v : Int), .ref h.length]) (S := []) rfl rfl rfl) rfl rfl rfl (c_row (hx1 := hx1) (q := h.length + 1) (by omega) (by simp; omega) (by simp) (by omega) (show rowAt (fun _ => True) _ _ _ _ from Or.inr ⟨by omega, hl_new, by omega, trivial⟩) (by omega)) ?_
                      rintro _ _ ⟨rfl, rfl⟩
                      refine y_ret (r := some (.ref (h.length + 1))) dm_X10_pick_166 rfl rfl rfl ?_
                      have hkn : k = n := by omega
                      subst hkn
                      rw [s_pick_r (by omega), vpick_r (by omega), pcl_n (by omega)]
                      have hwp := vw1_pick (o := fun k => (pf k).toNat) hw (show vk v ≤ 5 by omega) (show k ≤ 120 by omega) (fun j hj => by have := hpf j hj; omega)
                      rw [hpkk] at hwp ⊢
                      refine ⟨_, rfl, vres_flat (w := vrow (vk v) k (fun j => vn v (if vk v ≤ 1 then 0 else (pf j).toNat))) (by omega) hwp (by show 2 ≤ vk v; omega) (by show vk v ≤ 6; omega) (vq_row (by omega)) (fun j hj => ?_) (by omega) (by omega)⟩
                      rw [fl_at _ _ hj]
                      have hpj := hpf j hj
                      show vnum v (pf j) = vn v (if vk v ≤ 1 then 0 else (pf j).toNat)
                      by_cases h1k : vk v ≤ 1
                      · rw [if_pos h1k, vnum_1 h1k]
                      · rw [if_neg h1k, vnum_r (by omega) (by omega) (by have hq9 : vq v = vm v := (by unfold vq; rw [if_neg (by omega), if_neg (by omega)]); omega)]
                    · have hpk := hpf k (by omega)
                      refine me1 (pc' := 136) (L' := [(0, .ref p), (1, .ref pl), (2, ii (n : Int)), (3, ii (vk v : Int)), (4, .ref h.length), (5, ii (k : Int))]) (S' := [ii (k : Int)]) dm_X10_pick_134 rfl rfl rfl rfl ?_
                      refine me1 (pc' := 137) (L' := [(0, .ref p), (1, .ref pl), (2, ii (n : Int)), (3, ii (vk v : Int)), (4, .ref h.length), (5, ii (k : Int))]) (S' := [.ref pl, ii (k : Int)]) dm_X10_pick_136 rfl rfl rfl rfl ?_
                      refine me3 (pc' := 138) (S' := [ii np, ii (k : Int)]) dm_X10_pick_137 (yh_len (n := np) rfl (hl_app hpl) (by omega)) rfl rfl rfl ?_
                      refine y_2ge (a := (k : Int)) (b := np) (t := 160) (pc' := 141) dm_X10_pick_138 rfl rfl (by omega) (fun hb22 => ?_) (fun hb22 => ?_)
                      · refine me1 (pc' := 161) (L' := [(0, .ref p), (1, .ref pl), (2, ii (n : Int)), (3, ii (vk v : Int)), (4, .ref h.length), (5, ii (k : Int))]) (S' := [ii (vk v : Int)]) dm_X10_pick_160 rfl rfl rfl rfl ?_
                        refine me1 (pc' := 163) (L' := [(0, .ref p), (1, .ref pl), (2, ii (n : Int)), (3, ii (vk v : Int)), (4, .ref h.length), (5, ii (k : Int))]) (S' := [.ref h.length, ii (vk v : Int)]) dm_X10_pick_161 rfl rfl rfl rfl ?_
                        refine x_cv (pc' := 166) (rest := []) dm_X10_pick_163 rfl (g_invs (As := [ii (vk v : Int), .ref h.length]) (S := []) rfl rfl rfl) rfl rfl rfl (c_row (hx1 := hx1) (q := h.length + 1) (by omega) (by simp; omega) (by simp) (by omega) (show rowAt (fun _ => True) _ _ _ _ from Or.inr ⟨by omega, hl_new, by omega, trivial⟩) (by omega)) ?_
                        rintro _ _ ⟨rfl, rfl⟩
                        refine y_ret (r := some (.ref (h.length + 1))) dm_X10_pick_166 rfl rfl rfl ?_
                        have hkn : k = n := by omega
                        subst hkn
                        rw [s_pick_r (by omega), vpick_r (by omega), pcl_n (by omega)]
                        have hwp := vw1_pick (o := fun k => (pf k).toNat) hw (show vk v ≤ 5 by omega) (show k ≤ 120 by omega) (fun j hj => by have := hpf j hj; omega)
                        rw [hpkk] at hwp ⊢
                        refine ⟨_, rfl, vres_flat (w := vrow (vk v) k (fun j => vn v (if vk v ≤ 1 then 0 else (pf j).toNat))) (by omega) hwp (by show 2 ≤ vk v; omega) (by show vk v ≤ 6; omega) (vq_row (by omega)) (fun j hj => ?_) (by omega) (by omega)⟩
                        rw [fl_at _ _ hj]
                        have hpj := hpf j hj
                        show vnum v (pf j) = vn v (if vk v ≤ 1 then 0 else (pf j).toNat)
                        by_cases h1k : vk v ≤ 1
                        · rw [if_pos h1k, vnum_1 h1k]
                        · rw [if_neg h1k, vnum_r (by omega) (by omega) (by have hq9 : vq v = vm v := (by unfold vq; rw [if_neg (by omega), if_neg (by omega)]); omega)]
                      · refine me1 (pc' := 143) (L' := [(0, .ref p), (1, .ref pl), (2, ii (n : Int)), (3, ii (vk v : Int)), (4, .ref h.length), (5, ii (k : Int))]) (S' := [.ref h.length]) dm_X10_pick_141 rfl rfl rfl rfl ?_
                        refine me1 (pc' := 145) (L' := [(0, .ref p), (1, .ref pl), (2, ii (n : Int)), (3, ii (vk v : Int)), (4, .ref h.length), (5, ii (k : Int))]) (S' := [ii (k : Int), .ref h.length]) dm_X10_pick_143 rfl rfl rfl rfl ?_
                        refine me1 (pc' := 146) (L' := [(0, .ref p), (1, .ref pl), (2, ii (n : Int)), (3, ii (vk v : Int)), (4, .ref h.length), (5, ii (k : Int))]) (S' := [.ref p, ii (k : Int), .ref h.length]) dm_X10_pick_145 rfl rfl rfl rfl ?_
                        refine me1 (pc' := 147) (L' := [(0, .ref p), (1, .ref pl), (2, ii (n : Int)), (3, ii (vk v : Int)), (4, .ref h.length), (5, ii (k : Int))]) (S' := [.ref pl, .ref p, ii (k : Int), .ref h.length]) dm_X10_pick_146 rfl rfl rfl rfl ?_
                        refine me1 (pc' := 149) (L' := [(0, .ref p), (1, .ref pl), (2, ii (n : Int)), (3, ii (vk v : Int)), (4, .ref h.length), (5, ii (k : Int))]) (S' := [ii (k : Int), .ref pl, .ref p, ii (k : Int), .ref h.length]) dm_X10_pick_147 rfl rfl rfl rfl ?_
                        refine me3 (pc' := 150) (S' := [ii (pf k), .ref p, ii (k : Int), .ref h.length]) dm_X10_pick_149 (yh_iald (v := pf k) (hl_app hpl) (by omega) (by omega) (by omega) (by omega) rfl) rfl rfl rfl ?_
                        refine x_cp (pc' := 153) (v := .long (vnum v (pf k))) (rest := [ii (k : Int), .ref h.length]) dm_X10_pick_150 rfl (g_inv (As := [ii (pf k)]) (S := [ii (k : Int), .ref h.length]) (hl_app hp) rfl rfl rfl (by omega)) rfl rfl rfl (c_numberAt (i := pf k) hx1 (by omega) (cv_app hv) (by omega)) ?_
                        refine me3 (pc' := 154) (S' := []) (h1 := h ++ [cJ n (va_up (fl k (fun i : Nat => vnum v (pf i)) (fun _ => 0)) k (vnum v (pf k)))]) dm_X10_pick_153 (y_hs (yh_last (j := (k : Int)) hl_new (by omega) (by omega) (by omega) (by omega)) (by rw [show (k : Int).toNat = k from rfl]; exact (hl_setl))) rfl rfl rfl ?_
                        refine y_iinc (pc' := 157) (L' := [(5, ii ((k : Int) + 1)), (0, .ref p), (1, .ref pl), (2, ii (n : Int)), (3, ii (vk v : Int)), (4, .ref h.length)]) dm_X10_pick_154 (y_incp (a := (k : Int)) (c := 1) rfl rfl (by decide)) rfl ?_
                        refine me2 (pc' := 128) (S' := []) dm_X10_pick_157 rfl rfl rfl ?_
                        refine pg_cast (h2 := h ++ [cJ n (fl (k + 1) (fun i : Nat => vnum v (pf i)) (fun _ => 0))]) (congrArg (fun z => h ++ [cJ n z]) (fl_s k (fun i : Nat => vnum v (pf i)) (fun _ => 0))) ?_
                        exact pg_sub (L := [(0, .ref p), (1, .ref pl), (2, ii (n : Int)), (3, ii (vk v : Int)), (4, .ref h.length), (5, ii ((k + 1) : Int))]) rfl rfl rfl (ih128 (n - (k + 1)) (by omega) (k + 1) rfl (by omega))
                refine pg_cast (h2 := h ++ [cJ n (fl 0 (fun i : Nat => vnum v (pf i)) (fun _ => 0))]) (congrArg (fun z => h ++ [cJ n z]) (fl_0 _ _).symm) ?_
                exact pg_sub (L := [(0, .ref p), (1, .ref pl), (2, ii (n : Int)), (3, ii (vk v : Int)), (4, .ref h.length), (5, ii (0 : Int))]) rfl rfl rfl (lp128 _ 0 rfl (Nat.zero_le _))
              · refine me1 (pc' := 105) (L' := [(3, ii (vk v : Int)), (0, .ref p), (1, .ref pl), (2, ii (n : Int))]) (S' := [.ref p]) dm_X10_pick_104 rfl rfl rfl rfl ?_
                refine me3 (pc' := 108) (S' := [.long (cnum v)]) dm_X10_pick_105 (g_get (v := .long (cnum v)) hp rfl rfl (by omega)) rfl rfl rfl ?_
                refine x_cp (pc' := 111) (v := zz (fitsB (cnum v))) (rest := []) dm_X10_pick_108 rfl (g_invs (As := [.long (cnum v)]) (S := []) rfl rfl rfl) rfl rfl rfl (c_fitsInt (by omega)) ?_
                refine y_zeq (c := fitsB (cnum v)) (t := 118) (pc' := 114) dm_X10_pick_111 rfl rfl (fun hb23 => ?_) (fun hb23 => ?_)
                · refine me0 (pc' := 119) (S' := [ii 5]) dm_X10_pick_118 rfl rfl rfl rfl ?_
                  refine me1 (pc' := 120) (L' := [(3, ii 5), (0, .ref p), (1, .ref pl), (2, ii (n : Int))]) (S' := []) dm_X10_pick_119 rfl rfl rfl rfl ?_
                  have hpkk : pickk v = 5 := by unfold pickk; rw [if_neg (by omega), if_pos (by omega), if_neg (by rw [hvn0 (by omega), hb23]; decide)]
                  refine me1 (pc' := 121) (L' := [(3, ii 5), (0, .ref p), (1, .ref pl), (2, ii (n : Int))]) (S' := [ii (n : Int)]) dm_X10_pick_120 rfl rfl rfl rfl ?_
                  refine me3 (pc' := 123) (S' := [.ref h.length]) (h1 := h ++ [cJ n (fun _ => 0)]) dm_X10_pick_121 (yh_newJ (by omega) (by omega) (by omega) rfl) rfl rfl rfl ?_
                  refine me1 (pc' := 125) (L' := [(4, .ref h.length), (3, ii 5), (0, .ref p), (1, .ref pl), (2, ii (n : Int))]) (S' := []) dm_X10_pick_123 rfl rfl rfl rfl ?_
                  refine me0 (pc' := 126) (S' := [ii 0]) dm_X10_pick_125 rfl rfl rfl rfl ?_
                  refine me1 (pc' := 128) (L' := [(5, ii 0), (4, .ref h.length), (3, ii 5), (0, .ref p), (1, .ref pl), (2, ii (n : Int))]) (S' := []) dm_X10_pick_126 rfl rfl rfl rfl ?_
                  have lp128 : ∀ (n128 : Nat) (k : Nat), n - k = n128 → (k ≤ n) → pgE xt (d - 1) 10 6 false (Option.some (Jvm.ClassFile.FieldType.object "ArrayCalculator$Value")) (mj_dec prog_12_method_24_code) 128 [(0, .ref p), (1, .ref pl), (2, ii (n : Int)), (3, ii 5), (4, .ref h.length), (5, ii (k : Int))] [] (h ++ [cJ n (fl k (fun i : Nat => vnum v (pf i)) (fun _ => 0))]) (fun r h' => ∃ x, r = some x ∧ ares A h (e + 1) (s_pick v (fun k => (pf k).toNat) n) 2 (pcl v n + 9) x h') := by
                    intro n128
                    induction n128 using Nat.strongRecOn with
                    | ind n128 ih128 =>
                      intro k hm128 hk
                      refine me1 (pc' := 130) (L' := [(0, .ref p), (1, .ref pl), (2, ii (n : Int)), (3, ii 5), (4, .ref h.length), (5, ii (k : Int))]) (S' := [ii (k : Int)]) dm_X10_pick_128 rfl rfl rfl rfl ?_
                      refine me1 (pc' := 131) (L' := [(0, .ref p), (1, .ref pl), (2, ii (n : Int)), (3, ii 5), (4, .ref h.length), (5, ii (k : Int))]) (S' := [ii (n : Int), ii (k : Int)]) dm_X10_pick_130 rfl rfl rfl rfl ?_
                      refine y_2ge (a := (k : Int)) (b := (n : Int)) (t := 160) (pc' := 134) dm_X10_pick_131 rfl rfl (by omega) (fun hb24 => ?_) (fun hb24 => ?_)
                      · refine me1 (pc' := 161) (L' := [(0, .ref p), (1, .ref pl), (2, ii (n : Int)), (3, ii 5), (4, .ref h.length), (5, ii (k : Int))]) (S' := [ii 5]) dm_X10_pick_160 rfl rfl rfl rfl ?_
                        refine me1 (pc' := 163) (L' := [(0, .ref p), (1, .ref pl), (2, ii (n : Int)), (3, ii 5), (4, .ref h.length), (5, ii (k : Int))]) (S' := [.ref h.length, ii 5]) dm_X10_pick_161 rfl rfl rfl rfl ?_
                        refine x_cv (pc' := 166) (rest := []) dm_X10_pick_163 rfl (g_invs (As := [ii 5, .ref h.length]) (S := []) rfl rfl rfl) rfl rfl rfl (c_row (hx1 := hx1) (q := h.length + 1) (by omega) (by simp; omega) (by simp) (by omega) (show rowAt (fun _ => True) _ _ _ _ from Or.inr ⟨by omega, hl_new, by omega, trivial⟩) (by omega)) ?_
                        rintro _ _ ⟨rfl, rfl⟩
                        refine y_ret (r := some (.ref (h.length + 1))) dm_X10_pick_166 rfl rfl rfl ?_
                        have hkn : k = n := by omega
                        subst hkn
                        rw [s_pick_r (by omega), vpick_r (by omega), pcl_n (by omega)]
                        have hwp := vw1_pick (o := fun k => (pf k).toNat) hw (show vk v ≤ 5 by omega) (show k ≤ 120 by omega) (fun j hj => by have := hpf j hj; omega)
                        rw [hpkk] at hwp ⊢
                        refine ⟨_, rfl, vres_flat (w := vrow 5 k (fun j => vn v (if vk v ≤ 1 then 0 else (pf j).toNat))) (by omega) hwp (by show 2 ≤ 5; omega) (by show 5 ≤ 6; omega) (vq_row (by omega)) (fun j hj => ?_) (by omega) (by omega)⟩
                        rw [fl_at _ _ hj]
                        have hpj := hpf j hj
                        show vnum v (pf j) = vn v (if vk v ≤ 1 then 0 else (pf j).toNat)
                        by_cases h1k : vk v ≤ 1
                        · rw [if_pos h1k, vnum_1 h1k]
                        · rw [if_neg h1k, vnum_r (by omega) (by omega) (by have hq9 : vq v = vm v := (by unfold vq; rw [if_neg (by omega), if_neg (by omega)]); omega)]
                      · have hpk := hpf k (by omega)
                        refine me1 (pc' := 136) (L' := [(0, .ref p), (1, .ref pl), (2, ii (n : Int)), (3, ii 5), (4, .ref h.length), (5, ii (k : Int))]) (S' := [ii (k : Int)]) dm_X10_pick_134 rfl rfl rfl rfl ?_
                        refine me1 (pc' := 137) (L' := [(0, .ref p), (1, .ref pl), (2, ii (n : Int)), (3, ii 5), (4, .ref h.length), (5, ii (k : Int))]) (S' := [.ref pl, ii (k : Int)]) dm_X10_pick_136 rfl rfl rfl rfl ?_
                        refine me3 (pc' := 138) (S' := [ii np, ii (k : Int)]) dm_X10_pick_137 (yh_len (n := np) rfl (hl_app hpl) (by omega)) rfl rfl rfl ?_
                        refine y_2ge (a := (k : Int)) (b := np) (t := 160) (pc' := 141) dm_X10_pick_138 rfl rfl (by omega) (fun hb25 => ?_) (fun hb25 => ?_)
                        · refine me1 (pc' := 161) (L' := [(0, .ref p), (1, .ref pl), (2, ii (n : Int)), (3, ii 5), (4, .ref h.length), (5, ii (k : Int))]) (S' := [ii 5]) dm_X10_pick_160 rfl rfl rfl rfl ?_
                          refine me1 (pc' := 163) (L' := [(0, .ref p), (1, .ref pl), (2, ii (n : Int)), (3, ii 5), (4, .ref h.length), (5, ii (k : Int))]) (S' := [.ref h.length, ii 5]) dm_X10_pick_161 rfl rfl rfl rfl ?_
                          refine x_cv (pc' := 166) (rest := []) dm_X10_pick_163 rfl (g_invs (As := [ii 5, .ref h.length]) (S := []) rfl rfl rfl) rfl rfl rfl (c_row (hx1 := hx1) (q := h.length + 1) (by omega) (by simp; omega) (by simp) (by omega) (show rowAt (fun _ => True) _ _ _ _ from Or.inr ⟨by omega, hl_new, by omega, trivial⟩) (by omega)) ?_
                          rintro _ _ ⟨rfl, rfl⟩
                          refine y_ret (r := some (.ref (h.length + 1))) dm_X10_pick_166 rfl rfl rfl ?_
                          have hkn : k = n := by omega
                          subst hkn
                          rw [s_pick_r (by omega), vpick_r (by omega), pcl_n (by omega)]
                          have hwp := vw1_pick (o := fun k => (pf k).toNat) hw (show vk v ≤ 5 by omega) (show k ≤ 120 by omega) (fun j hj => by have := hpf j hj; omega)
                          rw [hpkk] at hwp ⊢
                          refine ⟨_, rfl, vres_flat (w := vrow 5 k (fun j => vn v (if vk v ≤ 1 then 0 else (pf j).toNat))) (by omega) hwp (by show 2 ≤ 5; omega) (by show 5 ≤ 6; omega) (vq_row (by omega)) (fun j hj => ?_) (by omega) (by omega)⟩
                          rw [fl_at _ _ hj]
                          have hpj := hpf j hj
                          show vnum v (pf j) = vn v (if vk v ≤ 1 then 0 else (pf j).toNat)
                          by_cases h1k : vk v ≤ 1
                          · rw [if_pos h1k, vnum_1 h1k]
                          · rw [if_neg h1k, vnum_r (by omega) (by omega) (by have hq9 : vq v = vm v := (by unfold vq; rw [if_neg (by omega), if_neg (by omega)]); omega)]
                        · refine me1 (pc' := 143) (L' := [(0, .ref p), (1, .ref pl), (2, ii (n : Int)), (3, ii 5), (4, .ref h.length), (5, ii (k : Int))]) (S' := [.ref h.length]) dm_X10_pick_141 rfl rfl rfl rfl ?_
                          refine me1 (pc' := 145) (L' := [(0, .ref p), (1, .ref pl), (2, ii (n : Int)), (3, ii 5), (4, .ref h.length), (5, ii (k : Int))]) (S' := [ii (k : Int), .ref h.length]) dm_X10_pick_143 rfl rfl rfl rfl ?_
                          refine me1 (pc' := 146) (L' := [(0, .ref p), (1, .ref pl), (2, ii (n : Int)), (3, ii 5), (4, .ref h.length), (5, ii (k : Int))]) (S' := [.ref p, ii (k : Int), .ref h.length]) dm_X10_pick_145 rfl rfl rfl rfl ?_
                          refine me1 (pc' := 147) (L' := [(0, .ref p), (1, .ref pl), (2, ii (n : Int)), (3, ii 5), (4, .ref h.length), (5, ii (k : Int))]) (S' := [.ref pl, .ref p, ii (k : Int), .ref h.length]) dm_X10_pick_146 rfl rfl rfl rfl ?_
                          refine me1 (pc' := 149) (L' := [(0, .ref p), (1, .ref pl), (2, ii (n : Int)), (3, ii 5), (4, .ref h.length), (5, ii (k : Int))]) (S' := [ii (k : Int), .ref pl, .ref p, ii (k : Int), .ref h.length]) dm_X10_pick_147 rfl rfl rfl rfl ?_
                          refine me3 (pc' := 150) (S' := [ii (pf k), .ref p, ii (k : Int), .ref h.length]) dm_X10_pick_149 (yh_iald (v := pf k) (hl_app hpl) (by omega) (by omega) (by omega) (by omega) rfl) rfl rfl rfl ?_
                          refine x_cp (pc' := 153) (v := .long (vnum v (pf k))) (rest := [ii (k : Int), .ref h.length]) dm_X10_pick_150 rfl (g_inv (As := [ii (pf k)]) (S := [ii (k : Int), .ref h.length]) (hl_app hp) rfl rfl rfl (by omega)) rfl rfl rfl (c_numberAt (i := pf k) hx1 (by omega) (cv_app hv) (by omega)) ?_
                          refine me3 (pc' := 154) (S' := []) (h1 := h ++ [cJ n (va_up (fl k (fun i : Nat => vnum v (pf i)) (fun _ => 0)) k (vnum v (pf k)))]) dm_X10_pick_153 (y_hs (yh_last (j := (k : Int)) hl_new (by omega) (by omega) (by omega) (by omega)) (by rw [show (k : Int).toNat = k from rfl]; exact (hl_setl))) rfl rfl rfl ?_
                          refine y_iinc (pc' := 157) (L' := [(5, ii ((k : Int) + 1)), (0, .ref p), (1, .ref pl), (2, ii (n : Int)), (3, ii 5), (4, .ref h.length)]) dm_X10_pick_154 (y_incp (a := (k : Int)) (c := 1) rfl rfl (by decide)) rfl ?_
                          refine me2 (pc' := 128) (S' := []) dm_X10_pick_157 rfl rfl rfl ?_
                          refine pg_cast (h2 := h ++ [cJ n (fl (k + 1) (fun i : Nat => vnum v (pf i)) (fun _ => 0))]) (congrArg (fun z => h ++ [cJ n z]) (fl_s k (fun i : Nat => vnum v (pf i)) (fun _ => 0))) ?_
                          exact pg_sub (L := [(0, .ref p), (1, .ref pl), (2, ii (n : Int)), (3, ii 5), (4, .ref h.length), (5, ii ((k + 1) : Int))]) rfl rfl rfl (ih128 (n - (k + 1)) (by omega) (k + 1) rfl (by omega))
                  refine pg_cast (h2 := h ++ [cJ n (fl 0 (fun i : Nat => vnum v (pf i)) (fun _ => 0))]) (congrArg (fun z => h ++ [cJ n z]) (fl_0 _ _).symm) ?_
                  exact pg_sub (L := [(0, .ref p), (1, .ref pl), (2, ii (n : Int)), (3, ii 5), (4, .ref h.length), (5, ii (0 : Int))]) rfl rfl rfl (lp128 _ 0 rfl (Nat.zero_le _))
                · refine me0 (pc' := 115) (S' := [ii 4]) dm_X10_pick_114 rfl rfl rfl rfl ?_
                  refine me2 (pc' := 119) (S' := [ii 4]) dm_X10_pick_115 rfl rfl rfl ?_
                  refine me1 (pc' := 120) (L' := [(3, ii 4), (0, .ref p), (1, .ref pl), (2, ii (n : Int))]) (S' := []) dm_X10_pick_119 rfl rfl rfl rfl ?_
                  have hpkk : pickk v = 4 := by unfold pickk; rw [if_neg (by omega), if_pos (by omega), if_pos (by rw [hvn0 (by omega)]; exact hb23)]
                  refine me1 (pc' := 121) (L' := [(3, ii 4), (0, .ref p), (1, .ref pl), (2, ii (n : Int))]) (S' := [ii (n : Int)]) dm_X10_pick_120 rfl rfl rfl rfl ?_
                  refine me3 (pc' := 123) (S' := [.ref h.length]) (h1 := h ++ [cJ n (fun _ => 0)]) dm_X10_pick_121 (yh_newJ (by omega) (by omega) (by omega) rfl) rfl rfl rfl ?_
                  refine me1 (pc' := 125) (L' := [(4, .ref h.length), (3, ii 4), (0, .ref p), (1, .ref pl), (2, ii (n : Int))]) (S' := []) dm_X10_pick_123 rfl rfl rfl rfl ?_
                  refine me0 (pc' := 126) (S' := [ii 0]) dm_X10_pick_125 rfl rfl rfl rfl ?_
                  refine me1 (pc' := 128) (L' := [(5, ii 0), (4, .ref h.length), (3, ii 4), (0, .ref p), (1, .ref pl), (2, ii (n : Int))]) (S' := []) dm_X10_pick_126 rfl rfl rfl rfl ?_
                  have lp128 : ∀ (n128 : Nat) (k : Nat), n - k = n128 → (k ≤ n) → pgE xt (d - 1) 10 6 false (Option.some (Jvm.ClassFile.FieldType.object "ArrayCalculator$Value")) (mj_dec prog_12_method_24_code) 128 [(0, .ref p), (1, .ref pl), (2, ii (n : Int)), (3, ii 4), (4, .ref h.length), (5, ii (k : Int))] [] (h ++ [cJ n (fl k (fun i : Nat => vnum v (pf i)) (fun _ => 0))]) (fun r h' => ∃ x, r = some x ∧ ares A h (e + 1) (s_pick v (fun k => (pf k).toNat) n) 2 (pcl v n + 9) x h') := by
                    intro n128
                    induction n128 using Nat.strongRecOn with
                    | ind n128 ih128 =>
                      intro k hm128 hk
                      refine me1 (pc' := 130) (L' := [(0, .ref p), (1, .ref pl), (2, ii (n : Int)), (3, ii 4), (4, .ref h.length), (5, ii (k : Int))]) (S' := [ii (k : Int)]) dm_X10_pick_128 rfl rfl rfl rfl ?_
                      refine me1 (pc' := 131) (L' := [(0, .ref p), (1, .ref pl), (2, ii (n : Int)), (3, ii 4), (4, .ref h.length), (5, ii (k : Int))]) (S' := [ii (n : Int), ii (k : Int)]) dm_X10_pick_130 rfl rfl rfl rfl ?_
                      refine y_2ge (a := (k : Int)) (b := (n : Int)) (t := 160) (pc' := 134) dm_X10_pick_131 rfl rfl (by omega) (fun hb26 => ?_) (fun hb26 => ?_)
                      · refine me1 (pc' := 161) (L' := [(0, .ref p), (1, .ref pl), (2, ii (n : Int)), (3, ii 4), (4, .ref h.length), (5, ii (k : Int))]) (S' := [ii 4]) dm_X10_pick_160 rfl rfl rfl rfl ?_
                        refine me1 (pc' := 163) (L' := [(0, .ref p), (1, .ref pl), (2, ii (n : Int)), (3, ii 4), (4, .ref h.length), (5, ii (k : Int))]) (S' := [.ref h.length, ii 4]) dm_X10_pick_161 rfl rfl rfl rfl ?_
                        refine x_cv (pc' := 166) (rest := []) dm_X10_pick_163 rfl (g_invs (As := [ii 4, .ref h.length]) (S := []) rfl rfl rfl) rfl rfl rfl (c_row (hx1 := hx1) (q := h.length + 1) (by omega) (by simp; omega) (by simp) (by omega) (show rowAt (fun _ => True) _ _ _ _ from Or.inr ⟨by omega, hl_new, by omega, trivial⟩) (by omega)) ?_
                        rintro _ _ ⟨rfl, rfl⟩
                        refine y_ret (r := some (.ref (h.length + 1))) dm_X10_pick_166 rfl rfl rfl ?_
                        have hkn : k = n := by omega
                        subst hkn
                        rw [s_pick_r (by omega), vpick_r (by omega), pcl_n (by omega)]
                        have hwp := vw1_pick (o := fun k => (pf k).toNat) hw (show vk v ≤ 5 by omega) (show k ≤ 120 by omega) (fun j hj => by have := hpf j hj; omega)
                        rw [hpkk] at hwp ⊢
                        refine ⟨_, rfl, vres_flat (w := vrow 4 k (fun j => vn v (if vk v ≤ 1 then 0 else (pf j).toNat))) (by omega) hwp (by show 2 ≤ 4; omega) (by show 4 ≤ 6; omega) (vq_row (by omega)) (fun j hj => ?_) (by omega) (by omega)⟩
                        rw [fl_at _ _ hj]
                        have hpj := hpf j hj
                        show vnum v (pf j) = vn v (if vk v ≤ 1 then 0 else (pf j).toNat)
                        by_cases h1k : vk v ≤ 1
                        · rw [if_pos h1k, vnum_1 h1k]
                        · rw [if_neg h1k, vnum_r (by omega) (by omega) (by have hq9 : vq v = vm v := (by unfold vq; rw [if_neg (by omega), if_neg (by omega)]); omega)]
                      · have hpk := hpf k (by omega)
                        refine me1 (pc' := 136) (L' := [(0, .ref p), (1, .ref pl), (2, ii (n : Int)), (3, ii 4), (4, .ref h.length), (5, ii (k : Int))]) (S' := [ii (k : Int)]) dm_X10_pick_134 rfl rfl rfl rfl ?_
                        refine me1 (pc' := 137) (L' := [(0, .ref p), (1, .ref pl), (2, ii (n : Int)), (3, ii 4), (4, .ref h.length), (5, ii (k : Int))]) (S' := [.ref pl, ii (k : Int)]) dm_X10_pick_136 rfl rfl rfl rfl ?_
                        refine me3 (pc' := 138) (S' := [ii np, ii (k : Int)]) dm_X10_pick_137 (yh_len (n := np) rfl (hl_app hpl) (by omega)) rfl rfl rfl ?_
                        refine y_2ge (a := (k : Int)) (b := np) (t := 160) (pc' := 141) dm_X10_pick_138 rfl rfl (by omega) (fun hb27 => ?_) (fun hb27 => ?_)
                        · refine me1 (pc' := 161) (L' := [(0, .ref p), (1, .ref pl), (2, ii (n : Int)), (3, ii 4), (4, .ref h.length), (5, ii (k : Int))]) (S' := [ii 4]) dm_X10_pick_160 rfl rfl rfl rfl ?_
                          refine me1 (pc' := 163) (L' := [(0, .ref p), (1, .ref pl), (2, ii (n : Int)), (3, ii 4), (4, .ref h.length), (5, ii (k : Int))]) (S' := [.ref h.length, ii 4]) dm_X10_pick_161 rfl rfl rfl rfl ?_
                          refine x_cv (pc' := 166) (rest := []) dm_X10_pick_163 rfl (g_invs (As := [ii 4, .ref h.length]) (S := []) rfl rfl rfl) rfl rfl rfl (c_row (hx1 := hx1) (q := h.length + 1) (by omega) (by simp; omega) (by simp) (by omega) (show rowAt (fun _ => True) _ _ _ _ from Or.inr ⟨by omega, hl_new, by omega, trivial⟩) (by omega)) ?_
                          rintro _ _ ⟨rfl, rfl⟩
                          refine y_ret (r := some (.ref (h.length + 1))) dm_X10_pick_166 rfl rfl rfl ?_
                          have hkn : k = n := by omega
                          subst hkn
                          rw [s_pick_r (by omega), vpick_r (by omega), pcl_n (by omega)]
                          have hwp := vw1_pick (o := fun k => (pf k).toNat) hw (show vk v ≤ 5 by omega) (show k ≤ 120 by omega) (fun j hj => by have := hpf j hj; omega)
                          rw [hpkk] at hwp ⊢
                          refine ⟨_, rfl, vres_flat (w := vrow 4 k (fun j => vn v (if vk v ≤ 1 then 0 else (pf j).toNat))) (by omega) hwp (by show 2 ≤ 4; omega) (by show 4 ≤ 6; omega) (vq_row (by omega)) (fun j hj => ?_) (by omega) (by omega)⟩
                          rw [fl_at _ _ hj]
                          have hpj := hpf j hj
                          show vnum v (pf j) = vn v (if vk v ≤ 1 then 0 else (pf j).toNat)
                          by_cases h1k : vk v ≤ 1
                          · rw [if_pos h1k, vnum_1 h1k]
                          · rw [if_neg h1k, vnum_r (by omega) (by omega) (by have hq9 : vq v = vm v := (by unfold vq; rw [if_neg (by omega), if_neg (by omega)]); omega)]
                        · refine me1 (pc' := 143) (L' := [(0, .ref p), (1, .ref pl), (2, ii (n : Int)), (3, ii 4), (4, .ref h.length), (5, ii (k : Int))]) (S' := [.ref h.length]) dm_X10_pick_141 rfl rfl rfl rfl ?_
                          refine me1 (pc' := 145) (L' := [(0, .ref p), (1, .ref pl), (2, ii (n : Int)), (3, ii 4), (4, .ref h.length), (5, ii (k : Int))]) (S' := [ii (k : Int), .ref h.length]) dm_X10_pick_143 rfl rfl rfl rfl ?_
                          refine me1 (pc' := 146) (L' := [(0, .ref p), (1, .ref pl), (2, ii (n : Int)), (3, ii 4), (4, .ref h.length), (5, ii (k : Int))]) (S' := [.ref p, ii (k : Int), .ref h.length]) dm_X10_pick_145 rfl rfl rfl rfl ?_
                          refine me1 (pc' := 147) (L' := [(0, .ref p), (1, .ref pl), (2, ii (n : Int)), (3, ii 4), (4, .ref h.length), (5, ii (k : Int))]) (S' := [.ref pl, .ref p, ii (k : Int), .ref h.length]) dm_X10_pick_146 rfl rfl rfl rfl ?_
                          refine me1 (pc' := 149) (L' := [(0, .ref p), (1, .ref pl), (2, ii (n : Int)), (3, ii 4), (4, .ref h.length), (5, ii (k : Int))]) (S' := [ii (k : Int), .ref pl, .ref p, ii (k : Int), .ref h.length]) dm_X10_pick_147 rfl rfl rfl rfl ?_
                          refine me3 (pc' := 150) (S' := [ii (pf k), .ref p, ii (k : Int), .ref h.length]) dm_X10_pick_149 (yh_iald (v := pf k) (hl_app hpl) (by omega) (by omega) (by omega) (by omega) rfl) rfl rfl rfl ?_
                          refine x_cp (pc' := 153) (v := .long (vnum v (pf k))) (rest := [ii (k : Int), .ref h.length]) dm_X10_pick_150 rfl (g_inv (As := [ii (pf k)]) (S := [ii (k : Int), .ref h.length]) (hl_app hp) rfl rfl rfl (by omega)) rfl rfl rfl (c_numberAt (i := pf k) hx1 (by omega) (cv_app hv) (by omega)) ?_
                          refine me3 (pc' := 154) (S' := []) (h1 := h ++ [cJ n (va_up (fl k (fun i : Nat => vnum v (pf i)) (fun _ => 0)) k (vnum v (pf k)))]) dm_X10_pick_153 (y_hs (yh_last (j := (k : Int)) hl_new (by omega) (by omega) (by omega) (by omega)) (by rw [show (k : Int).toNat = k from rfl]; exact (hl_setl))) rfl rfl rfl ?_
                          refine y_iinc (pc' := 157) (L' := [(5, ii ((k : Int) + 1)), (0, .ref p), (1, .ref pl), (2, ii (n : Int)), (3, ii 4), (4, .ref h.length)]) dm_X10_pick_154 (y_incp (a := (k : Int)) (c := 1) rfl rfl (by decide)) rfl ?_
                          refine me2 (pc' := 128) (S' := []) dm_X10_pick_157 rfl rfl rfl ?_
                          refine pg_cast (h2 := h ++ [cJ n (fl (k + 1) (fun i : Nat => vnum v (pf i)) (fun _ => 0))]) (congrArg (fun z => h ++ [cJ n z]) (fl_s k (fun i : Nat => vnum v (pf i)) (fun _ => 0))) ?_
                          exact pg_sub (L := [(0, .ref p), (1, .ref pl), (2, ii (n : Int)), (3, ii 4), (4, .ref h.length), (5, ii ((k + 1) : Int))]) rfl rfl rfl (ih128 (n - (k + 1)) (by omega) (k + 1) rfl (by omega))
                  refine pg_cast (h2 := h ++ [cJ n (fl 0 (fun i : Nat => vnum v (pf i)) (fun _ => 0))]) (congrArg (fun z => h ++ [cJ n z]) (fl_0 _ _).symm) ?_
                  exact pg_sub (L := [(0, .ref p), (1, .ref pl), (2, ii (n : Int)), (3, ii 4), (4, .ref h.length), (5, ii (0 : Int))]) rfl rfl rfl (lp128 _ 0 rfl (Nat.zero_le _))
            · refine me0 (pc' := 93) (S' := [ii 3]) dm_X10_pick_92 rfl rfl rfl rfl ?_
              refine me1 (pc' := 94) (L' := [(3, ii 3), (0, .ref p), (1, .ref pl), (2, ii (n : Int))]) (S' := []) dm_X10_pick_93 rfl rfl rfl rfl ?_
              refine me2 (pc' := 120) (S' := []) dm_X10_pick_94 rfl rfl rfl ?_
              have hpkk : pickk v = 3 := by unfold pickk; rw [if_pos (by omega)]
              refine me1 (pc' := 121) (L' := [(3, ii 3), (0, .ref p), (1, .ref pl), (2, ii (n : Int))]) (S' := [ii (n : Int)]) dm_X10_pick_120 rfl rfl rfl rfl ?_
              refine me3 (pc' := 123) (S' := [.ref h.length]) (h1 := h ++ [cJ n (fun _ => 0)]) dm_X10_pick_121 (yh_newJ (by omega) (by omega) (by omega) rfl) rfl rfl rfl ?_
              refine me1 (pc' := 125) (L' := [(4, .ref h.length), (3, ii 3), (0, .ref p), (1, .ref pl), (2, ii (n : Int))]) (S' := []) dm_X10_pick_123 rfl rfl rfl rfl ?_
              refine me0 (pc' := 126) (S' := [ii 0]) dm_X10_pick_125 rfl rfl rfl rfl ?_
              refine me1 (pc' := 128) (L' := [(5, ii 0), (4, .ref h.length), (3, ii 3), (0, .ref p), (1, .ref pl), (2, ii (n : Int))]) (S' := []) dm_X10_pick_126 rfl rfl rfl rfl ?_
              have lp128 : ∀ (n128 : Nat) (k : Nat), n - k = n128 → (k ≤ n) → pgE xt (d - 1) 10 6 false (Option.some (Jvm.ClassFile.FieldType.object "ArrayCalculator$Value")) (mj_dec prog_12_method_24_code) 128 [(0, .ref p), (1, .ref pl), (2, ii (n : Int)), (3, ii 3), (4, .ref h.length), (5, ii (k : Int))] [] (h ++ [cJ n (fl k (fun i : Nat => vnum v (pf i)) (fun _ => 0))]) (fun r h' => ∃ x, r = some x ∧ ares A h (e + 1) (s_pick v (fun k => (pf k).toNat) n) 2 (pcl v n + 9) x h') := by
                intro n128
                induction n128 using Nat.strongRecOn with
                | ind n128 ih128 =>
                  intro k hm128 hk
                  refine me1 (pc' := 130) (L' := [(0, .ref p), (1, .ref pl), (2, ii (n : Int)), (3, ii 3), (4, .ref h.length), (5, ii (k : Int))]) (S' := [ii (k : Int)]) dm_X10_pick_128 rfl rfl rfl rfl ?_
                  refine me1 (pc' := 131) (L' := [(0, .ref p), (1, .ref pl), (2, ii (n : Int)), (3, ii 3), (4, .ref h.length), (5, ii (k : Int))]) (S' := [ii (n : Int), ii (k : Int)]) dm_X10_pick_130 rfl rfl rfl rfl ?_
                  refine y_2ge (a := (k : Int)) (b := (n : Int)) (t := 160) (pc' := 134) dm_X10_pick_131 rfl rfl (by omega) (fun hb28 => ?_) (fun hb28 => ?_)
                  · refine me1 (pc' := 161) (L' := [(0, .ref p), (1, .ref pl), (2, ii (n : Int)), (3, ii 3), (4, .ref h.length), (5, ii (k : Int))]) (S' := [ii 3]) dm_X10_pick_160 rfl rfl rfl rfl ?_
                    refine me1 (pc' := 163) (L' := [(0, .ref p), (1, .ref pl), (2, ii (n : Int)), (3, ii 3), (4, .ref h.length), (5, ii (k : Int))]) (S' := [.ref h.length, ii 3]) dm_X10_pick_161 rfl rfl rfl rfl ?_
                    refine x_cv (pc' := 166) (rest := []) dm_X10_pick_163 rfl (g_invs (As := [ii 3, .ref h.length]) (S := []) rfl rfl rfl) rfl rfl rfl (c_row (hx1 := hx1) (q := h.length + 1) (by omega) (by simp; omega) (by simp) (by omega) (show rowAt (fun _ => True) _ _ _ _ from Or.inr ⟨by omega, hl_new, by omega, trivial⟩) (by omega)) ?_
                    rintro _ _ ⟨rfl, rfl⟩
                    refine y_ret (r := some (.ref (h.length + 1))) dm_X10_pick_166 rfl rfl rfl ?_
                    have hkn : k = n := by omega
                    subst hkn
                    rw [s_pick_r (by omega), vpick_r (by omega), pcl_n (by omega)]
                    have hwp := vw1_pick (o := fun k => (pf k).toNat) hw (show vk v ≤ 5 by omega) (show k ≤ 120 by omega) (fun j hj => by have := hpf j hj; omega)
                    rw [hpkk] at hwp ⊢
                    refine ⟨_, rfl, vres_flat (w := vrow 3 k (fun j => vn v (if vk v ≤ 1 then 0 else (pf j).toNat))) (by omega) hwp (by show 2 ≤ 3; omega) (by show 3 ≤ 6; omega) (vq_row (by omega)) (fun j hj => ?_) (by omega) (by omega)⟩
                    rw [fl_at _ _ hj]
                    have hpj := hpf j hj
                    show vnum v (pf j) = vn v (if vk v ≤ 1 then 0 else (pf j).toNat)
                    by_cases h1k : vk v ≤ 1
                    · rw [if_pos h1k, vnum_1 h1k]
                    · rw [if_neg h1k, vnum_r (by omega) (by omega) (by have hq9 : vq v = vm v := (by unfold vq; rw [if_neg (by omega), if_neg (by omega)]); omega)]
                  · have hpk := hpf k (by omega)
                    refine me1 (pc' := 136) (L' := [(0, .ref p), (1, .ref pl), (2, ii (n : Int)), (3, ii 3), (4, .ref h.length), (5, ii (k : Int))]) (S' := [ii (k : Int)]) dm_X10_pick_134 rfl rfl rfl rfl ?_
                    refine me1 (pc' := 137) (L' := [(0, .ref p), (1, .ref pl), (2, ii (n : Int)), (3, ii 3), (4, .ref h.length), (5, ii (k : Int))]) (S' := [.ref pl, ii (k : Int)]) dm_X10_pick_136 rfl rfl rfl rfl ?_
                    refine me3 (pc' := 138) (S' := [ii np, ii (k : Int)]) dm_X10_pick_137 (yh_len (n := np) rfl (hl_app hpl) (by omega)) rfl rfl rfl ?_
                    refine y_2ge (a := (k : Int)) (b := np) (t := 160) (pc' := 141) dm_X10_pick_138 rfl rfl (by omega) (fun hb29 => ?_) (fun hb29 => ?_)
                    · refine me1 (pc' := 161) (L' := [(0, .ref p), (1, .ref pl), (2, ii (n : Int)), (3, ii 3), (4, .ref h.length), (5, ii (k : Int))]) (S' := [ii 3]) dm_X10_pick_160 rfl rfl rfl rfl ?_
                      refine me1 (pc' := 163) (L' := [(0, .ref p), (1, .ref pl), (2, ii (n : Int)), (3, ii 3), (4, .ref h.length), (5, ii (k : Int))]) (S' := [.ref h.length, ii 3]) dm_X10_pick_161 rfl rfl rfl rfl ?_
                      refine x_cv (pc' := 166) (rest := []) dm_X10_pick_163 rfl (g_invs (As := [ii 3, .ref h.length]) (S := []) rfl rfl rfl) rfl rfl rfl (c_row (hx1 := hx1) (q := h.length + 1) (by omega) (by simp; omega) (by simp) (by omega) (show rowAt (fun _ => True) _ _ _ _ from Or.inr ⟨by omega, hl_new, by omega, trivial⟩) (by omega)) ?_
                      rintro _ _ ⟨rfl, rfl⟩
                      refine y_ret (r := some (.ref (h.length + 1))) dm_X10_pick_166 rfl rfl rfl ?_
                      have hkn : k = n := by omega
                      subst hkn
                      rw [s_pick_r (by omega), vpick_r (by omega), pcl_n (by omega)]
                      have hwp := vw1_pick (o := fun k => (pf k).toNat) hw (show vk v ≤ 5 by omega) (show k ≤ 120 by omega) (fun j hj => by have := hpf j hj; omega)
                      rw [hpkk] at hwp ⊢
                      refine ⟨_, rfl, vres_flat (w := vrow 3 k (fun j => vn v (if vk v ≤ 1 then 0 else (pf j).toNat))) (by omega) hwp (by show 2 ≤ 3; omega) (by show 3 ≤ 6; omega) (vq_row (by omega)) (fun j hj => ?_) (by omega) (by omega)⟩
                      rw [fl_at _ _ hj]
                      have hpj := hpf j hj
                      show vnum v (pf j) = vn v (if vk v ≤ 1 then 0 else (pf j).toNat)
                      by_cases h1k : vk v ≤ 1
                      · rw [if_pos h1k, vnum_1 h1k]
                      · rw [if_neg h1k, vnum_r (by omega) (by omega) (by have hq9 : vq v = vm v := (by unfold vq; rw [if_neg (by omega), if_neg (by omega)]); omega)]
                    · refine me1 (pc' := 143) (L' := [(0, .ref p), (1, .ref pl), (2, ii (n : Int)), (3, ii 3), (4, .ref h.length), (5, ii (k : Int))]) (S' := [.ref h.length]) dm_X10_pick_141 rfl rfl rfl rfl ?_
                      refine me1 (pc' := 145) (L' := [(0, .ref p), (1, .ref pl), (2, ii (n : Int)), (3, ii 3), (4, .ref h.length), (5, ii (k : Int))]) (S' := [ii (k : Int), .ref h.length]) dm_X10_pick_143 rfl rfl rfl rfl ?_
                      refine me1 (pc' := 146) (L' := [(0, .ref p), (1, .ref pl), (2, ii (n : Int)), (3, ii 3), (4, .ref h.length), (5, ii (k : Int))]) (S' := [.ref p, ii (k : Int), .ref h.length]) dm_X10_pick_145 rfl rfl rfl rfl ?_
                      refine me1 (pc' := 147) (L' := [(0, .ref p), (1, .ref pl), (2, ii (n : Int)), (3, ii 3), (4, .ref h.length), (5, ii (k : Int))]) (S' := [.ref pl, .ref p, ii (k : Int), .ref h.length]) dm_X10_pick_146 rfl rfl rfl rfl ?_
                      refine me1 (pc' := 149) (L' := [(0, .ref p), (1, .ref pl), (2, ii (n : Int)), (3, ii 3), (4, .ref h.length), (5, ii (k : Int))]) (S' := [ii (k : Int), .ref pl, .ref p, ii (k : Int), .ref h.length]) dm_X10_pick_147 rfl rfl rfl rfl ?_
                      refine me3 (pc' := 150) (S' := [ii (pf k), .ref p, ii (k : Int), .ref h.length]) dm_X10_pick_149 (yh_iald (v := pf k) (hl_app hpl) (by omega) (by omega) (by omega) (by omega) rfl) rfl rfl rfl ?_
                      refine x_cp (pc' := 153) (v := .long (vnum v (pf k))) (rest := [ii (k : Int), .ref h.length]) dm_X10_pick_150 rfl (g_inv (As := [ii (pf k)]) (S := [ii (k : Int), .ref h.length]) (hl_app hp) rfl rfl rfl (by omega)) rfl rfl rfl (c_numberAt (i := pf k) hx1 (by omega) (cv_app hv) (by omega)) ?_
                      refine me3 (pc' := 154) (S' := []) (h1 := h ++ [cJ n (va_up (fl k (fun i : Nat => vnum v (pf i)) (fun _ => 0)) k (vnum v (pf k)))]) dm_X10_pick_153 (y_hs (yh_last (j := (k : Int)) hl_new (by omega) (by omega) (by omega) (by omega)) (by rw [show (k : Int).toNat = k from rfl]; exact (hl_setl))) rfl rfl rfl ?_
                      refine y_iinc (pc' := 157) (L' := [(5, ii ((k : Int) + 1)), (0, .ref p), (1, .ref pl), (2, ii (n : Int)), (3, ii 3), (4, .ref h.length)]) dm_X10_pick_154 (y_incp (a := (k : Int)) (c := 1) rfl rfl (by decide)) rfl ?_
                      refine me2 (pc' := 128) (S' := []) dm_X10_pick_157 rfl rfl rfl ?_
                      refine pg_cast (h2 := h ++ [cJ n (fl (k + 1) (fun i : Nat => vnum v (pf i)) (fun _ => 0))]) (congrArg (fun z => h ++ [cJ n z]) (fl_s k (fun i : Nat => vnum v (pf i)) (fun _ => 0))) ?_
                      exact pg_sub (L := [(0, .ref p), (1, .ref pl), (2, ii (n : Int)), (3, ii 3), (4, .ref h.length), (5, ii ((k + 1) : Int))]) rfl rfl rfl (ih128 (n - (k + 1)) (by omega) (k + 1) rfl (by omega))
              refine pg_cast (h2 := h ++ [cJ n (fl 0 (fun i : Nat => vnum v (pf i)) (fun _ => 0))]) (congrArg (fun z => h ++ [cJ n z]) (fl_0 _ _).symm) ?_
              exact pg_sub (L := [(0, .ref p), (1, .ref pl), (2, ii (n : Int)), (3, ii 3), (4, .ref h.length), (5, ii (0 : Int))]) rfl rfl rfl (lp128 _ 0 rfl (Nat.zero_le _))
          · refine me1 (pc' := 73) (L' := [(0, .ref p), (1, .ref pl), (2, ii (n : Int))]) (S' := [.ref p]) dm_X10_pick_72 rfl rfl rfl rfl ?_
            refine me1 (pc' := 74) (L' := [(0, .ref p), (1, .ref pl), (2, ii (n : Int))]) (S' := [.ref pl, .ref p]) dm_X10_pick_73 rfl rfl rfl rfl ?_
            refine me1 (pc' := 75) (L' := [(0, .ref p), (1, .ref pl), (2, ii (n : Int))]) (S' := [ii (n : Int), .ref pl, .ref p]) dm_X10_pick_74 rfl rfl rfl rfl ?_
            refine x_cv (pc' := 78) (rest := []) dm_X10_pick_75 rfl (g_inv (As := [.ref pl, ii (n : Int)]) (S := []) hp rfl rfl rfl (by omega)) rfl rfl rfl (c_pickLines hx1 (by omega) hA hl hv hpl hpl2 hnp hn (by omega) (by omega) (by omega) (fun k hk => by have := hpf k hk; omega)) ?_
            rintro x h1 hres
            obtain ⟨q, rfl⟩ := vres_ref hres
            refine y_ret (r := some (.ref q)) dm_X10_pick_78 rfl rfl rfl ?_
            rw [s_pick_6 (by omega) (by omega) (by omega), pcl_6 (by omega)]
            exact ⟨_, rfl, hres⟩
        · refine me1 (pc' := 50) (L' := [(0, .ref p), (1, .ref pl), (2, ii (n : Int))]) (S' := [ii (n : Int)]) dm_X10_pick_49 rfl rfl rfl rfl ?_
          refine y_1ne (a := (n : Int)) (t := 57) (pc' := 53) dm_X10_pick_50 rfl rfl (by omega) (fun hb30 => ?_) (fun hb30 => ?_)
          · refine me0 (pc' := 59) (S' := [ii 8]) dm_X10_pick_57 rfl rfl rfl rfl ?_
            refine x_cv (pc' := 62) (rest := []) dm_X10_pick_59 rfl (g_invs (As := [ii 8]) (S := []) rfl rfl rfl) rfl rfl rfl (c_fault (q := h.length) (by omega) (by omega) rfl (by omega)) ?_
            rintro _ _ ⟨rfl, rfl⟩
            refine y_ret (r := some (.ref h.length)) dm_X10_pick_62 rfl rfl rfl ?_
            rw [s_pick_6e (by omega) (by omega)]
            exact ⟨_, rfl, ares_f 8 (by omega) (by omega) (by omega)⟩
          · refine me0 (pc' := 54) (S' := [ii 4]) dm_X10_pick_53 rfl rfl rfl rfl ?_
            refine me2 (pc' := 59) (S' := [ii 4]) dm_X10_pick_54 rfl rfl rfl ?_
            refine x_cv (pc' := 62) (rest := []) dm_X10_pick_59 rfl (g_invs (As := [ii 4]) (S := []) rfl rfl rfl) rfl rfl rfl (c_fault (q := h.length) (by omega) (by omega) rfl (by omega)) ?_
            rintro _ _ ⟨rfl, rfl⟩
            refine y_ret (r := some (.ref h.length)) dm_X10_pick_62 rfl rfl rfl ?_
            rw [s_pick_60 (by omega) (by omega)]
            exact ⟨_, rfl, ares_f 4 (by omega) (by omega) (by omega)⟩
  · refine me1 (pc' := 10) (L' := [(0, .ref p), (1, .ref pl), (2, ii (n : Int))]) (S' := [ii (n : Int)]) dm_X10_pick_9 rfl rfl rfl rfl ?_
    refine me0 (pc' := 12) (S' := [ii 24, ii (n : Int)]) dm_X10_pick_10 rfl rfl rfl rfl ?_
    refine y_2le (a := (n : Int)) (b := 24) (t := 23) (pc' := 15) dm_X10_pick_12 rfl rfl (by omega) (fun hb31 => ?_) (fun hb31 => ?_)
    · refine me1 (pc' := 24) (L' := [(0, .ref p), (1, .ref pl), (2, ii (n : Int))]) (S' := [.ref p]) dm_X10_pick_23 rfl rfl rfl rfl ?_
      refine me1 (pc' := 25) (L' := [(0, .ref p), (1, .ref pl), (2, ii (n : Int))]) (S' := [.ref pl, .ref p]) dm_X10_pick_24 rfl rfl rfl rfl ?_
      refine me1 (pc' := 26) (L' := [(0, .ref p), (1, .ref pl), (2, ii (n : Int))]) (S' := [ii (n : Int), .ref pl, .ref p]) dm_X10_pick_25 rfl rfl rfl rfl ?_
      refine x_cv (pc' := 29) (rest := []) dm_X10_pick_26 rfl (g_inv (As := [.ref pl, ii (n : Int)]) (S := []) hp rfl rfl rfl (by omega)) rfl rfl rfl (c_pickValues (by omega) hA hl hv hpl hpl2 hnp hn (by omega) he hset (by omega) (fun k hk => by have := hpf k hk; omega)) ?_
      rintro x h1 hres
      obtain ⟨q, rfl⟩ := vres_ref hres
      refine y_ret (r := some (.ref q)) dm_X10_pick_29 rfl rfl rfl ?_
      rw [s_pick_7 (by omega) (by omega), pcl_n (by omega)]
      exact ⟨_, rfl, hres⟩
    · refine me0 (pc' := 17) (S' := [ii 8]) dm_X10_pick_15 rfl rfl rfl rfl ?_
      refine x_cv (pc' := 20) (rest := []) dm_X10_pick_17 rfl (g_invs (As := [ii 8]) (S := []) rfl rfl rfl) rfl rfl rfl (c_fault (q := h.length) (by omega) (by omega) rfl (by omega)) ?_
      rintro _ _ ⟨rfl, rfl⟩
      refine me2 (pc' := 29) (S' := [.ref h.length]) dm_X10_pick_20 rfl rfl rfl ?_
      refine y_ret (r := some (.ref h.length)) dm_X10_pick_29 rfl rfl rfl ?_
      rw [s_pick_7e (by omega) (by omega)]
      exact ⟨_, rfl, ares_f 8 (by omega) (by omega) (by omega)⟩
