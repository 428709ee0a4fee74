theorem dm_X12_picked_12 : mj_dec prog_14_method_34_code 12 = some (.aload_n 0, 1) := by decide +kernel
theorem dm_X12_picked_13 : mj_dec prog_14_method_34_code 13 = some (.iload_n 1, 1) := by decide +kernel
theorem dm_X12_picked_14 : mj_dec prog_14_method_34_code 14 = some (.invokevirtual 156, 3) := by decide +kernel
theorem dm_X12_picked_17 : mj_dec prog_14_method_34_code 17 = some (.istore 4, 2) := by decide +kernel
theorem dm_X12_picked_19 : mj_dec prog_14_method_34_code 19 = some (.aload_n 0, 1) := by decide +kernel
theorem dm_X12_picked_20 : mj_dec prog_14_method_34_code 20 = some (.iload_n 2, 1) := by decide +kernel
theorem dm_X12_picked_21 : mj_dec prog_14_method_34_code 21 = some (.iload 4, 2) := by decide +kernel
theorem dm_X12_picked_23 : mj_dec prog_14_method_34_code 23 = some (.invokevirtual 255, 3) := by decide +kernel
theorem dm_X12_picked_26 : mj_dec prog_14_method_34_code 26 = some (.istore 5, 2) := by decide +kernel
theorem dm_X12_picked_28 : mj_dec prog_14_method_34_code 28 = some (.iconst 0, 1) := by decide +kernel
theorem dm_X12_picked_29 : mj_dec prog_14_method_34_code 29 = some (.istore 6, 2) := by decide +kernel
theorem dm_X12_picked_31 : mj_dec prog_14_method_34_code 31 = some (.iload 6, 2) := by decide +kernel
theorem dm_X12_picked_33 : mj_dec prog_14_method_34_code 33 = some (.iload_n 2, 1) := by decide +kernel
theorem dm_X12_picked_34 : mj_dec prog_14_method_34_code 34 = some (.iload 4, 2) := by decide +kernel
theorem dm_X12_picked_36 : mj_dec prog_14_method_34_code 36 = some (.imul, 1) := by decide +kernel
theorem dm_X12_picked_37 : mj_dec prog_14_method_34_code 37 = some (.if_icmp .ge 48, 3) := by decide +kernel
theorem dm_X12_picked_40 : mj_dec prog_14_method_34_code 40 = some (.aload_n 0, 1) := by decide +kernel
theorem dm_X12_picked_41 : mj_dec prog_14_method_34_code 41 = some (.getfield 8, 3) := by decide +kernel
theorem dm_X12_picked_44 : mj_dec prog_14_method_34_code 44 = some (.aload_n 0, 1) := by decide +kernel
theorem dm_X12_picked_45 : mj_dec prog_14_method_34_code 45 = some (.getfield 15, 3) := by decide +kernel
theorem dm_X12_picked_48 : mj_dec prog_14_method_34_code 48 = some (.iload 5, 2) := by decide +kernel
theorem dm_X12_picked_50 : mj_dec prog_14_method_34_code 50 = some (.iaload, 1) := by decide +kernel
theorem dm_X12_picked_51 : mj_dec prog_14_method_34_code 51 = some (.iload 6, 2) := by decide +kernel
theorem dm_X12_picked_53 : mj_dec prog_14_method_34_code 53 = some (.iadd, 1) := by decide +kernel
theorem dm_X12_picked_54 : mj_dec prog_14_method_34_code 54 = some (.aload_n 0, 1) := by decide +kernel
theorem dm_X12_picked_55 : mj_dec prog_14_method_34_code 55 = some (.iload_n 1, 1) := by decide +kernel
theorem dm_X12_picked_56 : mj_dec prog_14_method_34_code 56 = some (.aload_n 0, 1) := by decide +kernel
theorem dm_X12_picked_57 : mj_dec prog_14_method_34_code 57 = some (.getfield 33, 3) := by decide +kernel
theorem dm_X12_picked_60 : mj_dec prog_14_method_34_code 60 = some (.iload 6, 2) := by decide +kernel
theorem dm_X12_picked_62 : mj_dec prog_14_method_34_code 62 = some (.iload 4, 2) := by decide +kernel
theorem dm_X12_picked_64 : mj_dec prog_14_method_34_code 64 = some (.idiv, 1) := by decide +kernel
theorem dm_X12_picked_65 : mj_dec prog_14_method_34_code 65 = some (.iaload, 1) := by decide +kernel
theorem dm_X12_picked_66 : mj_dec prog_14_method_34_code 66 = some (.iload 4, 2) := by decide +kernel
theorem dm_X12_picked_68 : mj_dec prog_14_method_34_code 68 = some (.imul, 1) := by decide +kernel
theorem dm_X12_picked_69 : mj_dec prog_14_method_34_code 69 = some (.iload 6, 2) := by decide +kernel
theorem dm_X12_picked_71 : mj_dec prog_14_method_34_code 71 = some (.iload 4, 2) := by decide +kernel
theorem dm_X12_picked_73 : mj_dec prog_14_method_34_code 73 = some (.irem, 1) := by decide +kernel
theorem dm_X12_picked_74 : mj_dec prog_14_method_34_code 74 = some (.iadd, 1) := by decide +kernel
theorem dm_X12_picked_75 : mj_dec prog_14_method_34_code 75 = some (.invokevirtual 138, 3) := by decide +kernel
theorem dm_X12_picked_78 : mj_dec prog_14_method_34_code 78 = some (.lastore, 1) := by decide +kernel
theorem dm_X12_picked_79 : mj_dec prog_14_method_34_code 79 = some (.iinc 6 1, 3) := by decide +kernel
theorem dm_X12_picked_82 : mj_dec prog_14_method_34_code 82 = some (.goto (-51), 3) := by decide +kernel
theorem dm_X12_picked_85 : mj_dec prog_14_method_34_code 85 = some (.iload 5, 2) := by decide +kernel
theorem dm_X12_picked_87 : mj_dec prog_14_method_34_code 87 = some (.ireturn, 1) := by decide +kernel
theorem r_picked6 {xt : mj_X} {d e hd q b n : Nat} {pre post : mj_H} {s : RS} {v : VV} {place : Int} (hm : pre.length = 102) (hd1 : 5 ≤ d) (hB : rB s) (hv : rv s (e + 1) hd v) (hh3 : 3 ≤ hd) (hq : s.1 4 = (q : Int)) (hb : s.1 3 = (b : Int)) (hq3 : 3 ≤ q) (hV2 : q < 310000) (he0 : s.1 5 = 0) (hk6 : vk v = 6) (hn0 : 1 ≤ n) (hn : n ≤ 12) (hC : b + 144 ≤ 820000) (hO : ∀ k, k < n → 0 ≤ s.2.2.1 14 k ∧ s.2.2.1 14 k < vm v) : pgV xt d 266 [.ref 102, ii (hd : Int), ii (n : Int)] (rS pre post s) (rres pre post s (e + 1) (.inr (vpick v (fun k => (s.2.2.1 14 k).toNat) n)) place (n * vc v) 1) := by
  have hB0 := hB
  obtain ⟨hB1, hB2, hB3, hB4⟩ := hB
  obtain ⟨fr, hfr, hsh, hlt, hcl, hvk, hvm, hvc, hvq, hvcl⟩ := rv_val hv
  have hw6 := hv.1.2.2.2.1 hk6
  have hq6 : vq v = vm v * vc v := by unfold vq; rw [if_pos hk6]
  have ixb : ∀ {x y : Nat}, x < vm v → y < vc v → x * vc v + y < vm v * vc v := fun {x y} hx hy => by have := Nat.mul_le_mul_right (vc v) hx; rw [Nat.succ_mul] at this; omega
  have hmb := mulb 12 12 hn (show vc v ≤ 12 by omega)
  refine x_enter pm_X12_picked (L0 := [(0, .ref 102), (1, ii (hd : Int)), (2, ii (n : Int))]) rfl (Nat.le_of_ble_eq_true rfl) (by omega) ?_
  refine me1 (pc' := 1) (L' := [(0, .ref 102), (1, ii (hd : Int)), (2, ii (n : Int))]) (S' := [.ref 102]) dm_X12_picked_0 rfl rfl rfl rfl ?_
  refine me1 (pc' := 2) (L' := [(0, .ref 102), (1, ii (hd : Int)), (2, ii (n : Int))]) (S' := [ii (hd : Int), .ref 102]) dm_X12_picked_1 rfl rfl rfl rfl ?_
  refine x_cp (pc' := 5) (v := ii (vk v : Int)) (rest := []) dm_X12_picked_2 rfl (q_inv (As := [ii (hd : Int)]) (S := []) hm rfl rfl rfl) rfl rfl rfl (r_kindOf_ hm (by omega) hB0 hv) ?_
  refine me1 (pc' := 6) (L' := [(3, ii (vk v : Int)), (0, .ref 102), (1, ii (hd : Int)), (2, ii (n : Int))]) (S' := []) dm_X12_picked_5 rfl rfl rfl rfl ?_
  refine me1 (pc' := 7) (L' := [(3, ii (vk v : Int)), (0, .ref 102), (1, ii (hd : Int)), (2, ii (n : Int))]) (S' := [ii (vk v : Int)]) dm_X12_picked_6 rfl rfl rfl rfl ?_
  refine me0 (pc' := 9) (S' := [ii 6, ii (vk v : Int)]) dm_X12_picked_7 rfl rfl rfl rfl ?_
  refine y_2ne (a := (vk v : Int)) (b := 6) (t := 88) (pc' := 12) dm_X12_picked_9 rfl rfl (by omega) (fun hb1 => ?_) (fun hb1 => ?_)
  · exfalso; omega
  · refine me1 (pc' := 13) (L' := [(3, ii (vk v : Int)), (0, .ref 102), (1, ii (hd : Int)), (2, ii (n : Int))]) (S' := [.ref 102]) dm_X12_picked_12 rfl rfl rfl rfl ?_
    refine me1 (pc' := 14) (L' := [(3, ii (vk v : Int)), (0, .ref 102), (1, ii (hd : Int)), (2, ii (n : Int))]) (S' := [ii (hd : Int), .ref 102]) dm_X12_picked_13 rfl rfl rfl rfl ?_
    refine x_cp (pc' := 17) (v := ii (vc v : Int)) (rest := []) dm_X12_picked_14 rfl (q_inv (As := [ii (hd : Int)]) (S := []) hm rfl rfl rfl) rfl rfl rfl (r_columns_ hm (by omega) hB0 hv) ?_
    refine me1 (pc' := 19) (L' := [(4, ii (vc v : Int)), (3, ii (vk v : Int)), (0, .ref 102), (1, ii (hd : Int)), (2, ii (n : Int))]) (S' := []) dm_X12_picked_17 rfl rfl rfl rfl ?_
    refine me1 (pc' := 20) (L' := [(4, ii (vc v : Int)), (3, ii (vk v : Int)), (0, .ref 102), (1, ii (hd : Int)), (2, ii (n : Int))]) (S' := [.ref 102]) dm_X12_picked_19 rfl rfl rfl rfl ?_
    refine me1 (pc' := 21) (L' := [(4, ii (vc v : Int)), (3, ii (vk v : Int)), (0, .ref 102), (1, ii (hd : Int)), (2, ii (n : Int))]) (S' := [ii (n : Int), .ref 102]) dm_X12_picked_20 rfl rfl rfl rfl ?_
    refine me1 (pc' := 23) (L' := [(4, ii (vc v : Int)), (3, ii (vk v : Int)), (0, .ref 102), (1, ii (hd : Int)), (2, ii (n : Int))]) (S' := [ii (vc v : Int), ii (n : Int), .ref 102]) dm_X12_picked_21 rfl rfl rfl rfl ?_
    refine x_cv (pc' := 26) (rest := []) dm_X12_picked_23 rfl (q_inv (As := [ii (n : Int), ii (vc v : Int)]) (S := []) hm rfl rfl rfl) rfl rfl rfl (r_table_ (q := q) (b := b) (s := s) hm (by omega) hq hb (by omega) (by omega) (by omega)) ?_
    rintro _ _ ⟨rfl, rfl⟩
    refine me1 (pc' := 28) (L' := [(5, ii (q : Int)), (4, ii (vc v : Int)), (3, ii (vk v : Int)), (0, .ref 102), (1, ii (hd : Int)), (2, ii (n : Int))]) (S' := []) dm_X12_picked_26 rfl rfl rfl rfl ?_
    refine me0 (pc' := 29) (S' := [ii 0]) dm_X12_picked_28 rfl rfl rfl rfl ?_
    refine me1 (pc' := 31) (L' := [(6, ii 0), (5, ii (q : Int)), (4, ii (vc v : Int)), (3, ii (vk v : Int)), (0, .ref 102), (1, ii (hd : Int)), (2, ii (n : Int))]) (S' := []) dm_X12_picked_29 rfl rfl rfl rfl ?_
    have lp31 : ∀ (n31 : Nat) (k : Nat), n * vc v - k = n31 → (k ≤ n * vc v) → pgE xt (d - 1) 12 7 false (Option.some Jvm.ClassFile.FieldType.int) (mj_dec prog_14_method_34_code) 31 [(0, .ref 102), (1, ii (hd : Int)), (2, ii (n : Int)), (3, ii (vk v : Int)), (4, ii (vc v : Int)), (5, ii (q : Int)), (6, ii (k : Int))] [] (rI pre post ((fillS (tabS s q b (n : Int) (vc v : Int)) b k (fun k => vn v ((s.2.2.1 14 (k / vc v)).toNat * vc v + k % vc v))).1) ((fillS (tabS s q b (n : Int) (vc v : Int)) b k (fun k => vn v ((s.2.2.1 14 (k / vc v)).toNat * vc v + k % vc v))).2.1) ((fillS (tabS s q b (n : Int) (vc v : Int)) b k (fun k => vn v ((s.2.2.1 14 (k / vc v)).toNat * vc v + k % vc v))).2.2.1) ((fillS (tabS s q b (n : Int) (vc v : Int)) b k (fun k => vn v ((s.2.2.1 14 (k / vc v)).toNat * vc v + k % vc v))).2.2.2)) (fun r h' => ∃ x, r = some x ∧ rres pre post s (e + 1) (.inr (vpick v (fun k => (s.2.2.1 14 k).toNat) n)) place (n * vc v) 1 x h') := by
      intro n31
      induction n31 using Nat.strongRecOn with
      | ind n31 ih31 =>
        intro k hm31 hk
        refine me1 (pc' := 33) (L' := [(0, .ref 102), (1, ii (hd : Int)), (2, ii (n : Int)), (3, ii (vk v : Int)), (4, ii (vc v : Int)), (5, ii (q : Int)), (6, ii (k : Int))]) (S' := [ii (k : Int)]) dm_X12_picked_31 rfl rfl rfl rfl ?_
        refine me1 (pc' := 34) (L' := [(0, .ref 102), (1, ii (hd : Int)), (2, ii (n : Int)), (3, ii (vk v : Int)), (4, ii (vc v : Int)), (5, ii (q : Int)), (6, ii (k : Int))]) (S' := [ii (n : Int), ii (k : Int)]) dm_X12_picked_33 rfl rfl rfl rfl ?_
        refine me1 (pc' := 36) (L' := [(0, .ref 102), (1, ii (hd : Int)), (2, ii (n : Int)), (3, ii (vk v : Int)), (4, ii (vc v : Int)), (5, ii (q : Int)), (6, ii (k : Int))]) (S' := [ii (vc v : Int), ii (n : Int), ii (k : Int)]) dm_X12_picked_34 rfl rfl rfl rfl ?_
        refine y_imul (a := (n : Int)) (b := (vc v : Int)) dm_X12_picked_36 (pc' := 37) rfl ?_
        refine y_2ge (a := (k : Int)) (b := (n : Int) * (vc v : Int)) (t := 85) (pc' := 40) dm_X12_picked_37 rfl rfl (by omega) (fun hb2 => ?_) (fun hb2 => ?_)
        · refine me1 (pc' := 87) (L' := [(0, .ref 102), (1, ii (hd : Int)), (2, ii (n : Int)), (3, ii (vk v : Int)), (4, ii (vc v : Int)), (5, ii (q : Int)), (6, ii (k : Int))]) (S' := [ii (q : Int)]) dm_X12_picked_85 rfl rfl rfl rfl ?_
          refine y_ret (r := some (ii (q : Int))) dm_X12_picked_87 rfl rfl rfl ?_
          have hkn : k = n * vc v := by omega
          subst hkn
          rw [vpick_6 hk6]
          refine ⟨_, rfl, rres_tab (r := n) (c := vc v) hq hq3 hb he0 (vw1_tab hn0 hn (by omega) (by omega) (fun j hj => hw6.2.2.2.2 _ ?_)) rfl rfl rfl (fun _ _ => rfl) (Nat.le_refl _) (Nat.le_refl _)⟩
          have hdb := divb (k := j) (n := n) (c := vc v) (by omega) hj
          have hOj := hO (j / vc v) (by have := hdb.2.1; omega)
          exact ixb (by omega) (Nat.mod_lt _ (by omega))
        · have hdb := divb (k := k) (n := n) (c := vc v) (by omega) (by omega)
          have hdv : k / vc v < n := by have := hdb.2.1; omega
          have hmd : k % vc v < vc v := Nat.mod_lt _ (by omega)
          have hOk := hO (k / vc v) hdv
          have hixb : (s.2.2.1 14 (k / vc v)).toNat * vc v + k % vc v < vq v := by rw [hq6]; exact ixb (by omega) hmd
          have hxT : rext s (fillS (tabS s q b (n : Int) (vc v : Int)) b k (fun k => vn v ((s.2.2.1 14 (k / vc v)).toNat * vc v + k % vc v))) := rext_fill (rext_tab hq hb (by omega)) (by omega) _
          have hvX := rv_ext hxT hh3 hv
          have hBX : rB (fillS (tabS s q b (n : Int) (vc v : Int)) b k (fun k => vn v ((s.2.2.1 14 (k / vc v)).toNat * vc v + k % vc v))) := ⟨by show 3 ≤ (q : Int) + 1; omega, by show (q : Int) + 1 ≤ 310000; omega, by show 0 ≤ (b : Int) + (n : Int) * (vc v : Int); omega, by show (b : Int) + (n : Int) * (vc v : Int) ≤ 820000; omega⟩
          refine me1 (pc' := 41) (L' := [(0, .ref 102), (1, ii (hd : Int)), (2, ii (n : Int)), (3, ii (vk v : Int)), (4, ii (vc v : Int)), (5, ii (q : Int)), (6, ii (k : Int))]) (S' := [.ref 102]) dm_X12_picked_40 rfl rfl rfl rfl ?_
          refine me3 (pc' := 44) (S' := [.ref (102 + 1)]) dm_X12_picked_41 (q_getr hm rfl (fun m i l => rg_0 m i l)) rfl rfl rfl ?_
          refine me1 (pc' := 45) (L' := [(0, .ref 102), (1, ii (hd : Int)), (2, ii (n : Int)), (3, ii (vk v : Int)), (4, ii (vc v : Int)), (5, ii (q : Int)), (6, ii (k : Int))]) (S' := [.ref 102, .ref (102 + 1)]) dm_X12_picked_44 rfl rfl rfl rfl ?_
          refine me3 (pc' := 48) (S' := [.ref (102 + 2), .ref (102 + 1)]) dm_X12_picked_45 (q_getr hm rfl (fun m i l => rg_1 m i l)) rfl rfl rfl ?_
          refine me1 (pc' := 50) (L' := [(0, .ref 102), (1, ii (hd : Int)), (2, ii (n : Int)), (3, ii (vk v : Int)), (4, ii (vc v : Int)), (5, ii (q : Int)), (6, ii (k : Int))]) (S' := [ii (q : Int), .ref (102 + 2), .ref (102 + 1)]) dm_X12_picked_48 rfl rfl rfl rfl ?_
          refine me3 (pc' := 51) (S' := [ii ((((fillS (tabS s q b (n : Int) (vc v : Int)) b k (fun k => vn v ((s.2.2.1 14 (k / vc v)).toNat * vc v + k % vc v))).2.2.1) 1) q), .ref (102 + 1)]) dm_X12_picked_50 (q_iald (v := (((fillS (tabS s q b (n : Int) (vc v : Int)) b k (fun k => vn v ((s.2.2.1 14 (k / vc v)).toNat * vc v + k % vc v))).2.2.1) 1) q) (k := 1) (n := 310000) hm (fun m i l I J => rc_1 m i l I J) (by omega) (by omega) (by decide) rfl) rfl rfl rfl ?_
          refine pg_st (S' := [ii (b : Int), .ref (102 + 1)]) (congrArg (fun z => ii z :: [.ref (102 + 1)]) (up_eq _ _ _)) ?_
          refine me1 (pc' := 53) (L' := [(0, .ref 102), (1, ii (hd : Int)), (2, ii (n : Int)), (3, ii (vk v : Int)), (4, ii (vc v : Int)), (5, ii (q : Int)), (6, ii (k : Int))]) (S' := [ii (k : Int), ii (b : Int), .ref (102 + 1)]) dm_X12_picked_51 rfl rfl rfl rfl ?_
          refine y_iadd (a := (b : Int)) (b := (k : Int)) dm_X12_picked_53 (pc' := 54) rfl ?_
          refine me1 (pc' := 55) (L' := [(0, .ref 102), (1, ii (hd : Int)), (2, ii (n : Int)), (3, ii (vk v : Int)), (4, ii (vc v : Int)), (5, ii (q : Int)), (6, ii (k : Int))]) (S' := [.ref 102, ii ((b : Int) + (k : Int)), .ref (102 + 1)]) dm_X12_picked_54 rfl rfl rfl rfl ?_
          refine me1 (pc' := 56) (L' := [(0, .ref 102), (1, ii (hd : Int)), (2, ii (n : Int)), (3, ii (vk v : Int)), (4, ii (vc v : Int)), (5, ii (q : Int)), (6, ii (k : Int))]) (S' := [ii (hd : Int), .ref 102, ii ((b : Int) + (k : Int)), .ref (102 + 1)]) dm_X12_picked_55 rfl rfl rfl rfl ?_
          refine me1 (pc' := 57) (L' := [(0, .ref 102), (1, ii (hd : Int)), (2, ii (n : Int)), (3, ii (vk v : Int)), (4, ii (vc v : Int)), (5, ii (q : Int)), (6, ii (k : Int))]) (S' := [.ref 102, ii (hd : Int), .ref 102, ii ((b : Int) + (k : Int)), .ref (102 + 1)]) dm_X12_picked_56 rfl rfl rfl rfl ?_
          refine me3 (pc' := 60) (S' := [.ref (102 + 5), ii (hd : Int), .ref 102, ii ((b : Int) + (k : Int)), .ref (102 + 1)]) dm_X12_picked_57 (q_getr hm rfl (fun m i l => rg_14 m i l)) rfl rfl rfl ?_
          refine me1 (pc' := 62) (L' := [(0, .ref 102), (1, ii (hd : Int)), (2, ii (n : Int)), (3, ii (vk v : Int)), (4, ii (vc v : Int)), (5, ii (q : Int)), (6, ii (k : Int))]) (S' := [ii (k : Int), .ref (102 + 5), ii (hd : Int), .ref 102, ii ((b : Int) + (k : Int)), .ref (102 + 1)]) dm_X12_picked_60 rfl rfl rfl rfl ?_
          refine me1 (pc' := 64) (L' := [(0, .ref 102), (1, ii (hd : Int)), (2, ii (n : Int)), (3, ii (vk v : Int)), (4, ii (vc v : Int)), (5, ii (q : Int)), (6, ii (k : Int))]) (S' := [ii (vc v : Int), ii (k : Int), .ref (102 + 5), ii (hd : Int), .ref 102, ii ((b : Int) + (k : Int)), .ref (102 + 1)]) dm_X12_picked_62 rfl rfl rfl rfl ?_
          refine y_idiv (a := (k : Int)) (b := (vc v : Int)) dm_X12_picked_64 (pc' := 65) rfl (by omega) (by omega) (by omega) (by omega) ?_
          refine pg_st (S' := [ii ((k / vc v : Nat) : Int), .ref (102 + 5), ii (hd : Int), .ref 102, ii ((b : Int) + (k : Int)), .ref (102 + 1)]) (congrArg (fun z => ii z :: [.ref (102 + 5), ii (hd : Int), .ref 102, ii ((b : Int) + (k : Int)), .ref (102 + 1)]) ((Int.natCast_ediv k (vc v)).symm)) ?_
          refine me3 (pc' := 66) (S' := [ii ((((fillS (tabS s q b (n : Int) (vc v : Int)) b k (fun k => vn v ((s.2.2.1 14 (k / vc v)).toNat * vc v + k % vc v))).2.2.1) 14) (k / vc v)), ii (hd : Int), .ref 102, ii ((b : Int) + (k : Int)), .ref (102 + 1)]) dm_X12_picked_65 (q_iald (v := (((fillS (tabS s q b (n : Int) (vc v : Int)) b k (fun k => vn v ((s.2.2.1 14 (k / vc v)).toNat * vc v + k % vc v))).2.2.1) 14) (k / vc v)) (k := 14) (n := 260) hm (fun m i l I J => rc_14 m i l I J) (by omega) (by omega) (by decide) rfl) rfl rfl rfl ?_
          refine pg_st (S' := [ii ((s.2.2.1 14 (k / vc v)).toNat : Int), ii (hd : Int), .ref 102, ii ((b : Int) + (k : Int)), .ref (102 + 1)]) (congrArg (fun z => ii z :: [ii (hd : Int), .ref 102, ii ((b : Int) + (k : Int)), .ref (102 + 1)]) ((Int.toNat_of_nonneg hOk.1).symm)) ?_
          refine me1 (pc' := 68) (L' := [(0, .ref 102), (1, ii (hd : Int)), (2, ii (n : Int)), (3, ii (vk v : Int)), (4, ii (vc v : Int)), (5, ii (q : Int)), (6, ii (k : Int))]) (S' := [ii (vc v : Int), ii ((s.2.2.1 14 (k / vc v)).toNat : Int), ii (hd : Int), .ref 102, ii ((b : Int) + (k : Int)), .ref (102 + 1)]) dm_X12_picked_66 rfl rfl rfl rfl ?_
          refine y_imul (a := ((s.2.2.1 14 (k / vc v)).toNat : Int)) (b := (vc v : Int)) dm_X12_picked_68 (pc' := 69) rfl ?_
          refine me1 (pc' := 71) (L' := [(0, .ref 102), (1, ii (hd : Int)), (2, ii (n : Int)), (3, ii (vk v : Int)), (4, ii (vc v : Int)), (5, ii (q : Int)), (6, ii (k : Int))]) (S' := [ii (k : Int), ii (((s.2.2.1 14 (k / vc v)).toNat : Int) * (vc v : Int)), ii (hd : Int), .ref 102, ii ((b : Int) + (k : Int)), .ref (102 + 1)]) dm_X12_picked_69 rfl rfl rfl rfl ?_
          refine me1 (pc' := 73) (L' := [(0, .ref 102), (1, ii (hd : Int)), (2, ii (n : Int)), (3, ii (vk v : Int)), (4, ii (vc v : Int)), (5, ii (q : Int)), (6, ii (k : Int))]) (S' := [ii (vc v : Int), ii (k : Int), ii (((s.2.2.1 14 (k / vc v)).toNat : Int) * (vc v : Int)), ii (hd : Int), .ref 102, ii ((b : Int) + (k : Int)), .ref (102 + 1)]) dm_X12_picked_71 rfl rfl rfl rfl ?_
          refine y_irem (a := (k : Int)) (b := (vc v : Int)) dm_X12_picked_73 (pc' := 74) rfl (by omega) (by omega) (by omega) (by omega) ?_
          refine y_iadd (a := ((s.2.2.1 14 (k / vc v)).toNat : Int) * (vc v : Int)) (b := (k : Int) % (vc v : Int)) dm_X12_picked_74 (pc' := 75) rfl ?_
          refine pg_st (S' := [ii ((((s.2.2.1 14 (k / vc v)).toNat * vc v + k % vc v : Nat)) : Int), ii (hd : Int), .ref 102, ii ((b : Int) + (k : Int)), .ref (102 + 1)]) (congrArg (fun z => ii z :: [ii (hd : Int), .ref 102, ii ((b : Int) + (k : Int)), .ref (102 + 1)]) (by push_cast; rfl)) ?_
          refine x_cp (pc' := 78) (v := .long (vn v ((s.2.2.1 14 (k / vc v)).toNat * vc v + k % vc v))) (rest := [ii ((b : Int) + (k : Int)), .ref (102 + 1)]) dm_X12_picked_75 rfl (q_inv (As := [ii (hd : Int), ii ((((s.2.2.1 14 (k / vc v)).toNat * vc v + k % vc v : Nat)) : Int)]) (S := [ii ((b : Int) + (k : Int)), .ref (102 + 1)]) hm rfl rfl rfl) rfl rfl rfl (r_number_ (k := (s.2.2.1 14 (k / vc v)).toNat * vc v + k % vc v) hm (by omega) hBX hvX (by omega) hixb) ?_
          refine me3 (pc' := 79) (S' := []) (h1 := rI pre post ((fillS (tabS s q b (n : Int) (vc v : Int)) b k (fun k => vn v ((s.2.2.1 14 (k / vc v)).toNat * vc v + k % vc v))).1) ((fillS (tabS s q b (n : Int) (vc v : Int)) b k (fun k => vn v ((s.2.2.1 14 (k / vc v)).toNat * vc v + k % vc v))).2.1) ((fillS (tabS s q b (n : Int) (vc v : Int)) b k (fun k => vn v ((s.2.2.1 14 (k / vc v)).toNat * vc v + k % vc v))).2.2.1) (va_up ((fillS (tabS s q b (n : Int) (vc v : Int)) b k (fun k => vn v ((s.2.2.1 14 (k / vc v)).toNat * vc v + k % vc v))).2.2.2) 0 (va_up (((fillS (tabS s q b (n : Int) (vc v : Int)) b k (fun k => vn v ((s.2.2.1 14 (k / vc v)).toNat * vc v + k % vc v))).2.2.2) 0) (b + k) (vn v ((s.2.2.1 14 (k / vc v)).toNat * vc v + k % vc v))))) dm_X12_picked_78 (q_last (j := (b : Int) + (k : Int)) (k := 0) (n := 820000) hm (fun m i l I J => rc_0 m i l I J) (fun m i l I J f => rs_0 m i l I J f) (by omega) (by omega) (by decide)) rfl rfl rfl ?_
          refine y_iinc (pc' := 82) (L' := [(6, ii ((k : Int) + 1)), (0, .ref 102), (1, ii (hd : Int)), (2, ii (n : Int)), (3, ii (vk v : Int)), (4, ii (vc v : Int)), (5, ii (q : Int))]) dm_X12_picked_79 (y_incp (a := (k : Int)) (c := 1) rfl rfl (by decide)) rfl ?_
          refine me2 (pc' := 31) (S' := []) dm_X12_picked_82 rfl rfl rfl ?_
          refine pg_cast (h2 := rI pre post ((fillS (tabS s q b (n : Int) (vc v : Int)) b (k + 1) (fun k => vn v ((s.2.2.1 14 (k / vc v)).toNat * vc v + k % vc v))).1) ((fillS (tabS s q b (n : Int) (vc v : Int)) b (k + 1) (fun k => vn v ((s.2.2.1 14 (k / vc v)).toNat * vc v + k % vc v))).2.1) ((fillS (tabS s q b (n : Int) (vc v : Int)) b (k + 1) (fun k => vn v ((s.2.2.1 14 (k / vc v)).toNat * vc v + k % vc v))).2.2.1) ((fillS (tabS s q b (n : Int) (vc v : Int)) b (k + 1) (fun k => vn v ((s.2.2.1 14 (k / vc v)).toNat * vc v + k % vc v))).2.2.2)) (fill_s (tabS s q b (n : Int) (vc v : Int)) b k (fun k => vn v ((s.2.2.1 14 (k / vc v)).toNat * vc v + k % vc v))) ?_
          exact pg_sub (L := [(0, .ref 102), (1, ii (hd : Int)), (2, ii (n : Int)), (3, ii (vk v : Int)), (4, ii (vc v : Int)), (5, ii (q : Int)), (6, ii ((k + 1) : Int))]) rfl rfl rfl (ih31 (n * vc v - (k + 1)) (by omega) (k + 1) rfl (by omega))
    refine pg_cast (h2 := rI pre post ((fillS (tabS s q b (n : Int) (vc v : Int)) b 0 (fun k => vn v ((s.2.2.1 14 (k / vc v)).toNat * vc v + k % vc v))).1) ((fillS (tabS s q b (n : Int) (vc v : Int)) b 0 (fun k => vn v ((s.2.2.1 14 (k / vc v)).toNat * vc v + k % vc v))).2.1) ((fillS (tabS s q b (n : Int) (vc v : Int)) b 0 (fun k => vn v ((s.2.2.1 14 (k / vc v)).toNat * vc v + k % vc v))).2.2.1) ((fillS (tabS s q b (n : Int) (vc v : Int)) b 0 (fun k => vn v ((s.2.2.1 14 (k / vc v)).toNat * vc v + k % vc v))).2.2.2)) (fill_0 (tabS s q b (n : Int) (vc v : Int)) b (fun k => vn v ((s.2.2.1 14 (k / vc v)).toNat * vc v + k % vc v))) ?_
    exact pg_sub (L := [(0, .ref 102), (1, ii (hd : Int)), (2, ii (n : Int)), (3, ii (vk v : Int)), (4, ii (vc v : Int)), (5, ii (q : Int)), (6, ii (0 : Int))]) rfl rfl rfl (lp31 _ 0 rfl (Nat.zero_le _))
theorem rres_up {pre post : mj_H} {s : RS} {e : Nat} {o : Nat ⊕ VV} {place : Int} {cb vb cb' vb' : Nat} {x : Value} {h' : mj_H} (h : rres pre post s e o place cb vb x h') (h1 : cb ≤ cb') (h2 : vb ≤ vb') : rres pre post s e o place cb' vb' x h' := by
  obtain ⟨s1, a1, a2, a3, a4, a5, a6⟩ := h
  have u1 := rcb_up (o := o) h1
  have u2 := rvb_up (o := o) h2
  exact ⟨s1, a1, a2, a3, by omega, by omega, a6⟩
/-- picked, of all sorts -/
theorem r_picked_ {xt : mj_X} {d e hd q b n : Nat} {pre post : mj_H} {s : RS} {v : VV} {place : Int} (hm : pre.length = 102) (hd1 : 5 ≤ d) (hB : rB s) (hv : rv s (e + 1) hd v) (hh3 : 3 ≤ hd) (hq : s.1 4 = (q : Int)) (hb : s.1 3 = (b : Int)) (hq3 : 3 ≤ q) (hV2 : q < 310000) (he0 : s.1 5 = 0) (hn5 : vk v ≤ 5 → n ≤ 120) (hn6 : vk v = 6 → 1 ≤ n ∧ n ≤ 12) (hn7 : vk v = 7 → n ≤ 24) (hC : b + 144 ≤ 820000) (hO : ∀ k, k < n → 0 ≤ s.2.2.1 14 k ∧ s.2.2.1 14 k < vm v) : pgV xt d 266 [.ref 102, ii (hd : Int), ii (n : Int)] (rS pre post s) (rres pre post s (e + 1) (.inr (vpick v (fun k => (s.2.2.1 14 k).toNat) n)) place (pcl v n) 1) := by
  have hk := hv.1.1
  by_cases h7 : vk v = 7
  · have := hn7 h7
    rw [pcl_n (by omega)]
    exact x_imp (r_picked7 (place := place) hm hd1 hB hv hh3 hq hb hq3 hV2 he0 h7 this (by omega) hO) (fun r h' ⟨x, hx, hr⟩ => ⟨x, hx, rres_up hr (by omega) (by omega)⟩)
  · by_cases h6 : vk v = 6
    · have := hn6 h6
      have hw6 := hv.1.2.2.2.1 h6
      rw [pcl_6 h6]
      exact x_imp (r_picked6 (place := place) hm hd1 hB hv hh3 hq hb hq3 hV2 he0 h6 this.1 this.2 hC hO) (fun r h' ⟨x, hx, hr⟩ => ⟨x, hx, rres_up hr (by omega) (by omega)⟩)
    · have := hn5 (by omega)
      rw [pcl_n h6]
      exact x_imp (r_pickedR (place := place) hm hd1 hB hv hh3 hq hb hq3 hV2 he0 (by omega) this (by omega) hO) (fun r h' ⟨x, hx, hr⟩ => ⟨x, hx, rres_up hr (by omega) (by omega)⟩)
