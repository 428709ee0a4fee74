/-! AMENDED: what is put where -/
def lnA (g : VV) (c : Nat) : Nat := if ¬ (2 ≤ vk g ∧ vk g ≤ 5) then 3 else if vk g = 3 then 5 else if vm g ≠ c then 4 else if allF c (vn g) = true then 0 else 6
theorem lnA_0 {g : VV} {c : Nat} (h : lnA g c = 0) : 2 ≤ vk g ∧ vk g ≤ 5 ∧ vk g ≠ 3 ∧ vm g = c ∧ ∀ k, k < c → fits (vn g k) := by
  unfold lnA at h
  by_cases a : ¬ (2 ≤ vk g ∧ vk g ≤ 5)
  · rw [if_pos a] at h; omega
  · rw [if_neg a] at h
    by_cases b : vk g = 3
    · rw [if_pos b] at h; omega
    · rw [if_neg b] at h
      by_cases c1 : vm g ≠ c
      · rw [if_pos c1] at h; omega
      · rw [if_neg c1] at h
        by_cases d : allF c (vn g) = true
        · exact ⟨by omega, by omega, b, by omega, allF_iff.mp d⟩
        · rw [if_neg d] at h; omega
/-- the array of what is put: U; pj: what it means -/
def putsOK (A : Nat → Prop) (h : mj_H) (e : Nat) (U : Nat → Option Nat) (n : Nat) (pj : Nat → Option VV) : Prop := ∀ j, j < n → (pj j = none ∧ U j = none) ∨ ∃ g q, pj j = some g ∧ U j = some q ∧ cv A h e q g
theorem puts_keep {A A' : Nat → Prop} {h h' : mj_H} {e n : Nat} {U : Nat → Option Nat} {pj : Nat → Option VV} (hk : ∀ a c, A a → h[a]? = some c → A' a ∧ h'[a]? = some c) (hp : putsOK A h e U n pj) : putsOK A' h' e U n pj := by
  intro j hj
  rcases hp j hj with z | ⟨g, q, h1, h2, h3⟩
  · exact Or.inl z
  · exact Or.inr ⟨g, q, h1, h2, cv_keep hk h3⟩
def tbn (v : VV) (pj : Nat → Option VV) (i : Nat) : Int64 := match pj (i / vc v) with
  | none => vn v i
  | some g => vn g (i % vc v)
theorem tbn_n {v : VV} {pj : Nat → Option VV} {i : Nat} (h : pj (i / vc v) = none) : tbn v pj i = vn v i := by unfold tbn; rw [h]
theorem tbn_s {v g : VV} {pj : Nat → Option VV} {i : Nat} (h : pj (i / vc v) = some g) : tbn v pj i = vn g (i % vc v) := by unfold tbn; rw [h]
def rwn (v : VV) (pj : Nat → Option VV) (j : Nat) : Int64 := match pj j with
  | none => vn v j
  | some g => vn g 0
theorem rwn_n {v : VV} {pj : Nat → Option VV} {i : Nat} (h : pj i = none) : rwn v pj i = vn v i := by unfold rwn; rw [h]
theorem rwn_s {v g : VV} {pj : Nat → Option VV} {i : Nat} (h : pj i = some g) : rwn v pj i = vn g 0 := by unfold rwn; rw [h]
def nsn (v : VV) (pj : Nat → Option VV) (j : Nat) : VV := match pj j with
  | none => vit v j
  | some g => g
theorem nsn_n {v : VV} {pj : Nat → Option VV} {i : Nat} (h : pj i = none) : nsn v pj i = vit v i := by unfold nsn; rw [h]
theorem nsn_s {v g : VV} {pj : Nat → Option VV} {i : Nat} (h : pj i = some g) : nsn v pj i = g := by unfold nsn; rw [h]
/-- a row with numbers put into it -/
def rwK (v : VV) (pj : Nat → Option VV) (bt : Bool) : Nat := if vk v = 3 then 3 else if bt = true then 2 else vform (vm v) (rwn v pj)
set_option maxRecDepth 20000 in
theorem pm_X9_lineAsked : mj_mmof pg_ms 171 = some ((⟨"ArrayCalculator$TwoAct", "lineAsked", "(LArrayCalculator$Value;I)I"⟩, prog_11_method_17_code, 3, (Option.some Jvm.ClassFile.FieldType.int)), 9, false, mj_dec prog_11_method_17_code) := rfl
theorem dm_X9_lineAsked_0 : mj_dec prog_11_method_17_code 0 = some (.aload_n 0, 1) := by decide +kernel
theorem dm_X9_lineAsked_1 : mj_dec prog_11_method_17_code 1 = some (.invokevirtual 133, 3) := by decide +kernel
theorem dm_X9_lineAsked_4 : mj_dec prog_11_method_17_code 4 = some (.ifCond .ne 5, 3) := by decide +kernel
theorem dm_X9_lineAsked_7 : mj_dec prog_11_method_17_code 7 = some (.iconst 3, 1) := by decide +kernel
theorem dm_X9_lineAsked_8 : mj_dec prog_11_method_17_code 8 = some (.ireturn, 1) := by decide +kernel
theorem dm_X9_lineAsked_9 : mj_dec prog_11_method_17_code 9 = some (.aload_n 0, 1) := by decide +kernel
theorem dm_X9_lineAsked_10 : mj_dec prog_11_method_17_code 10 = some (.getfield 102, 3) := by decide +kernel
theorem dm_X9_lineAsked_13 : mj_dec prog_11_method_17_code 13 = some (.iconst 3, 1) := by decide +kernel
theorem dm_X9_lineAsked_14 : mj_dec prog_11_method_17_code 14 = some (.if_icmp .ne 5, 3) := by decide +kernel
theorem dm_X9_lineAsked_17 : mj_dec prog_11_method_17_code 17 = some (.iconst 5, 1) := by decide +kernel
theorem dm_X9_lineAsked_18 : mj_dec prog_11_method_17_code 18 = some (.ireturn, 1) := by decide +kernel
theorem dm_X9_lineAsked_19 : mj_dec prog_11_method_17_code 19 = some (.aload_n 0, 1) := by decide +kernel
theorem dm_X9_lineAsked_20 : mj_dec prog_11_method_17_code 20 = some (.getfield 94, 3) := by decide +kernel
theorem dm_X9_lineAsked_23 : mj_dec prog_11_method_17_code 23 = some (.iload_n 1, 1) := by decide +kernel
theorem dm_X9_lineAsked_24 : mj_dec prog_11_method_17_code 24 = some (.if_icmp .eq 5, 3) := by decide +kernel
theorem dm_X9_lineAsked_27 : mj_dec prog_11_method_17_code 27 = some (.iconst 4, 1) := by decide +kernel
theorem dm_X9_lineAsked_28 : mj_dec prog_11_method_17_code 28 = some (.ireturn, 1) := by decide +kernel
theorem dm_X9_lineAsked_29 : mj_dec prog_11_method_17_code 29 = some (.iconst 0, 1) := by decide +kernel
theorem dm_X9_lineAsked_30 : mj_dec prog_11_method_17_code 30 = some (.istore_n 2, 1) := by decide +kernel
theorem dm_X9_lineAsked_31 : mj_dec prog_11_method_17_code 31 = some (.iload_n 2, 1) := by decide +kernel
theorem dm_X9_lineAsked_32 : mj_dec prog_11_method_17_code 32 = some (.iload_n 1, 1) := by decide +kernel
theorem dm_X9_lineAsked_33 : mj_dec prog_11_method_17_code 33 = some (.if_icmp .ge 23, 3) := by decide +kernel
theorem dm_X9_lineAsked_36 : mj_dec prog_11_method_17_code 36 = some (.aload_n 0, 1) := by decide +kernel
theorem dm_X9_lineAsked_37 : mj_dec prog_11_method_17_code 37 = some (.iload_n 2, 1) := by decide +kernel
theorem dm_X9_lineAsked_38 : mj_dec prog_11_method_17_code 38 = some (.invokevirtual 129, 3) := by decide +kernel
theorem dm_X9_lineAsked_41 : mj_dec prog_11_method_17_code 41 = some (.invokestatic 163, 3) := by decide +kernel
theorem dm_X9_lineAsked_44 : mj_dec prog_11_method_17_code 44 = some (.ifCond .ne 6, 3) := by decide +kernel
theorem dm_X9_lineAsked_47 : mj_dec prog_11_method_17_code 47 = some (.bipush 6, 2) := by decide +kernel
theorem dm_X9_lineAsked_49 : mj_dec prog_11_method_17_code 49 = some (.ireturn, 1) := by decide +kernel
theorem dm_X9_lineAsked_50 : mj_dec prog_11_method_17_code 50 = some (.iinc 2 1, 3) := by decide +kernel
theorem dm_X9_lineAsked_53 : mj_dec prog_11_method_17_code 53 = some (.goto (-22), 3) := by decide +kernel
theorem dm_X9_lineAsked_56 : mj_dec prog_11_method_17_code 56 = some (.iconst 0, 1) := by decide +kernel
theorem dm_X9_lineAsked_57 : mj_dec prog_11_method_17_code 57 = some (.ireturn, 1) := by decide +kernel
theorem t_lineAsked {xt : mj_X} {d e p : Nat} {A : Nat → Prop} {h : mj_H} {v : VV} {c : Nat} {f1 : Nat → Value} (hx1 : xt 1 = some (.long, 0, f1)) (hd : 3 ≤ d) (hv : cv A h (e + 1) p v) (hc : c ≤ 12) : pgP xt d 171 [.ref p, ii (c : Int)] h (ii (lnA v c : Int)) := by
  obtain ⟨row, fr, vals, hp, hp2, hpA, hvk, hvm, hvc, hvs, hvl⟩ := cv_val hv
  have hq5 : vk v ≤ 5 → vq v = vm v := vq_m
  refine x_enter pm_X9_lineAsked (L0 := [(0, .ref p), (1, ii ((c : Nat) : Int))]) rfl (Nat.le_of_ble_eq_true rfl) (by omega) ?_
  refine me1 (pc' := 1) (L' := [(0, .ref p), (1, ii ((c : Nat) : Int))]) (S' := [.ref p]) dm_X9_lineAsked_0 rfl rfl rfl rfl ?_
  refine x_cp (pc' := 4) (v := zz (decide (2 ≤ vk v ∧ vk v ≤ 5))) (rest := []) dm_X9_lineAsked_1 rfl (g_inv (As := []) (S := []) hp rfl rfl rfl (by omega)) rfl rfl rfl (c_isRow (by omega) hv) ?_
  refine y_zne (c := decide (2 ≤ vk v ∧ vk v ≤ 5)) (t := 9) (pc' := 7) dm_X9_lineAsked_4 rfl rfl (fun hb1 => ?_) (fun hb1 => ?_)
  · replace hb1 := dT hb1
    refine me1 (pc' := 10) (L' := [(0, .ref p), (1, ii ((c : Nat) : Int))]) (S' := [.ref p]) dm_X9_lineAsked_9 rfl rfl rfl rfl ?_
    refine me3 (pc' := 13) (S' := [ii (vk v : Int)]) dm_X9_lineAsked_10 (g_get (v := ii (vk v : Int)) hp rfl rfl (by omega)) rfl rfl rfl ?_
    refine me0 (pc' := 14) (S' := [ii 3, ii (vk v : Int)]) dm_X9_lineAsked_13 rfl rfl rfl rfl ?_
    refine y_2ne (a := (vk v : Int)) (b := 3) (t := 19) (pc' := 17) dm_X9_lineAsked_14 rfl rfl (by omega) (fun hb2 => ?_) (fun hb2 => ?_)
    · refine me1 (pc' := 20) (L' := [(0, .ref p), (1, ii ((c : Nat) : Int))]) (S' := [.ref p]) dm_X9_lineAsked_19 rfl rfl rfl rfl ?_
      refine me3 (pc' := 23) (S' := [ii (vm v : Int)]) dm_X9_lineAsked_20 (g_get (v := ii (vm v : Int)) hp rfl rfl (by omega)) rfl rfl rfl ?_
      refine me1 (pc' := 24) (L' := [(0, .ref p), (1, ii ((c : Nat) : Int))]) (S' := [ii ((c : Nat) : Int), ii (vm v : Int)]) dm_X9_lineAsked_23 rfl rfl rfl rfl ?_
      refine y_2eq (a := (vm v : Int)) (b := ((c : Nat) : Int)) (t := 29) (pc' := 27) dm_X9_lineAsked_24 rfl rfl (by omega) (fun hb3 => ?_) (fun hb3 => ?_)
      · refine me0 (pc' := 30) (S' := [ii 0]) dm_X9_lineAsked_29 rfl rfl rfl rfl ?_
        refine me1 (pc' := 31) (L' := [(2, ii 0), (0, .ref p), (1, ii ((c : Nat) : Int))]) (S' := []) dm_X9_lineAsked_30 rfl rfl rfl rfl ?_
        have lp31 : ∀ (n31 : Nat) (k : Nat), c - k = n31 → (k ≤ c) → (∀ j, j < k → fits (vn v j)) → pgE xt (d - 1) 9 3 false (Option.some Jvm.ClassFile.FieldType.int) (mj_dec prog_11_method_17_code) 31 [(0, .ref p), (1, ii ((c : Nat) : Int)), (2, ii ((k : Nat) : Int))] [] h (fun r h' => r = some (ii (lnA v c : Int)) ∧ h' = h) := by
          intro n31
          induction n31 using Nat.strongRecOn with
          | ind n31 ih31 =>
            intro k hm31 hk hall
            refine me1 (pc' := 32) (L' := [(0, .ref p), (1, ii ((c : Nat) : Int)), (2, ii ((k : Nat) : Int))]) (S' := [ii ((k : Nat) : Int)]) dm_X9_lineAsked_31 rfl rfl rfl rfl ?_
            refine me1 (pc' := 33) (L' := [(0, .ref p), (1, ii ((c : Nat) : Int)), (2, ii ((k : Nat) : Int))]) (S' := [ii ((c : Nat) : Int), ii ((k : Nat) : Int)]) dm_X9_lineAsked_32 rfl rfl rfl rfl ?_
            refine y_2ge (a := ((k : Nat) : Int)) (b := ((c : Nat) : Int)) (t := 56) (pc' := 36) dm_X9_lineAsked_33 rfl rfl (by omega) (fun hb4 => ?_) (fun hb4 => ?_)
            · refine me0 (pc' := 57) (S' := [ii 0]) dm_X9_lineAsked_56 rfl rfl rfl rfl ?_
              refine y_ret (r := some (ii 0)) dm_X9_lineAsked_57 rfl rfl rfl ?_
              refine ⟨congrArg some (n_ii ?_), rfl⟩
              unfold lnA
              rw [if_neg (by omega), if_neg (by omega), if_neg (by omega), if_pos (allF_iff.mpr (fun j hj => hall j (by omega)))]; rfl
            · refine me1 (pc' := 37) (L' := [(0, .ref p), (1, ii ((c : Nat) : Int)), (2, ii ((k : Nat) : Int))]) (S' := [.ref p]) dm_X9_lineAsked_36 rfl rfl rfl rfl ?_
              refine me1 (pc' := 38) (L' := [(0, .ref p), (1, ii ((c : Nat) : Int)), (2, ii ((k : Nat) : Int))]) (S' := [ii ((k : Nat) : Int), .ref p]) dm_X9_lineAsked_37 rfl rfl rfl rfl ?_
              refine x_cp (pc' := 41) (v := .long (vn v (k))) (rest := []) dm_X9_lineAsked_38 rfl (g_inv (As := [ii ((k : Nat) : Int)]) (S := []) hp rfl rfl rfl (by omega)) rfl rfl rfl ((show pgP xt (d - 1) _ _ _ (.long (vn v (k))) from vnum_q (v := v) (k := k) hv.1 (by omega) (by omega) ▸ c_numberAt (i := ((k : Nat) : Int)) hx1 (by omega) hv (by omega))) ?_
              refine x_cp (pc' := 44) (v := zz (fitsB (vn v (k)))) (rest := []) dm_X9_lineAsked_41 rfl (g_invs (As := [.long (vn v (k))]) (S := []) rfl rfl rfl) rfl rfl rfl (c_fitsInt (by omega)) ?_
              refine y_zne (c := fitsB (vn v (k))) (t := 50) (pc' := 47) dm_X9_lineAsked_44 rfl rfl (fun hb5 => ?_) (fun hb5 => ?_)
              · refine y_iinc (pc' := 53) (L' := [(2, ii (((k : Nat) : Int) + 1)), (0, .ref p), (1, ii ((c : Nat) : Int))]) dm_X9_lineAsked_50 (y_incp (a := ((k : Nat) : Int)) (c := 1) rfl rfl (by decide)) rfl ?_
                refine me2 (pc' := 31) (S' := []) dm_X9_lineAsked_53 rfl rfl rfl ?_
                exact pg_sub (L := [(0, .ref p), (1, ii ((c : Nat) : Int)), (2, ii (((k + 1) : Nat) : Int))]) rfl rfl rfl (ih31 (c - (k + 1)) (by omega) (k + 1) rfl (by omega) (fun j hj => by by_cases z : j = k; (rw [z]; exact fitsB_iff.mp (by assumption)); exact hall j (by omega)))
              · refine me0 (pc' := 49) (S' := [ii 6]) dm_X9_lineAsked_47 rfl rfl rfl rfl ?_
                refine y_ret (r := some (ii 6)) dm_X9_lineAsked_49 rfl rfl rfl ?_
                refine ⟨congrArg some (n_ii ?_), rfl⟩
                unfold lnA
                rw [if_neg (by omega), if_neg (by omega), if_neg (by omega), if_neg (fun z => by have y := fitsB_iff.mpr (allF_iff.mp z k (by omega)); rw [hb5] at y; cases y)]; rfl
        exact pg_sub (L := [(0, .ref p), (1, ii ((c : Nat) : Int)), (2, ii ((0 : Nat) : Int))]) rfl rfl rfl (lp31 _ 0 rfl (Nat.zero_le _) (fun j hj => absurd hj (Nat.not_lt_zero j)))
      · refine me0 (pc' := 28) (S' := [ii 4]) dm_X9_lineAsked_27 rfl rfl rfl rfl ?_
        refine y_ret (r := some (ii 4)) dm_X9_lineAsked_28 rfl rfl rfl ?_
        refine ⟨congrArg some (n_ii ?_), rfl⟩
        unfold lnA
        rw [if_neg (by omega), if_neg (by omega), if_pos (by omega)]; rfl
    · refine me0 (pc' := 18) (S' := [ii 5]) dm_X9_lineAsked_17 rfl rfl rfl rfl ?_
      refine y_ret (r := some (ii 5)) dm_X9_lineAsked_18 rfl rfl rfl ?_
      refine ⟨congrArg some (n_ii ?_), rfl⟩
      unfold lnA
      rw [if_neg (by omega), if_pos (by omega)]; rfl
  · replace hb1 := dF hb1
    refine me0 (pc' := 8) (S' := [ii 3]) dm_X9_lineAsked_7 rfl rfl rfl rfl ?_
    refine y_ret (r := some (ii 3)) dm_X9_lineAsked_8 rfl rfl rfl ?_
    refine ⟨congrArg some (n_ii ?_), rfl⟩
    unfold lnA
    rw [if_pos (by omega)]; rfl
set_option maxRecDepth 20000 in
theorem pm_X9_amendedTable : mj_mmof pg_ms 172 = some ((⟨"ArrayCalculator$TwoAct", "amendedTable", "(LArrayCalculator$Value;)LArrayCalculator$Value;"⟩, prog_11_method_18_code, 7, (Option.some (Jvm.ClassFile.FieldType.object "ArrayCalculator$Value"))), 9, false, mj_dec prog_11_method_18_code) := rfl
theorem dm_X9_amendedTable_0 : mj_dec prog_11_method_18_code 0 = some (.aload_n 1, 1) := by decide +kernel
theorem dm_X9_amendedTable_1 : mj_dec prog_11_method_18_code 1 = some (.invokevirtual 127, 3) := by decide +kernel
theorem dm_X9_amendedTable_4 : mj_dec prog_11_method_18_code 4 = some (.newarray .long, 2) := by decide +kernel
theorem dm_X9_amendedTable_6 : mj_dec prog_11_method_18_code 6 = some (.astore_n 2, 1) := by decide +kernel
theorem dm_X9_amendedTable_7 : mj_dec prog_11_method_18_code 7 = some (.iconst 0, 1) := by decide +kernel
theorem dm_X9_amendedTable_8 : mj_dec prog_11_method_18_code 8 = some (.istore_n 3, 1) := by decide +kernel
theorem dm_X9_amendedTable_9 : mj_dec prog_11_method_18_code 9 = some (.iload_n 3, 1) := by decide +kernel
theorem dm_X9_amendedTable_10 : mj_dec prog_11_method_18_code 10 = some (.aload_n 1, 1) := by decide +kernel
theorem dm_X9_amendedTable_11 : mj_dec prog_11_method_18_code 11 = some (.getfield 94, 3) := by decide +kernel
theorem dm_X9_amendedTable_14 : mj_dec prog_11_method_18_code 14 = some (.if_icmp .ge 71, 3) := by decide +kernel
theorem dm_X9_amendedTable_17 : mj_dec prog_11_method_18_code 17 = some (.aload_n 0, 1) := by decide +kernel
theorem dm_X9_amendedTable_18 : mj_dec prog_11_method_18_code 18 = some (.getfield 28, 3) := by decide +kernel
theorem dm_X9_amendedTable_21 : mj_dec prog_11_method_18_code 21 = some (.iload_n 3, 1) := by decide +kernel
theorem dm_X9_amendedTable_22 : mj_dec prog_11_method_18_code 22 = some (.aaload, 1) := by decide +kernel
theorem dm_X9_amendedTable_23 : mj_dec prog_11_method_18_code 23 = some (.astore 4, 2) := by decide +kernel
theorem dm_X9_amendedTable_25 : mj_dec prog_11_method_18_code 25 = some (.iconst 0, 1) := by decide +kernel
theorem dm_X9_amendedTable_26 : mj_dec prog_11_method_18_code 26 = some (.istore 5, 2) := by decide +kernel
theorem dm_X9_amendedTable_28 : mj_dec prog_11_method_18_code 28 = some (.iload 5, 2) := by decide +kernel
theorem dm_X9_amendedTable_30 : mj_dec prog_11_method_18_code 30 = some (.aload_n 1, 1) := by decide +kernel
theorem dm_X9_amendedTable_31 : mj_dec prog_11_method_18_code 31 = some (.getfield 113, 3) := by decide +kernel
theorem dm_X9_amendedTable_34 : mj_dec prog_11_method_18_code 34 = some (.if_icmp .ge 45, 3) := by decide +kernel
theorem dm_X9_amendedTable_37 : mj_dec prog_11_method_18_code 37 = some (.iload_n 3, 1) := by decide +kernel
theorem dm_X9_amendedTable_38 : mj_dec prog_11_method_18_code 38 = some (.aload_n 1, 1) := by decide +kernel
theorem dm_X9_amendedTable_39 : mj_dec prog_11_method_18_code 39 = some (.getfield 113, 3) := by decide +kernel
theorem dm_X9_amendedTable_42 : mj_dec prog_11_method_18_code 42 = some (.imul, 1) := by decide +kernel
theorem dm_X9_amendedTable_43 : mj_dec prog_11_method_18_code 43 = some (.iload 5, 2) := by decide +kernel
theorem dm_X9_amendedTable_45 : mj_dec prog_11_method_18_code 45 = some (.iadd, 1) := by decide +kernel
theorem dm_X9_amendedTable_46 : mj_dec prog_11_method_18_code 46 = some (.istore 6, 2) := by decide +kernel
theorem dm_X9_amendedTable_48 : mj_dec prog_11_method_18_code 48 = some (.aload_n 2, 1) := by decide +kernel
theorem dm_X9_amendedTable_49 : mj_dec prog_11_method_18_code 49 = some (.iload 6, 2) := by decide +kernel
theorem dm_X9_amendedTable_51 : mj_dec prog_11_method_18_code 51 = some (.aload 4, 2) := by decide +kernel
theorem dm_X9_amendedTable_53 : mj_dec prog_11_method_18_code 53 = some (.ifnonnull 12, 3) := by decide +kernel
theorem dm_X9_amendedTable_56 : mj_dec prog_11_method_18_code 56 = some (.aload_n 1, 1) := by decide +kernel
theorem dm_X9_amendedTable_57 : mj_dec prog_11_method_18_code 57 = some (.iload 6, 2) := by decide +kernel
theorem dm_X9_amendedTable_59 : mj_dec prog_11_method_18_code 59 = some (.invokevirtual 129, 3) := by decide +kernel
theorem dm_X9_amendedTable_62 : mj_dec prog_11_method_18_code 62 = some (.goto 10, 3) := by decide +kernel
theorem dm_X9_amendedTable_65 : mj_dec prog_11_method_18_code 65 = some (.aload 4, 2) := by decide +kernel
theorem dm_X9_amendedTable_67 : mj_dec prog_11_method_18_code 67 = some (.iload 5, 2) := by decide +kernel
theorem dm_X9_amendedTable_69 : mj_dec prog_11_method_18_code 69 = some (.invokevirtual 129, 3) := by decide +kernel
theorem dm_X9_amendedTable_72 : mj_dec prog_11_method_18_code 72 = some (.lastore, 1) := by decide +kernel
theorem dm_X9_amendedTable_73 : mj_dec prog_11_method_18_code 73 = some (.iinc 5 1, 3) := by decide +kernel
theorem dm_X9_amendedTable_76 : mj_dec prog_11_method_18_code 76 = some (.goto (-48), 3) := by decide +kernel
theorem dm_X9_amendedTable_79 : mj_dec prog_11_method_18_code 79 = some (.iinc 3 1, 3) := by decide +kernel
theorem dm_X9_amendedTable_82 : mj_dec prog_11_method_18_code 82 = some (.goto (-73), 3) := by decide +kernel
theorem dm_X9_amendedTable_85 : mj_dec prog_11_method_18_code 85 = some (.aload_n 2, 1) := by decide +kernel
theorem dm_X9_amendedTable_86 : mj_dec prog_11_method_18_code 86 = some (.aload_n 1, 1) := by decide +kernel
theorem dm_X9_amendedTable_87 : mj_dec prog_11_method_18_code 87 = some (.getfield 94, 3) := by decide +kernel
theorem dm_X9_amendedTable_90 : mj_dec prog_11_method_18_code 90 = some (.aload_n 1, 1) := by decide +kernel
theorem dm_X9_amendedTable_91 : mj_dec prog_11_method_18_code 91 = some (.getfield 113, 3) := by decide +kernel
theorem dm_X9_amendedTable_94 : mj_dec prog_11_method_18_code 94 = some (.invokestatic 116, 3) := by decide +kernel
theorem dm_X9_amendedTable_97 : mj_dec prog_11_method_18_code 97 = some (.areturn, 1) := by decide +kernel
theorem t_amendedTable {xt : mj_X} {d e p : Nat} {A : Nat → Prop} {h : mj_H} {v : VV} {U : Nat → Option Nat} {pj : Nat → Option VV} {ft0 : Int} {f1 : Nat → Value} (hx1 : xt 1 = some (.long, 0, f1)) (hd : 4 ≤ d) (hl : 127 ≤ h.length) (hA : okA A h) (h26 : h[26]? = some (cO 9 [.ref 27, .ref 29, .ref 30, .ref 31, ii ft0])) (h31 : h[31]? = some (cA 4 120 U)) (hv : cv A h (e + 1) p v) (hU : putsOK A h (e + 1) U (vm v) pj) (hk6 : vk v = 6) (hln : ∀ j g, j < vm v → pj j = some g → lnA g (vc v) = 0) : pgV xt d 172 [.ref 26, .ref p] h (vres A h (e + 1) (vtab (vm v) (vc v) (tbn v pj)) 2 (vq v + 9)) := by
  obtain ⟨row, fr, vals, hp, hp2, hpA, hvk, hvm, hvc, hvs, hvl⟩ := cv_val hv
  have hpb := hA p hpA
  have hvq9 := vq_le hv.1
  have hcv := vw1_c hv.1
  refine x_enter pm_X9_amendedTable (L0 := [(0, .ref 26), (1, .ref p)]) rfl (Nat.le_of_ble_eq_true rfl) (by omega) ?_
  refine me1 (pc' := 1) (L' := [(0, .ref 26), (1, .ref p)]) (S' := [.ref p]) dm_X9_amendedTable_0 rfl rfl rfl rfl ?_
  refine x_cp (pc' := 4) (v := ii (vq v : Int)) (rest := []) dm_X9_amendedTable_1 rfl (g_inv (As := []) (S := []) hp rfl rfl rfl (by omega)) rfl rfl rfl (c_numbers (by omega) hv) ?_
  refine me3 (pc' := 6) (S' := [.ref h.length]) (h1 := h ++ [cJ ((vq v : Int).toNat) (fun _ => 0)]) dm_X9_amendedTable_4 (yh_newJ (by omega) (by omega) (by omega) rfl) rfl rfl rfl ?_
  refine me1 (pc' := 7) (L' := [(2, .ref h.length), (0, .ref 26), (1, .ref p)]) (S' := []) dm_X9_amendedTable_6 rfl rfl rfl rfl ?_
  refine me0 (pc' := 8) (S' := [ii 0]) dm_X9_amendedTable_7 rfl rfl rfl rfl ?_
  refine me1 (pc' := 9) (L' := [(3, ii 0), (2, .ref h.length), (0, .ref 26), (1, .ref p)]) (S' := []) dm_X9_amendedTable_8 rfl rfl rfl rfl ?_
  have lp9 : ∀ (n9 : Nat) (r : Nat) (G : Nat → Int64), vm v - r = n9 → (r ≤ vm v) → (∀ j, j < r * vc v → G j = tbn v pj j) → pgE xt (d - 1) 9 7 false (Option.some (Jvm.ClassFile.FieldType.object "ArrayCalculator$Value")) (mj_dec prog_11_method_18_code) 9 [(0, .ref 26), (1, .ref p), (2, .ref h.length), (3, ii ((r : Nat) : Int))] [] (h ++ [cJ (vq v) G]) (fun r h' => ∃ x, r = some x ∧ vres A h (e + 1) (vtab (vm v) (vc v) (tbn v pj)) 2 (vq v + 9) x h') := by
    intro n9
    induction n9 using Nat.strongRecOn with
    | ind n9 ih9 =>
      intro r G hm9 hr hG
      refine me1 (pc' := 10) (L' := [(0, .ref 26), (1, .ref p), (2, .ref h.length), (3, ii ((r : Nat) : Int))]) (S' := [ii ((r : Nat) : Int)]) dm_X9_amendedTable_9 rfl rfl rfl rfl ?_
      refine me1 (pc' := 11) (L' := [(0, .ref 26), (1, .ref p), (2, .ref h.length), (3, ii ((r : Nat) : Int))]) (S' := [.ref p, ii ((r : Nat) : Int)]) dm_X9_amendedTable_10 rfl rfl rfl rfl ?_
      refine me3 (pc' := 14) (S' := [ii (vm v : Int), ii ((r : Nat) : Int)]) dm_X9_amendedTable_11 (g_get (v := ii (vm v : Int)) (hl_app hp) rfl rfl (by omega)) rfl rfl rfl ?_
      refine y_2ge (a := ((r : Nat) : Int)) (b := (vm v : Int)) (t := 85) (pc' := 17) dm_X9_amendedTable_14 rfl rfl (by omega) (fun hb1 => ?_) (fun hb1 => ?_)
      · refine me1 (pc' := 86) (L' := [(0, .ref 26), (1, .ref p), (2, .ref h.length), (3, ii ((r : Nat) : Int))]) (S' := [.ref h.length]) dm_X9_amendedTable_85 rfl rfl rfl rfl ?_
        refine me1 (pc' := 87) (L' := [(0, .ref 26), (1, .ref p), (2, .ref h.length), (3, ii ((r : Nat) : Int))]) (S' := [.ref p, .ref h.length]) dm_X9_amendedTable_86 rfl rfl rfl rfl ?_
        refine me3 (pc' := 90) (S' := [ii (vm v : Int), .ref h.length]) dm_X9_amendedTable_87 (g_get (v := ii (vm v : Int)) (hl_app hp) rfl rfl (by omega)) rfl rfl rfl ?_
        refine me1 (pc' := 91) (L' := [(0, .ref 26), (1, .ref p), (2, .ref h.length), (3, ii ((r : Nat) : Int))]) (S' := [.ref p, ii (vm v : Int), .ref h.length]) dm_X9_amendedTable_90 rfl rfl rfl rfl ?_
        refine me3 (pc' := 94) (S' := [ii (vc v : Int), ii (vm v : Int), .ref h.length]) dm_X9_amendedTable_91 (g_get (v := ii (vc v : Int)) (hl_app hp) rfl rfl (by omega)) rfl rfl rfl ?_
        refine x_cv (pc' := 97) (rest := []) dm_X9_amendedTable_94 rfl (g_invs (As := [.ref h.length, ii (vm v : Int), ii (vc v : Int)]) (S := []) rfl rfl rfl) rfl rfl rfl (c_table (q := h.length + 1) (by omega) (by simp; omega) (by simp) (by omega) (by omega)) ?_
        rintro _ _ ⟨rfl, rfl⟩
        refine y_ret (r := some (.ref (h.length + 1))) dm_X9_amendedTable_97 rfl rfl rfl ?_
        have hkn : r = vm v := by omega
        have hv6 := hv.1.2.2.2.1 hk6
        refine ⟨_, rfl, vres_flat (w := vtab (vm v) (vc v) (tbn v pj)) hl (vw1_tab (by omega) (by omega) (by omega) (by omega) (fun i hi => ?_)) (by show 2 ≤ 6; omega) (by show 6 ≤ 6; omega) (by rw [vq_tab, vq_tb hk6]) (fun j hj => hG j (by rw [hkn, ← vq_tb hk6]; omega)) (by omega) (by omega)⟩
        have hdv : i / vc v < vm v := (Nat.div_lt_iff_lt_mul (by omega)).mpr hi
        rcases hU (i / vc v) hdv with ⟨hpn, hun⟩ | ⟨g, q9, hps, hus, hqg⟩
        · rw [tbn_n hpn]; exact hv6.2.2.2.2 i hi
        · rw [tbn_s hps]; exact (lnA_0 (hln _ _ hdv hps)).2.2.2.2 _ (Nat.mod_lt _ (by omega))
      · refine me1 (pc' := 18) (L' := [(0, .ref 26), (1, .ref p), (2, .ref h.length), (3, ii ((r : Nat) : Int))]) (S' := [.ref 26]) dm_X9_amendedTable_17 rfl rfl rfl rfl ?_
        refine me3 (pc' := 21) (S' := [.ref 31]) dm_X9_amendedTable_18 (g_get (v := .ref 31) (hl_app h26) rfl rfl (by decide)) rfl rfl rfl ?_
        refine me1 (pc' := 22) (L' := [(0, .ref 26), (1, .ref p), (2, .ref h.length), (3, ii ((r : Nat) : Int))]) (S' := [ii ((r : Nat) : Int), .ref 31]) dm_X9_amendedTable_21 rfl rfl rfl rfl ?_
        rcases hU (r) (by omega) with ⟨hpn, hun⟩ | ⟨g, q9, hps, hus, hqg⟩
        · skip
          refine me3 (pc' := 23) (S' := [.null]) dm_X9_amendedTable_22 (yh_aald (w := none) rfl (hl_app h31) (by omega) (by omega) (by omega) (by decide) hun) rfl rfl rfl ?_
          refine me1 (pc' := 25) (L' := [(4, .null), (0, .ref 26), (1, .ref p), (2, .ref h.length), (3, ii ((r : Nat) : Int))]) (S' := []) dm_X9_amendedTable_23 rfl rfl rfl rfl ?_
          refine me0 (pc' := 26) (S' := [ii 0]) dm_X9_amendedTable_25 rfl rfl rfl rfl ?_
          refine me1 (pc' := 28) (L' := [(5, ii 0), (4, .null), (0, .ref 26), (1, .ref p), (2, .ref h.length), (3, ii ((r : Nat) : Int))]) (S' := []) dm_X9_amendedTable_26 rfl rfl rfl rfl ?_
          have lp28 : ∀ (n28 : Nat) (k : Nat) (K : Nat → Int64), vc v - k = n28 → (k ≤ vc v) → (∀ j, j < r * vc v + k → K j = tbn v pj j) → pgE xt (d - 1) 9 7 false (Option.some (Jvm.ClassFile.FieldType.object "ArrayCalculator$Value")) (mj_dec prog_11_method_18_code) 28 [(0, .ref 26), (1, .ref p), (2, .ref h.length), (3, ii ((r : Nat) : Int)), (4, .null), (5, ii ((k : Nat) : Int))] [] (h ++ [cJ (vq v) K]) (fun r h' => ∃ x, r = some x ∧ vres A h (e + 1) (vtab (vm v) (vc v) (tbn v pj)) 2 (vq v + 9) x h') := by
            intro n28
            induction n28 using Nat.strongRecOn with
            | ind n28 ih28 =>
              intro k K hm28 hk hK
              refine me1 (pc' := 30) (L' := [(0, .ref 26), (1, .ref p), (2, .ref h.length), (3, ii ((r : Nat) : Int)), (4, .null), (5, ii ((k : Nat) : Int))]) (S' := [ii ((k : Nat) : Int)]) dm_X9_amendedTable_28 rfl rfl rfl rfl ?_
              refine me1 (pc' := 31) (L' := [(0, .ref 26), (1, .ref p), (2, .ref h.length), (3, ii ((r : Nat) : Int)), (4, .null), (5, ii ((k : Nat) : Int))]) (S' := [.ref p, ii ((k : Nat) : Int)]) dm_X9_amendedTable_30 rfl rfl rfl rfl ?_
              refine me3 (pc' := 34) (S' := [ii (vc v : Int), ii ((k : Nat) : Int)]) dm_X9_amendedTable_31 (g_get (v := ii (vc v : Int)) (hl_app hp) rfl rfl (by omega)) rfl rfl rfl ?_
              refine y_2ge (a := ((k : Nat) : Int)) (b := (vc v : Int)) (t := 79) (pc' := 37) dm_X9_amendedTable_34 rfl rfl (by omega) (fun hb2 => ?_) (fun hb2 => ?_)
              · refine y_iinc (pc' := 82) (L' := [(3, ii (((r : Nat) : Int) + 1)), (0, .ref 26), (1, .ref p), (2, .ref h.length), (4, .null), (5, ii ((k : Nat) : Int))]) dm_X9_amendedTable_79 (y_incp (a := ((r : Nat) : Int)) (c := 1) rfl rfl (by decide)) rfl ?_
                refine me2 (pc' := 9) (S' := []) dm_X9_amendedTable_82 rfl rfl rfl ?_
                exact pg_sub (L := [(0, .ref 26), (1, .ref p), (2, .ref h.length), (3, ii (((r + 1) : Nat) : Int))]) rfl rfl rfl (ih9 (vm v - (r + 1)) (by omega) (r + 1) (K) rfl (by omega) (fun j hj => hK j (by have e9 : (r + 1) * vc v = r * vc v + vc v := (by rw [Nat.add_mul, Nat.one_mul]); omega)))
              · have hix : r * vc v + k < vq v := by rw [vq_tb hk6]; exact lin_lt (by omega) (by omega)
                refine me1 (pc' := 38) (L' := [(0, .ref 26), (1, .ref p), (2, .ref h.length), (3, ii ((r : Nat) : Int)), (4, .null), (5, ii ((k : Nat) : Int))]) (S' := [ii ((r : Nat) : Int)]) dm_X9_amendedTable_37 rfl rfl rfl rfl ?_
                refine me1 (pc' := 39) (L' := [(0, .ref 26), (1, .ref p), (2, .ref h.length), (3, ii ((r : Nat) : Int)), (4, .null), (5, ii ((k : Nat) : Int))]) (S' := [.ref p, ii ((r : Nat) : Int)]) dm_X9_amendedTable_38 rfl rfl rfl rfl ?_
                refine me3 (pc' := 42) (S' := [ii (vc v : Int), ii ((r : Nat) : Int)]) dm_X9_amendedTable_39 (g_get (v := ii (vc v : Int)) (hl_app hp) rfl rfl (by omega)) rfl rfl rfl ?_
                refine y_imul (a := ((r : Nat) : Int)) (b := (vc v : Int)) dm_X9_amendedTable_42 (pc' := 43) rfl ?_
                refine me1 (pc' := 45) (L' := [(0, .ref 26), (1, .ref p), (2, .ref h.length), (3, ii ((r : Nat) : Int)), (4, .null), (5, ii ((k : Nat) : Int))]) (S' := [ii ((k : Nat) : Int), ii (((r : Nat) : Int) * (vc v : Int))]) dm_X9_amendedTable_43 rfl rfl rfl rfl ?_
                refine y_iadd (a := ((r : Nat) : Int) * (vc v : Int)) (b := ((k : Nat) : Int)) dm_X9_amendedTable_45 (pc' := 46) rfl ?_
                refine pg_st0 (S' := [ii ((r * vc v + k : Nat) : Int)]) (congrArg (fun z => ii z :: []) (by push_cast; rfl)) ?_
                refine me1 (pc' := 48) (L' := [(6, ii ((r * vc v + k : Nat) : Int)), (0, .ref 26), (1, .ref p), (2, .ref h.length), (3, ii ((r : Nat) : Int)), (4, .null), (5, ii ((k : Nat) : Int))]) (S' := []) dm_X9_amendedTable_46 rfl rfl rfl rfl ?_
                refine me1 (pc' := 49) (L' := [(6, ii ((r * vc v + k : Nat) : Int)), (0, .ref 26), (1, .ref p), (2, .ref h.length), (3, ii ((r : Nat) : Int)), (4, .null), (5, ii ((k : Nat) : Int))]) (S' := [.ref h.length]) dm_X9_amendedTable_48 rfl rfl rfl rfl ?_
                refine me1 (pc' := 51) (L' := [(6, ii ((r * vc v + k : Nat) : Int)), (0, .ref 26), (1, .ref p), (2, .ref h.length), (3, ii ((r : Nat) : Int)), (4, .null), (5, ii ((k : Nat) : Int))]) (S' := [ii ((r * vc v + k : Nat) : Int), .ref h.length]) dm_X9_amendedTable_49 rfl rfl rfl rfl ?_
                refine me1 (pc' := 53) (L' := [(6, ii ((r * vc v + k : Nat) : Int)), (0, .ref 26), (1, .ref p), (2, .ref h.length), (3, ii ((r : Nat) : Int)), (4, .null), (5, ii ((k : Nat) : Int))]) (S' := [.null, ii ((r * vc v + k : Nat) : Int), .ref h.length]) dm_X9_amendedTable_51 rfl rfl rfl rfl ?_
                refine me2 (pc' := 56) (S' := [ii ((r * vc v + k : Nat) : Int), .ref h.length]) dm_X9_amendedTable_53 rfl rfl rfl ?_
                refine me1 (pc' := 57) (L' := [(6, ii ((r * vc v + k : Nat) : Int)), (0, .ref 26), (1, .ref p), (2, .ref h.length), (3, ii ((r : Nat) : Int)), (4, .null), (5, ii ((k : Nat) : Int))]) (S' := [.ref p, ii ((r * vc v + k : Nat) : Int), .ref h.length]) dm_X9_amendedTable_56 rfl rfl rfl rfl ?_
                refine me1 (pc' := 59) (L' := [(6, ii ((r * vc v + k : Nat) : Int)), (0, .ref 26), (1, .ref p), (2, .ref h.length), (3, ii ((r : Nat) : Int)), (4, .null), (5, ii ((k : Nat) : Int))]) (S' := [ii ((r * vc v + k : Nat) : Int), .ref p, ii ((r * vc v + k : Nat) : Int), .ref h.length]) dm_X9_amendedTable_57 rfl rfl rfl rfl ?_
                refine x_cp (pc' := 62) (v := .long (vn v (r * vc v + k))) (rest := [ii ((r * vc v + k : Nat) : Int), .ref h.length]) dm_X9_amendedTable_59 rfl (g_inv (As := [ii ((r * vc v + k : Nat) : Int)]) (S := [ii ((r * vc v + k : Nat) : Int), .ref h.length]) (hl_app hp) rfl rfl rfl (by omega)) rfl rfl rfl ((show pgP xt (d - 1) _ _ _ (.long (vn v (r * vc v + k))) from vnum_q (v := v) (k := r * vc v + k) hv.1 (by omega) (by omega) ▸ c_numberAt (i := ((r * vc v + k : Nat) : Int)) hx1 (by omega) (cv_app hv) (by omega))) ?_
                refine me2 (pc' := 72) (S' := [.long (vn v (r * vc v + k)), ii ((r * vc v + k : Nat) : Int), .ref h.length]) dm_X9_amendedTable_62 rfl rfl rfl ?_
                refine me3 (pc' := 73) (S' := []) (h1 := h ++ [cJ (vq v) (va_up K (r * vc v + k) (vn v (r * vc v + k)))]) dm_X9_amendedTable_72 (y_hs (yh_last (j := ((r * vc v + k : Nat) : Int)) hl_new (by omega) (by omega) (by omega) (by omega)) (by rw [show ((r * vc v + k : Nat) : Int).toNat = r * vc v + k from rfl]; exact (hl_setl))) rfl rfl rfl ?_
                refine y_iinc (pc' := 76) (L' := [(5, ii (((k : Nat) : Int) + 1)), (6, ii ((r * vc v + k : Nat) : Int)), (0, .ref 26), (1, .ref p), (2, .ref h.length), (3, ii ((r : Nat) : Int)), (4, .null)]) dm_X9_amendedTable_73 (y_incp (a := ((k : Nat) : Int)) (c := 1) rfl rfl (by decide)) rfl ?_
                refine me2 (pc' := 28) (S' := []) dm_X9_amendedTable_76 rfl rfl rfl ?_
                exact pg_sub (L := [(0, .ref 26), (1, .ref p), (2, .ref h.length), (3, ii ((r : Nat) : Int)), (4, .null), (5, ii (((k + 1) : Nat) : Int))]) rfl rfl rfl (ih28 (vc v - (k + 1)) (by omega) (k + 1) (va_up K (r * vc v + k) (vn v (r * vc v + k))) rfl (by omega) (fun j hj => by rw [up_at]; by_cases z : j = r * vc v + k; (rw [if_pos z, z]; exact (tbn_n (by rw [(dm_lin (r := r) (show k < vc v by omega)).1]; exact hpn)).symm); (rw [if_neg z]; exact hK j (by omega))))
          exact pg_sub (L := [(0, .ref 26), (1, .ref p), (2, .ref h.length), (3, ii ((r : Nat) : Int)), (4, .null), (5, ii ((0 : Nat) : Int))]) rfl rfl rfl (lp28 _ 0 G rfl (Nat.zero_le _) (fun j hj => hG j hj))
        · obtain ⟨row9, fr9, vals9, hq9, hq92, hq9A, hgk, hgm, hgc, hgs, hgl⟩ := cv_val hqg
          have hq9b := hA q9 hq9A
          have hl0 := lnA_0 (hln _ _ (show r < vm v by omega) hps)
          have hgq : vq g = vm g := vq_m (by omega)
          replace hl0 : 2 ≤ vk g ∧ vk g ≤ 5 ∧ vm g = vc v := ⟨hl0.1, hl0.2.1, hl0.2.2.2.1⟩
          refine me3 (pc' := 23) (S' := [.ref q9]) dm_X9_amendedTable_22 (yh_aald (w := some q9) rfl (hl_app h31) (by omega) (by omega) (by omega) (by decide) hus) rfl rfl rfl ?_
          refine me1 (pc' := 25) (L' := [(4, .ref q9), (0, .ref 26), (1, .ref p), (2, .ref h.length), (3, ii ((r : Nat) : Int))]) (S' := []) dm_X9_amendedTable_23 rfl rfl rfl rfl ?_
          refine me0 (pc' := 26) (S' := [ii 0]) dm_X9_amendedTable_25 rfl rfl rfl rfl ?_
          refine me1 (pc' := 28) (L' := [(5, ii 0), (4, .ref q9), (0, .ref 26), (1, .ref p), (2, .ref h.length), (3, ii ((r : Nat) : Int))]) (S' := []) dm_X9_amendedTable_26 rfl rfl rfl rfl ?_
          have lp28 : ∀ (n28 : Nat) (k : Nat) (K : Nat → Int64), vc v - k = n28 → (k ≤ vc v) → (∀ j, j < r * vc v + k → K j = tbn v pj j) → pgE xt (d - 1) 9 7 false (Option.some (Jvm.ClassFile.FieldType.object "ArrayCalculator$Value")) (mj_dec prog_11_method_18_code) 28 [(0, .ref 26), (1, .ref p), (2, .ref h.length), (3, ii ((r : Nat) : Int)), (4, .ref q9), (5, ii ((k : Nat) : Int))] [] (h ++ [cJ (vq v) K]) (fun r h' => ∃ x, r = some x ∧ vres A h (e + 1) (vtab (vm v) (vc v) (tbn v pj)) 2 (vq v + 9) x h') := by
            intro n28
            induction n28 using Nat.strongRecOn with
            | ind n28 ih28 =>
              intro k K hm28 hk hK
              refine me1 (pc' := 30) (L' := [(0, .ref 26), (1, .ref p), (2, .ref h.length), (3, ii ((r : Nat) : Int)), (4, .ref q9), (5, ii ((k : Nat) : Int))]) (S' := [ii ((k : Nat) : Int)]) dm_X9_amendedTable_28 rfl rfl rfl rfl ?_
              refine me1 (pc' := 31) (L' := [(0, .ref 26), (1, .ref p), (2, .ref h.length), (3, ii ((r : Nat) : Int)), (4, .ref q9), (5, ii ((k : Nat) : Int))]) (S' := [.ref p, ii ((k : Nat) : Int)]) dm_X9_amendedTable_30 rfl rfl rfl rfl ?_
              refine me3 (pc' := 34) (S' := [ii (vc v : Int), ii ((k : Nat) : Int)]) dm_X9_amendedTable_31 (g_get (v := ii (vc v : Int)) (hl_app hp) rfl rfl (by omega)) rfl rfl rfl ?_
              refine y_2ge (a := ((k : Nat) : Int)) (b := (vc v : Int)) (t := 79) (pc' := 37) dm_X9_amendedTable_34 rfl rfl (by omega) (fun hb3 => ?_) (fun hb3 => ?_)
              · refine y_iinc (pc' := 82) (L' := [(3, ii (((r : Nat) : Int) + 1)), (0, .ref 26), (1, .ref p), (2, .ref h.length), (4, .ref q9), (5, ii ((k : Nat) : Int))]) dm_X9_amendedTable_79 (y_incp (a := ((r : Nat) : Int)) (c := 1) rfl rfl (by decide)) rfl ?_
                refine me2 (pc' := 9) (S' := []) dm_X9_amendedTable_82 rfl rfl rfl ?_
                exact pg_sub (L := [(0, .ref 26), (1, .ref p), (2, .ref h.length), (3, ii (((r + 1) : Nat) : Int))]) rfl rfl rfl (ih9 (vm v - (r + 1)) (by omega) (r + 1) (K) rfl (by omega) (fun j hj => hK j (by have e9 : (r + 1) * vc v = r * vc v + vc v := (by rw [Nat.add_mul, Nat.one_mul]); omega)))
              · have hix : r * vc v + k < vq v := by rw [vq_tb hk6]; exact lin_lt (by omega) (by omega)
                refine me1 (pc' := 38) (L' := [(0, .ref 26), (1, .ref p), (2, .ref h.length), (3, ii ((r : Nat) : Int)), (4, .ref q9), (5, ii ((k : Nat) : Int))]) (S' := [ii ((r : Nat) : Int)]) dm_X9_amendedTable_37 rfl rfl rfl rfl ?_
                refine me1 (pc' := 39) (L' := [(0, .ref 26), (1, .ref p), (2, .ref h.length), (3, ii ((r : Nat) : Int)), (4, .ref q9), (5, ii ((k : Nat) : Int))]) (S' := [.ref p, ii ((r : Nat) : Int)]) dm_X9_amendedTable_38 rfl rfl rfl rfl ?_
                refine me3 (pc' := 42) (S' := [ii (vc v : Int), ii ((r : Nat) : Int)]) dm_X9_amendedTable_39 (g_get (v := ii (vc v : Int)) (hl_app hp) rfl rfl (by omega)) rfl rfl rfl ?_
                refine y_imul (a := ((r : Nat) : Int)) (b := (vc v : Int)) dm_X9_amendedTable_42 (pc' := 43) rfl ?_
                refine me1 (pc' := 45) (L' := [(0, .ref 26), (1, .ref p), (2, .ref h.length), (3, ii ((r : Nat) : Int)), (4, .ref q9), (5, ii ((k : Nat) : Int))]) (S' := [ii ((k : Nat) : Int), ii (((r : Nat) : Int) * (vc v : Int))]) dm_X9_amendedTable_43 rfl rfl rfl rfl ?_
                refine y_iadd (a := ((r : Nat) : Int) * (vc v : Int)) (b := ((k : Nat) : Int)) dm_X9_amendedTable_45 (pc' := 46) rfl ?_
                refine pg_st0 (S' := [ii ((r * vc v + k : Nat) : Int)]) (congrArg (fun z => ii z :: []) (by push_cast; rfl)) ?_
                refine me1 (pc' := 48) (L' := [(6, ii ((r * vc v + k : Nat) : Int)), (0, .ref 26), (1, .ref p), (2, .ref h.length), (3, ii ((r : Nat) : Int)), (4, .ref q9), (5, ii ((k : Nat) : Int))]) (S' := []) dm_X9_amendedTable_46 rfl rfl rfl rfl ?_
                refine me1 (pc' := 49) (L' := [(6, ii ((r * vc v + k : Nat) : Int)), (0, .ref 26), (1, .ref p), (2, .ref h.length), (3, ii ((r : Nat) : Int)), (4, .ref q9), (5, ii ((k : Nat) : Int))]) (S' := [.ref h.length]) dm_X9_amendedTable_48 rfl rfl rfl rfl ?_
                refine me1 (pc' := 51) (L' := [(6, ii ((r * vc v + k : Nat) : Int)), (0, .ref 26), (1, .ref p), (2, .ref h.length), (3, ii ((r : Nat) : Int)), (4, .ref q9), (5, ii ((k : Nat) : Int))]) (S' := [ii ((r * vc v + k : Nat) : Int), .ref h.length]) dm_X9_amendedTable_49 rfl rfl rfl rfl ?_
                refine me1 (pc' := 53) (L' := [(6, ii ((r * vc v + k : Nat) : Int)), (0, .ref 26), (1, .ref p), (2, .ref h.length), (3, ii ((r : Nat) : Int)), (4, .ref q9), (5, ii ((k : Nat) : Int))]) (S' := [.ref q9, ii ((r * vc v + k : Nat) : Int), .ref h.length]) dm_X9_amendedTable_51 rfl rfl rfl rfl ?_
                refine me2 (pc' := 65) (S' := [ii ((r * vc v + k : Nat) : Int), .ref h.length]) dm_X9_amendedTable_53 rfl rfl rfl ?_
                refine me1 (pc' := 67) (L' := [(6, ii ((r * vc v + k : Nat) : Int)), (0, .ref 26), (1, .ref p), (2, .ref h.length), (3, ii ((r : Nat) : Int)), (4, .ref q9), (5, ii ((k : Nat) : Int))]) (S' := [.ref q9, ii ((r * vc v + k : Nat) : Int), .ref h.length]) dm_X9_amendedTable_65 rfl rfl rfl rfl ?_
                refine me1 (pc' := 69) (L' := [(6, ii ((r * vc v + k : Nat) : Int)), (0, .ref 26), (1, .ref p), (2, .ref h.length), (3, ii ((r : Nat) : Int)), (4, .ref q9), (5, ii ((k : Nat) : Int))]) (S' := [ii ((k : Nat) : Int), .ref q9, ii ((r * vc v + k : Nat) : Int), .ref h.length]) dm_X9_amendedTable_67 rfl rfl rfl rfl ?_
                refine x_cp (pc' := 72) (v := .long (vn g (k))) (rest := [ii ((r * vc v + k : Nat) : Int), .ref h.length]) dm_X9_amendedTable_69 rfl (g_inv (As := [ii ((k : Nat) : Int)]) (S := [ii ((r * vc v + k : Nat) : Int), .ref h.length]) (hl_app hq9) rfl rfl rfl (by omega)) rfl rfl rfl ((show pgP xt (d - 1) _ _ _ (.long (vn g (k))) from vnum_q (v := g) (k := k) hqg.1 (by omega) (by omega) ▸ c_numberAt (i := ((k : Nat) : Int)) hx1 (by omega) (cv_app hqg) (by omega))) ?_
                refine me3 (pc' := 73) (S' := []) (h1 := h ++ [cJ (vq v) (va_up K (r * vc v + k) (vn g (k)))]) dm_X9_amendedTable_72 (y_hs (yh_last (j := ((r * vc v + k : Nat) : Int)) hl_new (by omega) (by omega) (by omega) (by omega)) (by rw [show ((r * vc v + k : Nat) : Int).toNat = r * vc v + k from rfl]; exact (hl_setl))) rfl rfl rfl ?_
                refine y_iinc (pc' := 76) (L' := [(5, ii (((k : Nat) : Int) + 1)), (6, ii ((r * vc v + k : Nat) : Int)), (0, .ref 26), (1, .ref p), (2, .ref h.length), (3, ii ((r : Nat) : Int)), (4, .ref q9)]) dm_X9_amendedTable_73 (y_incp (a := ((k : Nat) : Int)) (c := 1) rfl rfl (by decide)) rfl ?_
                refine me2 (pc' := 28) (S' := []) dm_X9_amendedTable_76 rfl rfl rfl ?_
                exact pg_sub (L := [(0, .ref 26), (1, .ref p), (2, .ref h.length), (3, ii ((r : Nat) : Int)), (4, .ref q9), (5, ii (((k + 1) : Nat) : Int))]) rfl rfl rfl (ih28 (vc v - (k + 1)) (by omega) (k + 1) (va_up K (r * vc v + k) (vn g (k))) rfl (by omega) (fun j hj => by rw [up_at]; by_cases z : j = r * vc v + k; (rw [if_pos z, z]; rw [tbn_s (g := g) (by rw [(dm_lin (r := r) (show k < vc v by omega)).1]; exact hps), (dm_lin (r := r) (show k < vc v by omega)).2]); (rw [if_neg z]; exact hK j (by omega))))
          exact pg_sub (L := [(0, .ref 26), (1, .ref p), (2, .ref h.length), (3, ii ((r : Nat) : Int)), (4, .ref q9), (5, ii ((0 : Nat) : Int))]) rfl rfl rfl (lp28 _ 0 G rfl (Nat.zero_le _) (fun j hj => hG j hj))
  exact pg_sub (L := [(0, .ref 26), (1, .ref p), (2, .ref h.length), (3, ii ((0 : Nat) : Int))]) rfl rfl rfl (lp9 _ 0 (fun _ => 0) rfl (Nat.zero_le _) (fun j hj => by rw [Nat.zero_mul] at hj; exact absurd hj (Nat.not_lt_zero j)))
set_option maxRecDepth 20000 in
theorem pm_X9_amendedRow : mj_mmof pg_ms 173 = some ((⟨"ArrayCalculator$TwoAct", "amendedRow", "(LArrayCalculator$Value;Z)LArrayCalculator$Value;"⟩, prog_11_method_19_code, 5, (Option.some (Jvm.ClassFile.FieldType.object "ArrayCalculator$Value"))), 9, false, mj_dec prog_11_method_19_code) := rfl
theorem dm_X9_amendedRow_0 : mj_dec prog_11_method_19_code 0 = some (.aload_n 1, 1) := by decide +kernel
theorem dm_X9_amendedRow_1 : mj_dec prog_11_method_19_code 1 = some (.getfield 94, 3) := by decide +kernel
theorem dm_X9_amendedRow_4 : mj_dec prog_11_method_19_code 4 = some (.newarray .long, 2) := by decide +kernel
theorem dm_X9_amendedRow_6 : mj_dec prog_11_method_19_code 6 = some (.astore_n 3, 1) := by decide +kernel
theorem dm_X9_amendedRow_7 : mj_dec prog_11_method_19_code 7 = some (.iconst 0, 1) := by decide +kernel
theorem dm_X9_amendedRow_8 : mj_dec prog_11_method_19_code 8 = some (.istore 4, 2) := by decide +kernel
theorem dm_X9_amendedRow_10 : mj_dec prog_11_method_19_code 10 = some (.iload 4, 2) := by decide +kernel
theorem dm_X9_amendedRow_12 : mj_dec prog_11_method_19_code 12 = some (.aload_n 3, 1) := by decide +kernel
theorem dm_X9_amendedRow_13 : mj_dec prog_11_method_19_code 13 = some (.arraylength, 1) := by decide +kernel
theorem dm_X9_amendedRow_14 : mj_dec prog_11_method_19_code 14 = some (.if_icmp .ge 42, 3) := by decide +kernel
theorem dm_X9_amendedRow_17 : mj_dec prog_11_method_19_code 17 = some (.aload_n 3, 1) := by decide +kernel
theorem dm_X9_amendedRow_18 : mj_dec prog_11_method_19_code 18 = some (.iload 4, 2) := by decide +kernel
theorem dm_X9_amendedRow_20 : mj_dec prog_11_method_19_code 20 = some (.aload_n 0, 1) := by decide +kernel
theorem dm_X9_amendedRow_21 : mj_dec prog_11_method_19_code 21 = some (.getfield 28, 3) := by decide +kernel
theorem dm_X9_amendedRow_24 : mj_dec prog_11_method_19_code 24 = some (.iload 4, 2) := by decide +kernel
theorem dm_X9_amendedRow_26 : mj_dec prog_11_method_19_code 26 = some (.aaload, 1) := by decide +kernel
theorem dm_X9_amendedRow_27 : mj_dec prog_11_method_19_code 27 = some (.ifnonnull 12, 3) := by decide +kernel
theorem dm_X9_amendedRow_30 : mj_dec prog_11_method_19_code 30 = some (.aload_n 1, 1) := by decide +kernel
theorem dm_X9_amendedRow_31 : mj_dec prog_11_method_19_code 31 = some (.iload 4, 2) := by decide +kernel
theorem dm_X9_amendedRow_33 : mj_dec prog_11_method_19_code 33 = some (.invokevirtual 129, 3) := by decide +kernel
theorem dm_X9_amendedRow_36 : mj_dec prog_11_method_19_code 36 = some (.goto 13, 3) := by decide +kernel
theorem dm_X9_amendedRow_39 : mj_dec prog_11_method_19_code 39 = some (.aload_n 0, 1) := by decide +kernel
theorem dm_X9_amendedRow_40 : mj_dec prog_11_method_19_code 40 = some (.getfield 28, 3) := by decide +kernel
theorem dm_X9_amendedRow_43 : mj_dec prog_11_method_19_code 43 = some (.iload 4, 2) := by decide +kernel
theorem dm_X9_amendedRow_45 : mj_dec prog_11_method_19_code 45 = some (.aaload, 1) := by decide +kernel
theorem dm_X9_amendedRow_46 : mj_dec prog_11_method_19_code 46 = some (.getfield 143, 3) := by decide +kernel
theorem dm_X9_amendedRow_49 : mj_dec prog_11_method_19_code 49 = some (.lastore, 1) := by decide +kernel
theorem dm_X9_amendedRow_50 : mj_dec prog_11_method_19_code 50 = some (.iinc 4 1, 3) := by decide +kernel
theorem dm_X9_amendedRow_53 : mj_dec prog_11_method_19_code 53 = some (.goto (-43), 3) := by decide +kernel
theorem dm_X9_amendedRow_56 : mj_dec prog_11_method_19_code 56 = some (.aload_n 1, 1) := by decide +kernel
theorem dm_X9_amendedRow_57 : mj_dec prog_11_method_19_code 57 = some (.getfield 102, 3) := by decide +kernel
theorem dm_X9_amendedRow_60 : mj_dec prog_11_method_19_code 60 = some (.iconst 3, 1) := by decide +kernel
theorem dm_X9_amendedRow_61 : mj_dec prog_11_method_19_code 61 = some (.if_icmp .ne 9, 3) := by decide +kernel
theorem dm_X9_amendedRow_64 : mj_dec prog_11_method_19_code 64 = some (.iconst 3, 1) := by decide +kernel
theorem dm_X9_amendedRow_65 : mj_dec prog_11_method_19_code 65 = some (.aload_n 3, 1) := by decide +kernel
theorem dm_X9_amendedRow_66 : mj_dec prog_11_method_19_code 66 = some (.invokestatic 105, 3) := by decide +kernel
theorem dm_X9_amendedRow_69 : mj_dec prog_11_method_19_code 69 = some (.areturn, 1) := by decide +kernel
theorem dm_X9_amendedRow_70 : mj_dec prog_11_method_19_code 70 = some (.iload_n 2, 1) := by decide +kernel
theorem dm_X9_amendedRow_71 : mj_dec prog_11_method_19_code 71 = some (.ifCond .eq 11, 3) := by decide +kernel
theorem dm_X9_amendedRow_74 : mj_dec prog_11_method_19_code 74 = some (.iconst 2, 1) := by decide +kernel
theorem dm_X9_amendedRow_75 : mj_dec prog_11_method_19_code 75 = some (.aload_n 3, 1) := by decide +kernel
theorem dm_X9_amendedRow_76 : mj_dec prog_11_method_19_code 76 = some (.invokestatic 105, 3) := by decide +kernel
theorem dm_X9_amendedRow_79 : mj_dec prog_11_method_19_code 79 = some (.goto 7, 3) := by decide +kernel
theorem dm_X9_amendedRow_82 : mj_dec prog_11_method_19_code 82 = some (.aload_n 3, 1) := by decide +kernel
theorem dm_X9_amendedRow_83 : mj_dec prog_11_method_19_code 83 = some (.invokestatic 109, 3) := by decide +kernel
theorem dm_X9_amendedRow_86 : mj_dec prog_11_method_19_code 86 = some (.areturn, 1) := by decide +kernel
theorem t_amendedRow {xt : mj_X} {d e p : Nat} {A : Nat → Prop} {h : mj_H} {v : VV} {U : Nat → Option Nat} {pj : Nat → Option VV} {ft0 : Int} {bt : Bool} {f1 : Nat → Value} (hx1 : xt 1 = some (.long, 0, f1)) (hd : 4 ≤ d) (hl : 127 ≤ h.length) (hA : okA A h) (h26 : h[26]? = some (cO 9 [.ref 27, .ref 29, .ref 30, .ref 31, ii ft0])) (h31 : h[31]? = some (cA 4 120 U)) (hv : cv A h (e + 1) p v) (hU : putsOK A h (e + 1) U (vm v) pj) (hk2 : 2 ≤ vk v) (hk5 : vk v ≤ 5) (hso : ∀ j g, j < vm v → pj j = some g → vk g = if vk v = 3 then 1 else 0) (hbt : bt = true → vk v = 2 ∧ ∀ j g, j < vm v → pj j = some g → vn g 0 = 0 ∨ vn g 0 = 1) : pgV xt d 173 [.ref 26, .ref p, zz bt] h (vres A h (e + 1) (vrow (rwK v pj bt) (vm v) (rwn v pj)) 2 (vm v + 9)) := by
  obtain ⟨row, fr, vals, hp, hp2, hpA, hvk, hvm, hvc, hvs, hvl⟩ := cv_val hv
  have hpb := hA p hpA
  have hvq9 := vq_le hv.1
  have hcv := vw1_c hv.1
  have hq5 := vq_m (v := v) (by omega)
  refine x_enter pm_X9_amendedRow (L0 := [(0, .ref 26), (1, .ref p), (2, zz bt)]) rfl (Nat.le_of_ble_eq_true rfl) (by omega) ?_
  refine me1 (pc' := 1) (L' := [(0, .ref 26), (1, .ref p), (2, zz bt)]) (S' := [.ref p]) dm_X9_amendedRow_0 rfl rfl rfl rfl ?_
  refine me3 (pc' := 4) (S' := [ii (vm v : Int)]) dm_X9_amendedRow_1 (g_get (v := ii (vm v : Int)) hp rfl rfl (by omega)) rfl rfl rfl ?_
  refine me3 (pc' := 6) (S' := [.ref h.length]) (h1 := h ++ [cJ ((vm v : Int).toNat) (fun _ => 0)]) dm_X9_amendedRow_4 (yh_newJ (by omega) (by omega) (by omega) rfl) rfl rfl rfl ?_
  refine me1 (pc' := 7) (L' := [(3, .ref h.length), (0, .ref 26), (1, .ref p), (2, zz bt)]) (S' := []) dm_X9_amendedRow_6 rfl rfl rfl rfl ?_
  refine me0 (pc' := 8) (S' := [ii 0]) dm_X9_amendedRow_7 rfl rfl rfl rfl ?_
  refine me1 (pc' := 10) (L' := [(4, ii 0), (3, .ref h.length), (0, .ref 26), (1, .ref p), (2, zz bt)]) (S' := []) dm_X9_amendedRow_8 rfl rfl rfl rfl ?_
  have lp10 : ∀ (n10 : Nat) (k : Nat) (G : Nat → Int64), vm v - k = n10 → (k ≤ vm v) → (∀ j, j < k → G j = rwn v pj j) → pgE xt (d - 1) 9 5 false (Option.some (Jvm.ClassFile.FieldType.object "ArrayCalculator$Value")) (mj_dec prog_11_method_19_code) 10 [(0, .ref 26), (1, .ref p), (2, zz bt), (3, .ref h.length), (4, ii ((k : Nat) : Int))] [] (h ++ [cJ (vm v) G]) (fun r h' => ∃ x, r = some x ∧ vres A h (e + 1) (vrow (rwK v pj bt) (vm v) (rwn v pj)) 2 (vm v + 9) x h') := by
    intro n10
    induction n10 using Nat.strongRecOn with
    | ind n10 ih10 =>
      intro k G hm10 hk hG
      refine me1 (pc' := 12) (L' := [(0, .ref 26), (1, .ref p), (2, zz bt), (3, .ref h.length), (4, ii ((k : Nat) : Int))]) (S' := [ii ((k : Nat) : Int)]) dm_X9_amendedRow_10 rfl rfl rfl rfl ?_
      refine me1 (pc' := 13) (L' := [(0, .ref 26), (1, .ref p), (2, zz bt), (3, .ref h.length), (4, ii ((k : Nat) : Int))]) (S' := [.ref h.length, ii ((k : Nat) : Int)]) dm_X9_amendedRow_12 rfl rfl rfl rfl ?_
      refine me3 (pc' := 14) (S' := [ii (vm v), ii ((k : Nat) : Int)]) dm_X9_amendedRow_13 (yh_len (n := vm v) rfl hl_new (by omega)) rfl rfl rfl ?_
      refine y_2ge (a := ((k : Nat) : Int)) (b := vm v) (t := 56) (pc' := 17) dm_X9_amendedRow_14 rfl rfl (by omega) (fun hb1 => ?_) (fun hb1 => ?_)
      · refine me1 (pc' := 57) (L' := [(0, .ref 26), (1, .ref p), (2, zz bt), (3, .ref h.length), (4, ii ((k : Nat) : Int))]) (S' := [.ref p]) dm_X9_amendedRow_56 rfl rfl rfl rfl ?_
        refine me3 (pc' := 60) (S' := [ii (vk v : Int)]) dm_X9_amendedRow_57 (g_get (v := ii (vk v : Int)) (hl_app hp) rfl rfl (by omega)) rfl rfl rfl ?_
        refine me0 (pc' := 61) (S' := [ii 3, ii (vk v : Int)]) dm_X9_amendedRow_60 rfl rfl rfl rfl ?_
        refine y_2ne (a := (vk v : Int)) (b := 3) (t := 70) (pc' := 64) dm_X9_amendedRow_61 rfl rfl (by omega) (fun hb2 => ?_) (fun hb2 => ?_)
        · refine me1 (pc' := 71) (L' := [(0, .ref 26), (1, .ref p), (2, zz bt), (3, .ref h.length), (4, ii ((k : Nat) : Int))]) (S' := [zz bt]) dm_X9_amendedRow_70 rfl rfl rfl rfl ?_
          refine y_zeq (c := bt) (t := 82) (pc' := 74) dm_X9_amendedRow_71 rfl rfl (fun hb3 => ?_) (fun hb3 => ?_)
          · refine me1 (pc' := 83) (L' := [(0, .ref 26), (1, .ref p), (2, zz bt), (3, .ref h.length), (4, ii ((k : Nat) : Int))]) (S' := [.ref h.length]) dm_X9_amendedRow_82 rfl rfl rfl rfl ?_
            refine x_cv (pc' := 86) (rest := []) dm_X9_amendedRow_83 rfl (g_invs (As := [.ref h.length]) (S := []) rfl rfl rfl) rfl rfl rfl (c_numberRow (hx1 := hx1) (q := h.length + 1) (by omega) (by simp; omega) (by simp) (show rowAt (fun _ => True) _ _ _ _ from Or.inr ⟨by omega, hl_new, by omega, trivial⟩) (by omega)) ?_
            rintro _ _ ⟨rfl, rfl⟩
            refine y_ret (r := some (.ref (h.length + 1))) dm_X9_amendedRow_86 rfl rfl rfl ?_
            have hkn : k = vm v := by omega
            refine ⟨_, rfl, ?_⟩
            have hb9 : bt = false := by assumption
            have hvf := vform_le (m := vm v) (f := rwn v pj)
            rw [show rwK v pj bt = vform (vm v) (rwn v pj) by unfold rwK; rw [if_neg (by omega), if_neg (by rw [hb9]; decide)]]
            exact vres_rowL rfl hl (by omega) (by omega) (by omega) (by rw [vform_congr (g := rwn v pj) (fun j hj => hG j (by omega))]) (fun j hj => hG j (by omega)) (by omega) (by omega)
          · refine me0 (pc' := 75) (S' := [ii 2]) dm_X9_amendedRow_74 rfl rfl rfl rfl ?_
            refine me1 (pc' := 76) (L' := [(0, .ref 26), (1, .ref p), (2, zz bt), (3, .ref h.length), (4, ii ((k : Nat) : Int))]) (S' := [.ref h.length, ii 2]) dm_X9_amendedRow_75 rfl rfl rfl rfl ?_
            refine x_cv (pc' := 79) (rest := []) dm_X9_amendedRow_76 rfl (g_invs (As := [ii 2, .ref h.length]) (S := []) rfl rfl rfl) rfl rfl rfl (c_row (hx1 := hx1) (q := h.length + 1) (by omega) (by simp; omega) (by simp) (by omega) (show rowAt (fun _ => True) _ _ _ _ from Or.inr ⟨by omega, hl_new, by omega, trivial⟩) (by omega)) ?_
            rintro _ _ ⟨rfl, rfl⟩
            refine me2 (pc' := 86) (S' := [.ref (h.length + 1)]) dm_X9_amendedRow_79 rfl rfl rfl ?_
            refine y_ret (r := some (.ref (h.length + 1))) dm_X9_amendedRow_86 rfl rfl rfl ?_
            have hkn : k = vm v := by omega
            refine ⟨_, rfl, ?_⟩
            have hb9 : bt = true := by assumption
            rw [show rwK v pj bt = 2 by unfold rwK; rw [if_neg (by omega), if_pos hb9]]
            refine vres_bits hl (by omega) (fun j hj => ?_) (fun j hj => hG j (by omega)) (by omega) (by omega)
            rcases hU j hj with ⟨hpn, -⟩ | ⟨g, q9, hps, -⟩
            · rw [rwn_n hpn]; exact hv.1.2.2.2.2.2 (hbt hb9).1 j hj
            · rw [rwn_s hps]; exact (hbt hb9).2 _ _ hj hps
        · refine me0 (pc' := 65) (S' := [ii 3]) dm_X9_amendedRow_64 rfl rfl rfl rfl ?_
          refine me1 (pc' := 66) (L' := [(0, .ref 26), (1, .ref p), (2, zz bt), (3, .ref h.length), (4, ii ((k : Nat) : Int))]) (S' := [.ref h.length, ii 3]) dm_X9_amendedRow_65 rfl rfl rfl rfl ?_
          refine x_cv (pc' := 69) (rest := []) dm_X9_amendedRow_66 rfl (g_invs (As := [ii 3, .ref h.length]) (S := []) rfl rfl rfl) rfl rfl rfl (c_row (hx1 := hx1) (q := h.length + 1) (by omega) (by simp; omega) (by simp) (by omega) (show rowAt (fun _ => True) _ _ _ _ from Or.inr ⟨by omega, hl_new, by omega, trivial⟩) (by omega)) ?_
          rintro _ _ ⟨rfl, rfl⟩
          refine y_ret (r := some (.ref (h.length + 1))) dm_X9_amendedRow_69 rfl rfl rfl ?_
          have hkn : k = vm v := by omega
          refine ⟨_, rfl, ?_⟩
          rw [show rwK v pj bt = 3 by unfold rwK; rw [if_pos (by omega)]]
          exact vres_rowL (k := 3) rfl hl (by omega) (by omega) (by omega) rfl (fun j hj => hG j (by omega)) (by omega) (by omega)
      · refine me1 (pc' := 18) (L' := [(0, .ref 26), (1, .ref p), (2, zz bt), (3, .ref h.length), (4, ii ((k : Nat) : Int))]) (S' := [.ref h.length]) dm_X9_amendedRow_17 rfl rfl rfl rfl ?_
        refine me1 (pc' := 20) (L' := [(0, .ref 26), (1, .ref p), (2, zz bt), (3, .ref h.length), (4, ii ((k : Nat) : Int))]) (S' := [ii ((k : Nat) : Int), .ref h.length]) dm_X9_amendedRow_18 rfl rfl rfl rfl ?_
        refine me1 (pc' := 21) (L' := [(0, .ref 26), (1, .ref p), (2, zz bt), (3, .ref h.length), (4, ii ((k : Nat) : Int))]) (S' := [.ref 26, ii ((k : Nat) : Int), .ref h.length]) dm_X9_amendedRow_20 rfl rfl rfl rfl ?_
        refine me3 (pc' := 24) (S' := [.ref 31, ii ((k : Nat) : Int), .ref h.length]) dm_X9_amendedRow_21 (g_get (v := .ref 31) (hl_app h26) rfl rfl (by decide)) rfl rfl rfl ?_
        refine me1 (pc' := 26) (L' := [(0, .ref 26), (1, .ref p), (2, zz bt), (3, .ref h.length), (4, ii ((k : Nat) : Int))]) (S' := [ii ((k : Nat) : Int), .ref 31, ii ((k : Nat) : Int), .ref h.length]) dm_X9_amendedRow_24 rfl rfl rfl rfl ?_
        rcases hU (k) (by omega) with ⟨hpn, hun⟩ | ⟨g, q9, hps, hus, hqg⟩
        · skip
          refine me3 (pc' := 27) (S' := [.null, ii ((k : Nat) : Int), .ref h.length]) dm_X9_amendedRow_26 (yh_aald (w := none) rfl (hl_app h31) (by omega) (by omega) (by omega) (by decide) hun) rfl rfl rfl ?_
          refine me2 (pc' := 30) (S' := [ii ((k : Nat) : Int), .ref h.length]) dm_X9_amendedRow_27 rfl rfl rfl ?_
          refine me1 (pc' := 31) (L' := [(0, .ref 26), (1, .ref p), (2, zz bt), (3, .ref h.length), (4, ii ((k : Nat) : Int))]) (S' := [.ref p, ii ((k : Nat) : Int), .ref h.length]) dm_X9_amendedRow_30 rfl rfl rfl rfl ?_
          refine me1 (pc' := 33) (L' := [(0, .ref 26), (1, .ref p), (2, zz bt), (3, .ref h.length), (4, ii ((k : Nat) : Int))]) (S' := [ii ((k : Nat) : Int), .ref p, ii ((k : Nat) : Int), .ref h.length]) dm_X9_amendedRow_31 rfl rfl rfl rfl ?_
          refine x_cp (pc' := 36) (v := .long (vn v (k))) (rest := [ii ((k : Nat) : Int), .ref h.length]) dm_X9_amendedRow_33 rfl (g_inv (As := [ii ((k : Nat) : Int)]) (S := [ii ((k : Nat) : Int), .ref h.length]) (hl_app hp) rfl rfl rfl (by omega)) rfl rfl rfl ((show pgP xt (d - 1) _ _ _ (.long (vn v (k))) from vnum_q (v := v) (k := k) hv.1 (by omega) (by omega) ▸ c_numberAt (i := ((k : Nat) : Int)) hx1 (by omega) (cv_app hv) (by omega))) ?_
          refine me2 (pc' := 49) (S' := [.long (vn v (k)), ii ((k : Nat) : Int), .ref h.length]) dm_X9_amendedRow_36 rfl rfl rfl ?_
          refine me3 (pc' := 50) (S' := []) (h1 := h ++ [cJ (vm v) (va_up G k (vn v (k)))]) dm_X9_amendedRow_49 (y_hs (yh_last (j := ((k : Nat) : Int)) hl_new (by omega) (by omega) (by omega) (by omega)) (by rw [show ((k : Nat) : Int).toNat = k from rfl]; exact (hl_setl))) rfl rfl rfl ?_
          refine y_iinc (pc' := 53) (L' := [(4, ii (((k : Nat) : Int) + 1)), (0, .ref 26), (1, .ref p), (2, zz bt), (3, .ref h.length)]) dm_X9_amendedRow_50 (y_incp (a := ((k : Nat) : Int)) (c := 1) rfl rfl (by decide)) rfl ?_
          refine me2 (pc' := 10) (S' := []) dm_X9_amendedRow_53 rfl rfl rfl ?_
          exact pg_sub (L := [(0, .ref 26), (1, .ref p), (2, zz bt), (3, .ref h.length), (4, ii (((k + 1) : Nat) : Int))]) rfl rfl rfl (ih10 (vm v - (k + 1)) (by omega) (k + 1) (va_up G k (vn v (k))) rfl (by omega) (fun j hj => by rw [up_at]; by_cases z : j = k; (rw [if_pos z, z]; first | exact (rwn_n hpn).symm | (rw [rwn_s hps]; exact hcg)); (rw [if_neg z]; exact hG j (by omega))))
        · obtain ⟨row9, fr9, vals9, hq9, hq92, hq9A, hgk, hgm, hgc, hgs, hgl⟩ := cv_val hqg
          have hq9b := hA q9 hq9A
          have hcg : cnum g = vn g 0 := by have z := hso _ _ (show k < vm v by omega) hps; unfold cnum; rw [if_pos (by split at z <;> omega)]
          refine me3 (pc' := 27) (S' := [.ref q9, ii ((k : Nat) : Int), .ref h.length]) dm_X9_amendedRow_26 (yh_aald (w := some q9) rfl (hl_app h31) (by omega) (by omega) (by omega) (by decide) hus) rfl rfl rfl ?_
          refine me2 (pc' := 39) (S' := [ii ((k : Nat) : Int), .ref h.length]) dm_X9_amendedRow_27 rfl rfl rfl ?_
          refine me1 (pc' := 40) (L' := [(0, .ref 26), (1, .ref p), (2, zz bt), (3, .ref h.length), (4, ii ((k : Nat) : Int))]) (S' := [.ref 26, ii ((k : Nat) : Int), .ref h.length]) dm_X9_amendedRow_39 rfl rfl rfl rfl ?_
          refine me3 (pc' := 43) (S' := [.ref 31, ii ((k : Nat) : Int), .ref h.length]) dm_X9_amendedRow_40 (g_get (v := .ref 31) (hl_app h26) rfl rfl (by decide)) rfl rfl rfl ?_
          refine me1 (pc' := 45) (L' := [(0, .ref 26), (1, .ref p), (2, zz bt), (3, .ref h.length), (4, ii ((k : Nat) : Int))]) (S' := [ii ((k : Nat) : Int), .ref 31, ii ((k : Nat) : Int), .ref h.length]) dm_X9_amendedRow_43 rfl rfl rfl rfl ?_
          refine me3 (pc' := 46) (S' := [.ref q9, ii ((k : Nat) : Int), .ref h.length]) dm_X9_amendedRow_45 (yh_aald (w := some q9) rfl (hl_app h31) (by omega) (by omega) (by omega) (by decide) hus) rfl rfl rfl ?_
          refine me3 (pc' := 49) (S' := [.long (cnum g), ii ((k : Nat) : Int), .ref h.length]) dm_X9_amendedRow_46 (g_get (v := .long (cnum g)) (hl_app hq9) rfl rfl (by omega)) rfl rfl rfl ?_
          refine me3 (pc' := 50) (S' := []) (h1 := h ++ [cJ (vm v) (va_up G k (cnum g))]) dm_X9_amendedRow_49 (y_hs (yh_last (j := ((k : Nat) : Int)) hl_new (by omega) (by omega) (by omega) (by omega)) (by rw [show ((k : Nat) : Int).toNat = k from rfl]; exact (hl_setl))) rfl rfl rfl ?_
          refine y_iinc (pc' := 53) (L' := [(4, ii (((k : Nat) : Int) + 1)), (0, .ref 26), (1, .ref p), (2, zz bt), (3, .ref h.length)]) dm_X9_amendedRow_50 (y_incp (a := ((k : Nat) : Int)) (c := 1) rfl rfl (by decide)) rfl ?_
          refine me2 (pc' := 10) (S' := []) dm_X9_amendedRow_53 rfl rfl rfl ?_
          exact pg_sub (L := [(0, .ref 26), (1, .ref p), (2, zz bt), (3, .ref h.length), (4, ii (((k + 1) : Nat) : Int))]) rfl rfl rfl (ih10 (vm v - (k + 1)) (by omega) (k + 1) (va_up G k (cnum g)) rfl (by omega) (fun j hj => by rw [up_at]; by_cases z : j = k; (rw [if_pos z, z]; first | exact (rwn_n hpn).symm | (rw [rwn_s hps]; exact hcg)); (rw [if_neg z]; exact hG j (by omega))))
  exact pg_sub (L := [(0, .ref 26), (1, .ref p), (2, zz bt), (3, .ref h.length), (4, ii ((0 : Nat) : Int))]) rfl rfl rfl (lp10 _ 0 (fun _ => 0) rfl (Nat.zero_le _) (fun j hj => absurd hj (Nat.not_lt_zero j)))
set_option maxRecDepth 20000 in
theorem pm_X9_amendedNest : mj_mmof pg_ms 174 = some ((⟨"ArrayCalculator$TwoAct", "amendedNest", "(LArrayCalculator$Value;)LArrayCalculator$Value;"⟩, prog_11_method_20_code, 4, (Option.some (Jvm.ClassFile.FieldType.object "ArrayCalculator$Value"))), 9, false, mj_dec prog_11_method_20_code) := rfl
theorem dm_X9_amendedNest_0 : mj_dec prog_11_method_20_code 0 = some (.aload_n 1, 1) := by decide +kernel
theorem dm_X9_amendedNest_1 : mj_dec prog_11_method_20_code 1 = some (.getfield 94, 3) := by decide +kernel
theorem dm_X9_amendedNest_4 : mj_dec prog_11_method_20_code 4 = some (.bipush 24, 2) := by decide +kernel
theorem dm_X9_amendedNest_6 : mj_dec prog_11_method_20_code 6 = some (.if_icmp .le 9, 3) := by decide +kernel
theorem dm_X9_amendedNest_9 : mj_dec prog_11_method_20_code 9 = some (.bipush 8, 2) := by decide +kernel
theorem dm_X9_amendedNest_11 : mj_dec prog_11_method_20_code 11 = some (.invokestatic 81, 3) := by decide +kernel
theorem dm_X9_amendedNest_14 : mj_dec prog_11_method_20_code 14 = some (.areturn, 1) := by decide +kernel
theorem dm_X9_amendedNest_15 : mj_dec prog_11_method_20_code 15 = some (.aload_n 1, 1) := by decide +kernel
theorem dm_X9_amendedNest_16 : mj_dec prog_11_method_20_code 16 = some (.getfield 94, 3) := by decide +kernel
theorem dm_X9_amendedNest_19 : mj_dec prog_11_method_20_code 19 = some (.anewarray 26, 3) := by decide +kernel
theorem dm_X9_amendedNest_22 : mj_dec prog_11_method_20_code 22 = some (.astore_n 2, 1) := by decide +kernel
theorem dm_X9_amendedNest_23 : mj_dec prog_11_method_20_code 23 = some (.iconst 0, 1) := by decide +kernel
theorem dm_X9_amendedNest_24 : mj_dec prog_11_method_20_code 24 = some (.istore_n 3, 1) := by decide +kernel
theorem dm_X9_amendedNest_25 : mj_dec prog_11_method_20_code 25 = some (.iload_n 3, 1) := by decide +kernel
theorem dm_X9_amendedNest_26 : mj_dec prog_11_method_20_code 26 = some (.aload_n 2, 1) := by decide +kernel
theorem dm_X9_amendedNest_27 : mj_dec prog_11_method_20_code 27 = some (.arraylength, 1) := by decide +kernel
theorem dm_X9_amendedNest_28 : mj_dec prog_11_method_20_code 28 = some (.if_icmp .ge 35, 3) := by decide +kernel
theorem dm_X9_amendedNest_31 : mj_dec prog_11_method_20_code 31 = some (.aload_n 2, 1) := by decide +kernel
theorem dm_X9_amendedNest_32 : mj_dec prog_11_method_20_code 32 = some (.iload_n 3, 1) := by decide +kernel
theorem dm_X9_amendedNest_33 : mj_dec prog_11_method_20_code 33 = some (.aload_n 0, 1) := by decide +kernel
theorem dm_X9_amendedNest_34 : mj_dec prog_11_method_20_code 34 = some (.getfield 28, 3) := by decide +kernel
theorem dm_X9_amendedNest_37 : mj_dec prog_11_method_20_code 37 = some (.iload_n 3, 1) := by decide +kernel
theorem dm_X9_amendedNest_38 : mj_dec prog_11_method_20_code 38 = some (.aaload, 1) := by decide +kernel
theorem dm_X9_amendedNest_39 : mj_dec prog_11_method_20_code 39 = some (.ifnonnull 11, 3) := by decide +kernel
theorem dm_X9_amendedNest_42 : mj_dec prog_11_method_20_code 42 = some (.aload_n 1, 1) := by decide +kernel
theorem dm_X9_amendedNest_43 : mj_dec prog_11_method_20_code 43 = some (.iload_n 3, 1) := by decide +kernel
theorem dm_X9_amendedNest_44 : mj_dec prog_11_method_20_code 44 = some (.invokevirtual 120, 3) := by decide +kernel
theorem dm_X9_amendedNest_47 : mj_dec prog_11_method_20_code 47 = some (.goto 9, 3) := by decide +kernel
theorem dm_X9_amendedNest_50 : mj_dec prog_11_method_20_code 50 = some (.aload_n 0, 1) := by decide +kernel
theorem dm_X9_amendedNest_51 : mj_dec prog_11_method_20_code 51 = some (.getfield 28, 3) := by decide +kernel
theorem dm_X9_amendedNest_54 : mj_dec prog_11_method_20_code 54 = some (.iload_n 3, 1) := by decide +kernel
theorem dm_X9_amendedNest_55 : mj_dec prog_11_method_20_code 55 = some (.aaload, 1) := by decide +kernel
theorem dm_X9_amendedNest_56 : mj_dec prog_11_method_20_code 56 = some (.aastore, 1) := by decide +kernel
theorem dm_X9_amendedNest_57 : mj_dec prog_11_method_20_code 57 = some (.iinc 3 1, 3) := by decide +kernel
theorem dm_X9_amendedNest_60 : mj_dec prog_11_method_20_code 60 = some (.goto (-35), 3) := by decide +kernel
theorem dm_X9_amendedNest_63 : mj_dec prog_11_method_20_code 63 = some (.aload_n 2, 1) := by decide +kernel
theorem dm_X9_amendedNest_64 : mj_dec prog_11_method_20_code 64 = some (.invokestatic 123, 3) := by decide +kernel
theorem dm_X9_amendedNest_67 : mj_dec prog_11_method_20_code 67 = some (.areturn, 1) := by decide +kernel
theorem t_amendedNest {xt : mj_X} {d e p : Nat} {A : Nat → Prop} {h : mj_H} {v : VV} {U : Nat → Option Nat} {pj : Nat → Option VV} {ft0 : Int} {f1 : Nat → Value} (hx1 : xt 1 = some (.long, 0, f1)) (hd : 8 ≤ d) (hl : 127 ≤ h.length) (hA : okA A h) (h26 : h[26]? = some (cO 9 [.ref 27, .ref 29, .ref 30, .ref 31, ii ft0])) (h31 : h[31]? = some (cA 4 120 U)) (hv : cv A h (e + 1) p v) (hU : putsOK A h (e + 1) U (vm v) pj) (he : e ≤ 19) (hset : vsz (e + 1) v ≤ 1000) (hsz : ∀ j g, j < vm v → pj j = some g → vsz (e + 1) g ≤ 1000) : pgV xt d 174 [.ref 26, .ref p] h (ares A h (e + 2) (if 24 < vm v then .inl 8 else .inr (vnest (vm v) (nsn v pj))) (vm v + 2) (10 * vm v + 9)) := by
  obtain ⟨row, fr, vals, hp, hp2, hpA, hvk, hvm, hvc, hvs, hvl⟩ := cv_val hv
  have hpb := hA p hpA
  have hvq9 := vq_le hv.1
  have hcv := vw1_c hv.1
  refine x_enter pm_X9_amendedNest (L0 := [(0, .ref 26), (1, .ref p)]) rfl (Nat.le_of_ble_eq_true rfl) (by omega) ?_
  refine me1 (pc' := 1) (L' := [(0, .ref 26), (1, .ref p)]) (S' := [.ref p]) dm_X9_amendedNest_0 rfl rfl rfl rfl ?_
  refine me3 (pc' := 4) (S' := [ii (vm v : Int)]) dm_X9_amendedNest_1 (g_get (v := ii (vm v : Int)) hp rfl rfl (by omega)) rfl rfl rfl ?_
  refine me0 (pc' := 6) (S' := [ii 24, ii (vm v : Int)]) dm_X9_amendedNest_4 rfl rfl rfl rfl ?_
  refine y_2le (a := (vm v : Int)) (b := 24) (t := 15) (pc' := 9) dm_X9_amendedNest_6 rfl rfl (by omega) (fun hb1 => ?_) (fun hb1 => ?_)
  · refine me1 (pc' := 16) (L' := [(0, .ref 26), (1, .ref p)]) (S' := [.ref p]) dm_X9_amendedNest_15 rfl rfl rfl rfl ?_
    refine me3 (pc' := 19) (S' := [ii (vm v : Int)]) dm_X9_amendedNest_16 (g_get (v := ii (vm v : Int)) hp rfl rfl (by omega)) rfl rfl rfl ?_
    refine me3 (pc' := 22) (S' := [.ref h.length]) (h1 := h ++ [cA 4 ((vm v : Int).toNat) (fun _ => none)]) dm_X9_amendedNest_19 (yh_newA rfl (by omega) (by omega) (by omega) rfl) rfl rfl rfl ?_
    refine me1 (pc' := 23) (L' := [(2, .ref h.length), (0, .ref 26), (1, .ref p)]) (S' := []) dm_X9_amendedNest_22 rfl rfl rfl rfl ?_
    refine me0 (pc' := 24) (S' := [ii 0]) dm_X9_amendedNest_23 rfl rfl rfl rfl ?_
    refine me1 (pc' := 25) (L' := [(3, ii 0), (2, .ref h.length), (0, .ref 26), (1, .ref p)]) (S' := []) dm_X9_amendedNest_24 rfl rfl rfl rfl ?_
    have lp25 : ∀ (n25 : Nat) (t : Nat) (hh : mj_H) (V : Nat → Option Nat), vm v - t = n25 → (t ≤ vm v) → (vfl A h h.length hh (vm v) V t (e + 1) (nsn v pj) t (9 * t)) → pgE xt (d - 1) 9 4 false (Option.some (Jvm.ClassFile.FieldType.object "ArrayCalculator$Value")) (mj_dec prog_11_method_20_code) 25 [(0, .ref 26), (1, .ref p), (2, .ref h.length), (3, ii ((t : Nat) : Int))] [] hh (fun r h' => ∃ x, r = some x ∧ ares A h (e + 2) (if 24 < vm v then .inl 8 else .inr (vnest (vm v) (nsn v pj))) (vm v + 2) (10 * vm v + 9) x h') := by
      intro n25
      induction n25 using Nat.strongRecOn with
      | ind n25 ih25 =>
        intro t hh V hm25 ht hV
        have hlh := vfl_len hV
        refine me1 (pc' := 26) (L' := [(0, .ref 26), (1, .ref p), (2, .ref h.length), (3, ii ((t : Nat) : Int))]) (S' := [ii ((t : Nat) : Int)]) dm_X9_amendedNest_25 rfl rfl rfl rfl ?_
        refine me1 (pc' := 27) (L' := [(0, .ref 26), (1, .ref p), (2, .ref h.length), (3, ii ((t : Nat) : Int))]) (S' := [.ref h.length, ii ((t : Nat) : Int)]) dm_X9_amendedNest_26 rfl rfl rfl rfl ?_
        refine me3 (pc' := 28) (S' := [ii (vm v), ii ((t : Nat) : Int)]) dm_X9_amendedNest_27 (yh_len (n := vm v) rfl (vfl_arr hV) (by omega)) rfl rfl rfl ?_
        refine y_2ge (a := ((t : Nat) : Int)) (b := vm v) (t := 63) (pc' := 31) dm_X9_amendedNest_28 rfl rfl (by omega) (fun hb2 => ?_) (fun hb2 => ?_)
        · refine me1 (pc' := 64) (L' := [(0, .ref 26), (1, .ref p), (2, .ref h.length), (3, ii ((t : Nat) : Int))]) (S' := [.ref h.length]) dm_X9_amendedNest_63 rfl rfl rfl rfl ?_
          have hVn : vfl A h h.length hh (vm v) V (vm v) (e + 1) (nsn v pj) (vm v) (9 * vm v) := (show t = vm v by omega) ▸ hV
          have hA1 := hA
          have hS : sumN (vm v) (fun k => vsz (e + 1) ((nsn v pj) k)) ≤ 29999 := by have h9 := sumN_bd (n := vm v) (b := 1000) (f := fun k => vsz (e + 1) ((nsn v pj) k)) (fun k hk => by rcases hU k hk with ⟨z, -⟩ | ⟨g, q9, z, -⟩; (rw [nsn_n z]; exact vsz_vit (cv_wf hv) hset (Or.inr hk)); (rw [nsn_s z]; exact hsz _ _ hk z)); have := Nat.mul_le_mul_right 1000 (show vm v ≤ 24 by omega); omega
          refine x_cv (pc' := 67) (rest := []) dm_X9_amendedNest_64 rfl (g_invs (As := [.ref h.length]) (S := []) rfl rfl rfl) rfl rfl rfl (c_nest (A := newA A (h ++ [cA 4 (vm v) V]) hh) (e := e + 1) (n := (vm v)) (g := V) (ch := (nsn v pj)) (q := hh.length) (by omega) (by omega) rfl (fun z => by have z1 := vfl_okA hVn hA1 (by omega) _ z; omega) (vfl_arr hVn) (by omega) (by omega) (by omega) hS (vfl_kid hVn)) ?_
          rintro _ _ ⟨rfl, rfl⟩
          refine y_ret (r := some (.ref hh.length)) dm_X9_amendedNest_67 rfl rfl rfl ?_
          refine ⟨_, rfl, ?_⟩
          rw [if_neg (by omega)]
          exact vfl_end hVn hA hl (by omega) (by omega) hS (by omega) (by omega)
        · refine me1 (pc' := 32) (L' := [(0, .ref 26), (1, .ref p), (2, .ref h.length), (3, ii ((t : Nat) : Int))]) (S' := [.ref h.length]) dm_X9_amendedNest_31 rfl rfl rfl rfl ?_
          refine me1 (pc' := 33) (L' := [(0, .ref 26), (1, .ref p), (2, .ref h.length), (3, ii ((t : Nat) : Int))]) (S' := [ii ((t : Nat) : Int), .ref h.length]) dm_X9_amendedNest_32 rfl rfl rfl rfl ?_
          refine me1 (pc' := 34) (L' := [(0, .ref 26), (1, .ref p), (2, .ref h.length), (3, ii ((t : Nat) : Int))]) (S' := [.ref 26, ii ((t : Nat) : Int), .ref h.length]) dm_X9_amendedNest_33 rfl rfl rfl rfl ?_
          refine me3 (pc' := 37) (S' := [.ref 31, ii ((t : Nat) : Int), .ref h.length]) dm_X9_amendedNest_34 (g_get (v := .ref 31) (vfl_get hV h26) rfl rfl (by decide)) rfl rfl rfl ?_
          refine me1 (pc' := 38) (L' := [(0, .ref 26), (1, .ref p), (2, .ref h.length), (3, ii ((t : Nat) : Int))]) (S' := [ii ((t : Nat) : Int), .ref 31, ii ((t : Nat) : Int), .ref h.length]) dm_X9_amendedNest_37 rfl rfl rfl rfl ?_
          rcases hU (t) (by omega) with ⟨hpn, hun⟩ | ⟨g, q9, hps, hus, hqg⟩
          · skip
            refine me3 (pc' := 39) (S' := [.null, ii ((t : Nat) : Int), .ref h.length]) dm_X9_amendedNest_38 (yh_aald (w := none) rfl (vfl_get hV h31) (by omega) (by omega) (by omega) (by decide) hun) rfl rfl rfl ?_
            refine me2 (pc' := 42) (S' := [ii ((t : Nat) : Int), .ref h.length]) dm_X9_amendedNest_39 rfl rfl rfl ?_
            refine me1 (pc' := 43) (L' := [(0, .ref 26), (1, .ref p), (2, .ref h.length), (3, ii ((t : Nat) : Int))]) (S' := [.ref p, ii ((t : Nat) : Int), .ref h.length]) dm_X9_amendedNest_42 rfl rfl rfl rfl ?_
            refine me1 (pc' := 44) (L' := [(0, .ref 26), (1, .ref p), (2, .ref h.length), (3, ii ((t : Nat) : Int))]) (S' := [ii ((t : Nat) : Int), .ref p, ii ((t : Nat) : Int), .ref h.length]) dm_X9_amendedNest_43 rfl rfl rfl rfl ?_
            refine x_cv (pc' := 47) (rest := [ii ((t : Nat) : Int), .ref h.length]) dm_X9_amendedNest_44 rfl (g_inv (As := [ii ((t : Nat) : Int)]) (S := [ii ((t : Nat) : Int), .ref h.length]) (vfl_get hV hp) rfl rfl rfl (by omega)) rfl rfl rfl ((show pgV xt (d - 1) _ _ _ (vres (newA A (h ++ [cA 4 (vm v) V]) hh) hh (e + 1) ((nsn v pj) t) 1 9) from nsn_n hpn ▸ c_itemAt hx1 (by omega) (by omega) (vfl_cv hV hv) (Or.inr (by omega)) (by omega))) ?_
            rintro x h3 hres
            obtain ⟨q3, rfl⟩ := vres_ref hres
            obtain ⟨row3, fr3, vals3, hq3, hq32, -⟩ := cv_valE (vres_cv hres)
            refine me2 (pc' := 56) (S' := [.ref q3, ii ((t : Nat) : Int), .ref h.length]) dm_X9_amendedNest_47 rfl rfl rfl ?_
            refine me3 (pc' := 57) (S' := []) (h1 := (h3).set h.length (cA 4 (vm v) (va_up V t (some q3)))) dm_X9_amendedNest_56 (yh_aasr (j := ((t : Nat) : Int)) rfl (vres_get hres (vfl_arr hV)) hq3 (by omega) (by omega) (by omega) (by omega) (by omega)) rfl rfl rfl ?_
            refine y_iinc (pc' := 60) (L' := [(3, ii (((t : Nat) : Int) + 1)), (0, .ref 26), (1, .ref p), (2, .ref h.length)]) dm_X9_amendedNest_57 (y_incp (a := ((t : Nat) : Int)) (c := 1) rfl rfl (by decide)) rfl ?_
            refine me2 (pc' := 25) (S' := []) dm_X9_amendedNest_60 rfl rfl rfl ?_
            exact pg_sub (L := [(0, .ref 26), (1, .ref p), (2, .ref h.length), (3, ii (((t + 1) : Nat) : Int))]) rfl rfl rfl (ih25 (vm v - (t + 1)) (by omega) (t + 1) ((h3).set h.length (cA 4 (vm v) (va_up V t (some q3)))) (va_up V t (some q3)) rfl (by omega) (vfl_s hV hA hres))
          · obtain ⟨row9, fr9, vals9, hq9, hq92, hq9A, hgk, hgm, hgc, hgs, hgl⟩ := cv_val hqg
            have hq9b := hA q9 hq9A
            refine me3 (pc' := 39) (S' := [.ref q9, ii ((t : Nat) : Int), .ref h.length]) dm_X9_amendedNest_38 (yh_aald (w := some q9) rfl (vfl_get hV h31) (by omega) (by omega) (by omega) (by decide) hus) rfl rfl rfl ?_
            refine me2 (pc' := 50) (S' := [ii ((t : Nat) : Int), .ref h.length]) dm_X9_amendedNest_39 rfl rfl rfl ?_
            refine me1 (pc' := 51) (L' := [(0, .ref 26), (1, .ref p), (2, .ref h.length), (3, ii ((t : Nat) : Int))]) (S' := [.ref 26, ii ((t : Nat) : Int), .ref h.length]) dm_X9_amendedNest_50 rfl rfl rfl rfl ?_
            refine me3 (pc' := 54) (S' := [.ref 31, ii ((t : Nat) : Int), .ref h.length]) dm_X9_amendedNest_51 (g_get (v := .ref 31) (vfl_get hV h26) rfl rfl (by decide)) rfl rfl rfl ?_
            refine me1 (pc' := 55) (L' := [(0, .ref 26), (1, .ref p), (2, .ref h.length), (3, ii ((t : Nat) : Int))]) (S' := [ii ((t : Nat) : Int), .ref 31, ii ((t : Nat) : Int), .ref h.length]) dm_X9_amendedNest_54 rfl rfl rfl rfl ?_
            refine me3 (pc' := 56) (S' := [.ref q9, ii ((t : Nat) : Int), .ref h.length]) dm_X9_amendedNest_55 (yh_aald (w := some q9) rfl (vfl_get hV h31) (by omega) (by omega) (by omega) (by decide) hus) rfl rfl rfl ?_
            refine me3 (pc' := 57) (S' := []) (h1 := (hh).set h.length (cA 4 (vm v) (va_up V t (some q9)))) dm_X9_amendedNest_56 (yh_aasr (j := ((t : Nat) : Int)) rfl (vfl_arr hV) (vfl_get hV hq9) (by omega) (by omega) (by omega) (by omega) (by omega)) rfl rfl rfl ?_
            refine y_iinc (pc' := 60) (L' := [(3, ii (((t : Nat) : Int) + 1)), (0, .ref 26), (1, .ref p), (2, .ref h.length)]) dm_X9_amendedNest_57 (y_incp (a := ((t : Nat) : Int)) (c := 1) rfl rfl (by decide)) rfl ?_
            refine me2 (pc' := 25) (S' := []) dm_X9_amendedNest_60 rfl rfl rfl ?_
            exact pg_sub (L := [(0, .ref 26), (1, .ref p), (2, .ref h.length), (3, ii (((t + 1) : Nat) : Int))]) rfl rfl rfl (ih25 (vm v - (t + 1)) (by omega) (t + 1) ((hh).set h.length (cA 4 (vm v) (va_up V t (some q9)))) (va_up V t (some q9)) rfl (by omega) (vfl_s (a' := 1) (b' := 9) hV hA (show vres _ hh (e + 1) (nsn v pj t) 1 9 (.ref q9) hh from nsn_s hps ▸ vres_same (vfl_cv hV hqg))))
    exact pg_sub (L := [(0, .ref 26), (1, .ref p), (2, .ref h.length), (3, ii ((0 : Nat) : Int))]) rfl rfl rfl (lp25 _ 0 (h ++ [cA 4 ((vm v : Int).toNat) (fun _ => none)]) (fun _ => none) rfl (Nat.zero_le _) (vfl_0 rfl))
  · refine me0 (pc' := 11) (S' := [ii 8]) dm_X9_amendedNest_9 rfl rfl rfl rfl ?_
    refine x_cv (pc' := 14) (rest := []) dm_X9_amendedNest_11 rfl (g_invs (As := [ii 8]) (S := []) rfl rfl rfl) rfl rfl rfl (c_fault (q := h.length) (by omega) (by omega) rfl (by omega)) ?_
    rintro _ _ ⟨rfl, rfl⟩
    refine y_ret (r := some (.ref h.length)) dm_X9_amendedNest_14 rfl rfl rfl ?_
    refine ⟨_, rfl, ?_⟩
    rw [if_pos (by omega)]
    exact ares_f 8 (by omega) (by omega) (by omega)
