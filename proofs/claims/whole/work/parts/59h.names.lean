/-- the place of a key among n; n if it isn't there -/
abbrev fndK (f : Nat → Int64) (n : Nat) (key : Int64) : Nat := fstN (fun k => decide (f k = key)) n
set_option maxRecDepth 20000 in
theorem pm_X2_find : mj_mmof pg_ms 27 = some ((⟨"ArrayCalculator$Names", "find", "([JIJ)I"⟩, prog_4_method_12_code, 5, (Option.some Jvm.ClassFile.FieldType.int)), 2, false, mj_dec prog_4_method_12_code) := rfl
theorem dm_X2_find_0 : mj_dec prog_4_method_12_code 0 = some (.iconst 0, 1) := by decide +kernel
theorem dm_X2_find_1 : mj_dec prog_4_method_12_code 1 = some (.istore 4, 2) := by decide +kernel
theorem dm_X2_find_3 : mj_dec prog_4_method_12_code 3 = some (.iload 4, 2) := by decide +kernel
theorem dm_X2_find_5 : mj_dec prog_4_method_12_code 5 = some (.iload_n 1, 1) := by decide +kernel
theorem dm_X2_find_6 : mj_dec prog_4_method_12_code 6 = some (.if_icmp .ge 21, 3) := by decide +kernel
theorem dm_X2_find_9 : mj_dec prog_4_method_12_code 9 = some (.aload_n 0, 1) := by decide +kernel
theorem dm_X2_find_10 : mj_dec prog_4_method_12_code 10 = some (.iload 4, 2) := by decide +kernel
theorem dm_X2_find_12 : mj_dec prog_4_method_12_code 12 = some (.laload, 1) := by decide +kernel
theorem dm_X2_find_13 : mj_dec prog_4_method_12_code 13 = some (.lload_n 2, 1) := by decide +kernel
theorem dm_X2_find_14 : mj_dec prog_4_method_12_code 14 = some (.lcmp, 1) := by decide +kernel
theorem dm_X2_find_15 : mj_dec prog_4_method_12_code 15 = some (.ifCond .ne 6, 3) := by decide +kernel
theorem dm_X2_find_18 : mj_dec prog_4_method_12_code 18 = some (.iload 4, 2) := by decide +kernel
theorem dm_X2_find_20 : mj_dec prog_4_method_12_code 20 = some (.ireturn, 1) := by decide +kernel
theorem dm_X2_find_21 : mj_dec prog_4_method_12_code 21 = some (.iinc 4 1, 3) := by decide +kernel
theorem dm_X2_find_24 : mj_dec prog_4_method_12_code 24 = some (.goto (-21), 3) := by decide +kernel
theorem dm_X2_find_27 : mj_dec prog_4_method_12_code 27 = some (.iload_n 1, 1) := by decide +kernel
theorem dm_X2_find_28 : mj_dec prog_4_method_12_code 28 = some (.ireturn, 1) := by decide +kernel
theorem n_find {xt : mj_X} {d a n : Nat} {h : mj_H} {f : Nat → Int64} {key : Int64} (hd : 1 ≤ d) (ha : h[a]? = some (cJ 40 f)) (ha2 : 2 ≤ a) (hn : n ≤ 40) : pgP xt d 27 [.ref a, ii (n : Int), .long key] h (ii ((fndK f n key : Nat) : Int)) := by
  refine x_enter pm_X2_find (L0 := [(0, .ref a), (1, ii (n : Int)), (2, .long key)]) rfl (Nat.le_of_ble_eq_true rfl) (by omega) ?_
  refine me0 (pc' := 1) (S' := [ii 0]) dm_X2_find_0 rfl rfl rfl rfl ?_
  refine me1 (pc' := 3) (L' := [(4, ii 0), (0, .ref a), (1, ii (n : Int)), (2, .long key)]) (S' := []) dm_X2_find_1 rfl rfl rfl rfl ?_
  have lp3 : ∀ (n3 : Nat) (k : Nat), n - k = n3 → (k ≤ n) → (∀ j, j < k → decide (f j = key) = false) → pgE xt (d - 1) 2 5 false (Option.some Jvm.ClassFile.FieldType.int) (mj_dec prog_4_method_12_code) 3 [(0, .ref a), (1, ii (n : Int)), (2, .long key), (4, ii (k : Int))] [] h (fun r h' => r = some (ii ((fndK f n key : Nat) : Int)) ∧ h' = h) := by
    intro n3
    induction n3 using Nat.strongRecOn with
    | ind n3 ih3 =>
      intro k hm3 hk hno
      refine me1 (pc' := 5) (L' := [(0, .ref a), (1, ii (n : Int)), (2, .long key), (4, ii (k : Int))]) (S' := [ii (k : Int)]) dm_X2_find_3 rfl rfl rfl rfl ?_
      refine me1 (pc' := 6) (L' := [(0, .ref a), (1, ii (n : Int)), (2, .long key), (4, ii (k : Int))]) (S' := [ii (n : Int), ii (k : Int)]) dm_X2_find_5 rfl rfl rfl rfl ?_
      refine y_2ge (a := (k : Int)) (b := (n : Int)) (t := 27) (pc' := 9) dm_X2_find_6 rfl rfl (by omega) (fun hb1 => ?_) (fun hb1 => ?_)
      · refine me1 (pc' := 28) (L' := [(0, .ref a), (1, ii (n : Int)), (2, .long key), (4, ii (k : Int))]) (S' := [ii (n : Int)]) dm_X2_find_27 rfl rfl rfl rfl ?_
        refine y_ret (r := some (ii (n : Int))) dm_X2_find_28 rfl rfl rfl ?_
        exact ⟨congrArg some (n_ii (by rw [fndK, fstN_no (fun j hj => hno j (by omega))])), rfl⟩
      · refine me1 (pc' := 10) (L' := [(0, .ref a), (1, ii (n : Int)), (2, .long key), (4, ii (k : Int))]) (S' := [.ref a]) dm_X2_find_9 rfl rfl rfl rfl ?_
        refine me1 (pc' := 12) (L' := [(0, .ref a), (1, ii (n : Int)), (2, .long key), (4, ii (k : Int))]) (S' := [ii (k : Int), .ref a]) dm_X2_find_10 rfl rfl rfl rfl ?_
        refine me3 (pc' := 13) (S' := [.long (f k)]) dm_X2_find_12 (yh_lald (w := f k) ha (by omega) (by omega) (by omega) (by omega) rfl) rfl rfl rfl ?_
        refine me1 (pc' := 14) (L' := [(0, .ref a), (1, ii (n : Int)), (2, .long key), (4, ii (k : Int))]) (S' := [.long key, .long (f k)]) dm_X2_find_13 rfl rfl rfl rfl ?_
        refine y_lne (x := f k) (y := key) (t := 21) (pc1 := 15) (pc' := 18) dm_X2_find_14 rfl dm_X2_find_15 rfl rfl (fun hb2 => ?_) (fun hb2 => ?_)
        · refine y_iinc (pc' := 24) (L' := [(4, ii ((k : Int) + 1)), (0, .ref a), (1, ii (n : Int)), (2, .long key)]) dm_X2_find_21 (y_incp (a := (k : Int)) (c := 1) rfl rfl (by decide)) rfl ?_
          refine me2 (pc' := 3) (S' := []) dm_X2_find_24 rfl rfl rfl ?_
          exact pg_sub (L := [(0, .ref a), (1, ii (n : Int)), (2, .long key), (4, ii ((k + 1) : Int))]) rfl rfl rfl (ih3 (n - (k + 1)) (by omega) (k + 1) rfl (by omega) (fun j hj => by by_cases z : j = k; (subst z; exact decide_eq_false (by assumption)); exact hno j (by omega)))
        · refine me1 (pc' := 20) (L' := [(0, .ref a), (1, ii (n : Int)), (2, .long key), (4, ii (k : Int))]) (S' := [ii (k : Int)]) dm_X2_find_18 rfl rfl rfl rfl ?_
          refine y_ret (r := some (ii (k : Int))) dm_X2_find_20 rfl rfl rfl ?_
          exact ⟨congrArg some (n_ii (by rw [fndK, fstN_at (k := k) (by omega) hno (decide_eq_true (by assumption))])), rfl⟩
  exact pg_sub (L := [(0, .ref a), (1, ii (n : Int)), (2, .long key), (4, ii (0 : Int))]) rfl rfl rfl (lp3 _ 0 rfl (Nat.zero_le _) (fun j hj => absurd hj (Nat.not_lt_zero j)))
set_option maxRecDepth 20000 in
theorem pm_X2_howMany : mj_mmof pg_ms 192 = some ((⟨"ArrayCalculator$Names", "howMany", "(I)I"⟩, prog_4_method_2_code, 2, (Option.some Jvm.ClassFile.FieldType.int)), 2, false, mj_dec prog_4_method_2_code) := rfl
theorem dm_X2_howMany_0 : mj_dec prog_4_method_2_code 0 = some (.iload_n 1, 1) := by decide +kernel
theorem dm_X2_howMany_1 : mj_dec prog_4_method_2_code 1 = some (.ifCond .ne 8, 3) := by decide +kernel
theorem dm_X2_howMany_4 : mj_dec prog_4_method_2_code 4 = some (.aload_n 0, 1) := by decide +kernel
theorem dm_X2_howMany_5 : mj_dec prog_4_method_2_code 5 = some (.getfield 30, 3) := by decide +kernel
theorem dm_X2_howMany_8 : mj_dec prog_4_method_2_code 8 = some (.ireturn, 1) := by decide +kernel
theorem dm_X2_howMany_9 : mj_dec prog_4_method_2_code 9 = some (.iload_n 1, 1) := by decide +kernel
theorem dm_X2_howMany_10 : mj_dec prog_4_method_2_code 10 = some (.iconst 1, 1) := by decide +kernel
theorem dm_X2_howMany_11 : mj_dec prog_4_method_2_code 11 = some (.if_icmp .ne 10, 3) := by decide +kernel
theorem dm_X2_howMany_14 : mj_dec prog_4_method_2_code 14 = some (.aload_n 0, 1) := by decide +kernel
theorem dm_X2_howMany_15 : mj_dec prog_4_method_2_code 15 = some (.getfield 34, 3) := by decide +kernel
theorem dm_X2_howMany_18 : mj_dec prog_4_method_2_code 18 = some (.goto 4, 3) := by decide +kernel
theorem dm_X2_howMany_21 : mj_dec prog_4_method_2_code 21 = some (.iconst (-1), 1) := by decide +kernel
theorem dm_X2_howMany_22 : mj_dec prog_4_method_2_code 22 = some (.ireturn, 1) := by decide +kernel
theorem n_howMany {i : Int} (hi : -2147483648 ≤ i ∧ i ≤ 2147483647) {xt : mj_X} {d o a1 a2 a3 a4 n m : Nat} {h : mj_H} {kf jf : Nat → Int64} {vf of : Nat → Option Nat} (hd : 1 ≤ d) (ho : h[o]? = some (cO 2 [.ref a1, .ref a2, ii (n : Int), .ref a3, .ref a4, ii (m : Int)])) (h1 : h[a1]? = some (cJ 40 kf)) (h2 : h[a2]? = some (cA 4 40 vf)) (h3 : h[a3]? = some (cJ 40 jf)) (h4 : h[a4]? = some (cA 5 40 of)) (ho2 : 2 ≤ o ∧ 2 ≤ a1 ∧ 2 ≤ a2 ∧ 2 ≤ a3 ∧ 2 ≤ a4) (hn : n ≤ 40) (hm : m ≤ 40) : pgP xt d 192 [.ref o, ii i] h (ii (if i = 0 then (n : Int) else if i = 1 then (m : Int) else -1)) := by
  refine x_enter pm_X2_howMany (L0 := [(0, .ref o), (1, ii i)]) rfl (Nat.le_of_ble_eq_true rfl) (by omega) ?_
  refine me1 (pc' := 1) (L' := [(0, .ref o), (1, ii i)]) (S' := [ii i]) dm_X2_howMany_0 rfl rfl rfl rfl ?_
  refine y_1ne (a := i) (t := 9) (pc' := 4) dm_X2_howMany_1 rfl rfl (by omega) (fun hb1 => ?_) (fun hb1 => ?_)
  · refine me1 (pc' := 10) (L' := [(0, .ref o), (1, ii i)]) (S' := [ii i]) dm_X2_howMany_9 rfl rfl rfl rfl ?_
    refine me0 (pc' := 11) (S' := [ii 1, ii i]) dm_X2_howMany_10 rfl rfl rfl rfl ?_
    refine y_2ne (a := i) (b := 1) (t := 21) (pc' := 14) dm_X2_howMany_11 rfl rfl (by omega) (fun hb2 => ?_) (fun hb2 => ?_)
    · refine me0 (pc' := 22) (S' := [ii (-1)]) dm_X2_howMany_21 rfl rfl rfl rfl ?_
      refine y_ret (r := some (ii (-1))) dm_X2_howMany_22 rfl rfl rfl ?_
      exact ⟨congrArg some (n_ii (by first | rw [if_pos (by omega)] | rw [if_neg (by omega), if_pos (by omega)] | rw [if_neg (by omega), if_neg (by omega)])), rfl⟩
    · refine me1 (pc' := 15) (L' := [(0, .ref o), (1, ii i)]) (S' := [.ref o]) dm_X2_howMany_14 rfl rfl rfl rfl ?_
      refine me3 (pc' := 18) (S' := [ii (m : Int)]) dm_X2_howMany_15 (g_get (v := ii (m : Int)) ho rfl rfl (by omega)) rfl rfl rfl ?_
      refine me2 (pc' := 22) (S' := [ii (m : Int)]) dm_X2_howMany_18 rfl rfl rfl ?_
      refine y_ret (r := some (ii (m : Int))) dm_X2_howMany_22 rfl rfl rfl ?_
      exact ⟨congrArg some (n_ii (by first | rw [if_pos (by omega)] | rw [if_neg (by omega), if_pos (by omega)] | rw [if_neg (by omega), if_neg (by omega)])), rfl⟩
  · refine me1 (pc' := 5) (L' := [(0, .ref o), (1, ii i)]) (S' := [.ref o]) dm_X2_howMany_4 rfl rfl rfl rfl ?_
    refine me3 (pc' := 8) (S' := [ii (n : Int)]) dm_X2_howMany_5 (g_get (v := ii (n : Int)) ho rfl rfl (by omega)) rfl rfl rfl ?_
    refine y_ret (r := some (ii (n : Int))) dm_X2_howMany_8 rfl rfl rfl ?_
    exact ⟨congrArg some (n_ii (by first | rw [if_pos (by omega)] | rw [if_neg (by omega), if_pos (by omega)] | rw [if_neg (by omega), if_neg (by omega)])), rfl⟩
set_option maxRecDepth 20000 in
theorem pm_X2_full : mj_mmof pg_ms 62 = some ((⟨"ArrayCalculator$Names", "full", "()Z"⟩, prog_4_method_7_code, 1, (Option.some Jvm.ClassFile.FieldType.boolean)), 2, false, mj_dec prog_4_method_7_code) := rfl
theorem dm_X2_full_0 : mj_dec prog_4_method_7_code 0 = some (.aload_n 0, 1) := by decide +kernel
theorem dm_X2_full_1 : mj_dec prog_4_method_7_code 1 = some (.getfield 30, 3) := by decide +kernel
theorem dm_X2_full_4 : mj_dec prog_4_method_7_code 4 = some (.aload_n 0, 1) := by decide +kernel
theorem dm_X2_full_5 : mj_dec prog_4_method_7_code 5 = some (.getfield 34, 3) := by decide +kernel
theorem dm_X2_full_8 : mj_dec prog_4_method_7_code 8 = some (.iadd, 1) := by decide +kernel
theorem dm_X2_full_9 : mj_dec prog_4_method_7_code 9 = some (.bipush 40, 2) := by decide +kernel
theorem dm_X2_full_11 : mj_dec prog_4_method_7_code 11 = some (.if_icmp .lt 7, 3) := by decide +kernel
theorem dm_X2_full_14 : mj_dec prog_4_method_7_code 14 = some (.iconst 1, 1) := by decide +kernel
theorem dm_X2_full_15 : mj_dec prog_4_method_7_code 15 = some (.goto 4, 3) := by decide +kernel
theorem dm_X2_full_18 : mj_dec prog_4_method_7_code 18 = some (.iconst 0, 1) := by decide +kernel
theorem dm_X2_full_19 : mj_dec prog_4_method_7_code 19 = some (.ireturn, 1) := by decide +kernel
theorem n_full {xt : mj_X} {d o a1 a2 a3 a4 n m : Nat} {h : mj_H} {kf jf : Nat → Int64} {vf of : Nat → Option Nat} (hd : 1 ≤ d) (ho : h[o]? = some (cO 2 [.ref a1, .ref a2, ii (n : Int), .ref a3, .ref a4, ii (m : Int)])) (h1 : h[a1]? = some (cJ 40 kf)) (h2 : h[a2]? = some (cA 4 40 vf)) (h3 : h[a3]? = some (cJ 40 jf)) (h4 : h[a4]? = some (cA 5 40 of)) (ho2 : 2 ≤ o ∧ 2 ≤ a1 ∧ 2 ≤ a2 ∧ 2 ≤ a3 ∧ 2 ≤ a4) (hn : n ≤ 40) (hm : m ≤ 40) : pgP xt d 62 [.ref o] h (zz (decide (40 ≤ n + m))) := by
  refine x_enter pm_X2_full (L0 := [(0, .ref o)]) rfl (Nat.le_of_ble_eq_true rfl) (by omega) ?_
  refine me1 (pc' := 1) (L' := [(0, .ref o)]) (S' := [.ref o]) dm_X2_full_0 rfl rfl rfl rfl ?_
  refine me3 (pc' := 4) (S' := [ii (n : Int)]) dm_X2_full_1 (g_get (v := ii (n : Int)) ho rfl rfl (by omega)) rfl rfl rfl ?_
  refine me1 (pc' := 5) (L' := [(0, .ref o)]) (S' := [.ref o, ii (n : Int)]) dm_X2_full_4 rfl rfl rfl rfl ?_
  refine me3 (pc' := 8) (S' := [ii (m : Int), ii (n : Int)]) dm_X2_full_5 (g_get (v := ii (m : Int)) ho rfl rfl (by omega)) rfl rfl rfl ?_
  refine y_iadd (a := (n : Int)) (b := (m : Int)) dm_X2_full_8 (pc' := 9) rfl ?_
  refine me0 (pc' := 11) (S' := [ii 40, ii ((n : Int) + (m : Int))]) dm_X2_full_9 rfl rfl rfl rfl ?_
  refine y_2lt (a := (n : Int) + (m : Int)) (b := 40) (t := 18) (pc' := 14) dm_X2_full_11 rfl rfl (by omega) (fun hb1 => ?_) (fun hb1 => ?_)
  · refine me0 (pc' := 19) (S' := [ii 0]) dm_X2_full_18 rfl rfl rfl rfl ?_
    refine y_ret (r := some (ii 0)) dm_X2_full_19 rfl rfl rfl ?_
    exact ⟨congrArg some (zf (by omega)), rfl⟩
  · refine me0 (pc' := 15) (S' := [ii 1]) dm_X2_full_14 rfl rfl rfl rfl ?_
    refine me2 (pc' := 19) (S' := [ii 1]) dm_X2_full_15 rfl rfl rfl ?_
    refine y_ret (r := some (ii 1)) dm_X2_full_19 rfl rfl rfl ?_
    exact ⟨congrArg some (zt (by omega)), rfl⟩
set_option maxRecDepth 20000 in
theorem pm_X2_valueAt : mj_mmof pg_ms 66 = some ((⟨"ArrayCalculator$Names", "valueAt", "(I)LArrayCalculator$Value;"⟩, prog_4_method_4_code, 2, (Option.some (Jvm.ClassFile.FieldType.object "ArrayCalculator$Value"))), 2, false, mj_dec prog_4_method_4_code) := rfl
theorem dm_X2_valueAt_0 : mj_dec prog_4_method_4_code 0 = some (.iload_n 1, 1) := by decide +kernel
theorem dm_X2_valueAt_1 : mj_dec prog_4_method_4_code 1 = some (.ifCond .lt 20, 3) := by decide +kernel
theorem dm_X2_valueAt_4 : mj_dec prog_4_method_4_code 4 = some (.iload_n 1, 1) := by decide +kernel
theorem dm_X2_valueAt_5 : mj_dec prog_4_method_4_code 5 = some (.aload_n 0, 1) := by decide +kernel
theorem dm_X2_valueAt_6 : mj_dec prog_4_method_4_code 6 = some (.getfield 30, 3) := by decide +kernel
theorem dm_X2_valueAt_9 : mj_dec prog_4_method_4_code 9 = some (.if_icmp .ge 12, 3) := by decide +kernel
theorem dm_X2_valueAt_12 : mj_dec prog_4_method_4_code 12 = some (.aload_n 0, 1) := by decide +kernel
theorem dm_X2_valueAt_13 : mj_dec prog_4_method_4_code 13 = some (.getfield 17, 3) := by decide +kernel
theorem dm_X2_valueAt_16 : mj_dec prog_4_method_4_code 16 = some (.iload_n 1, 1) := by decide +kernel
theorem dm_X2_valueAt_17 : mj_dec prog_4_method_4_code 17 = some (.aaload, 1) := by decide +kernel
theorem dm_X2_valueAt_18 : mj_dec prog_4_method_4_code 18 = some (.goto 4, 3) := by decide +kernel
theorem dm_X2_valueAt_21 : mj_dec prog_4_method_4_code 21 = some (.aconst_null, 1) := by decide +kernel
theorem dm_X2_valueAt_22 : mj_dec prog_4_method_4_code 22 = some (.areturn, 1) := by decide +kernel
theorem n_valueAtY {i q : Nat} {xt : mj_X} {d o a1 a2 a3 a4 n m : Nat} {h : mj_H} {kf jf : Nat → Int64} {vf of : Nat → Option Nat} (hd : 1 ≤ d) (ho : h[o]? = some (cO 2 [.ref a1, .ref a2, ii (n : Int), .ref a3, .ref a4, ii (m : Int)])) (h1 : h[a1]? = some (cJ 40 kf)) (h2 : h[a2]? = some (cA 4 40 vf)) (h3 : h[a3]? = some (cJ 40 jf)) (h4 : h[a4]? = some (cA 5 40 of)) (ho2 : 2 ≤ o ∧ 2 ≤ a1 ∧ 2 ≤ a2 ∧ 2 ≤ a3 ∧ 2 ≤ a4) (hn : n ≤ 40) (hm : m ≤ 40) (hi : i < n) (hq : vf i = some q) : pgP xt d 66 [.ref o, ii (i : Int)] h (.ref q) := by
  refine x_enter pm_X2_valueAt (L0 := [(0, .ref o), (1, ii (i : Int))]) rfl (Nat.le_of_ble_eq_true rfl) (by omega) ?_
  refine me1 (pc' := 1) (L' := [(0, .ref o), (1, ii (i : Int))]) (S' := [ii (i : Int)]) dm_X2_valueAt_0 rfl rfl rfl rfl ?_
  refine y_1lt (a := (i : Int)) (t := 21) (pc' := 4) dm_X2_valueAt_1 rfl rfl (by omega) (fun hb1 => ?_) (fun hb1 => ?_)
  · refine me0 (pc' := 22) (S' := [.null]) dm_X2_valueAt_21 rfl rfl rfl rfl ?_
    refine y_ret (r := some (.null)) dm_X2_valueAt_22 rfl rfl rfl ?_
    exfalso; omega
  · refine me1 (pc' := 5) (L' := [(0, .ref o), (1, ii (i : Int))]) (S' := [ii (i : Int)]) dm_X2_valueAt_4 rfl rfl rfl rfl ?_
    refine me1 (pc' := 6) (L' := [(0, .ref o), (1, ii (i : Int))]) (S' := [.ref o, ii (i : Int)]) dm_X2_valueAt_5 rfl rfl rfl rfl ?_
    refine me3 (pc' := 9) (S' := [ii (n : Int), ii (i : Int)]) dm_X2_valueAt_6 (g_get (v := ii (n : Int)) ho rfl rfl (by omega)) rfl rfl rfl ?_
    refine y_2ge (a := (i : Int)) (b := (n : Int)) (t := 21) (pc' := 12) dm_X2_valueAt_9 rfl rfl (by omega) (fun hb2 => ?_) (fun hb2 => ?_)
    · refine me0 (pc' := 22) (S' := [.null]) dm_X2_valueAt_21 rfl rfl rfl rfl ?_
      refine y_ret (r := some (.null)) dm_X2_valueAt_22 rfl rfl rfl ?_
      exfalso; omega
    · refine me1 (pc' := 13) (L' := [(0, .ref o), (1, ii (i : Int))]) (S' := [.ref o]) dm_X2_valueAt_12 rfl rfl rfl rfl ?_
      refine me3 (pc' := 16) (S' := [.ref a2]) dm_X2_valueAt_13 (g_get (v := .ref a2) ho rfl rfl (by omega)) rfl rfl rfl ?_
      refine me1 (pc' := 17) (L' := [(0, .ref o), (1, ii (i : Int))]) (S' := [ii (i : Int), .ref a2]) dm_X2_valueAt_16 rfl rfl rfl rfl ?_
      refine me3 (pc' := 18) (S' := [.ref q]) dm_X2_valueAt_17 (yh_aald (w := some q) rfl h2 (by omega) (by omega) (by omega) (by omega) hq) rfl rfl rfl ?_
      refine me2 (pc' := 22) (S' := [.ref q]) dm_X2_valueAt_18 rfl rfl rfl ?_
      refine y_ret (r := some (.ref q)) dm_X2_valueAt_22 rfl rfl rfl ?_
      exact ⟨rfl, rfl⟩
theorem n_valueAtN {i : Int} (hir : -2147483648 ≤ i ∧ i ≤ 2147483647) {xt : mj_X} {d o a1 a2 a3 a4 n m : Nat} {h : mj_H} {kf jf : Nat → Int64} {vf of : Nat → Option Nat} (hd : 1 ≤ d) (ho : h[o]? = some (cO 2 [.ref a1, .ref a2, ii (n : Int), .ref a3, .ref a4, ii (m : Int)])) (h1 : h[a1]? = some (cJ 40 kf)) (h2 : h[a2]? = some (cA 4 40 vf)) (h3 : h[a3]? = some (cJ 40 jf)) (h4 : h[a4]? = some (cA 5 40 of)) (ho2 : 2 ≤ o ∧ 2 ≤ a1 ∧ 2 ≤ a2 ∧ 2 ≤ a3 ∧ 2 ≤ a4) (hn : n ≤ 40) (hm : m ≤ 40) (hi : i < 0 ∨ (n : Int) ≤ i) : pgP xt d 66 [.ref o, ii i] h (.null) := by
  refine x_enter pm_X2_valueAt (L0 := [(0, .ref o), (1, ii i)]) rfl (Nat.le_of_ble_eq_true rfl) (by omega) ?_
  refine me1 (pc' := 1) (L' := [(0, .ref o), (1, ii i)]) (S' := [ii i]) dm_X2_valueAt_0 rfl rfl rfl rfl ?_
  refine y_1lt (a := i) (t := 21) (pc' := 4) dm_X2_valueAt_1 rfl rfl (by omega) (fun hb1 => ?_) (fun hb1 => ?_)
  · refine me0 (pc' := 22) (S' := [.null]) dm_X2_valueAt_21 rfl rfl rfl rfl ?_
    refine y_ret (r := some (.null)) dm_X2_valueAt_22 rfl rfl rfl ?_
    exact ⟨rfl, rfl⟩
  · refine me1 (pc' := 5) (L' := [(0, .ref o), (1, ii i)]) (S' := [ii i]) dm_X2_valueAt_4 rfl rfl rfl rfl ?_
    refine me1 (pc' := 6) (L' := [(0, .ref o), (1, ii i)]) (S' := [.ref o, ii i]) dm_X2_valueAt_5 rfl rfl rfl rfl ?_
    refine me3 (pc' := 9) (S' := [ii (n : Int), ii i]) dm_X2_valueAt_6 (g_get (v := ii (n : Int)) ho rfl rfl (by omega)) rfl rfl rfl ?_
    refine y_2ge (a := i) (b := (n : Int)) (t := 21) (pc' := 12) dm_X2_valueAt_9 rfl rfl (by omega) (fun hb2 => ?_) (fun hb2 => ?_)
    · refine me0 (pc' := 22) (S' := [.null]) dm_X2_valueAt_21 rfl rfl rfl rfl ?_
      refine y_ret (r := some (.null)) dm_X2_valueAt_22 rfl rfl rfl ?_
      exact ⟨rfl, rfl⟩
    · exfalso; omega
set_option maxRecDepth 20000 in
theorem pm_X2_valueOf : mj_mmof pg_ms 65 = some ((⟨"ArrayCalculator$Names", "valueOf", "(J)LArrayCalculator$Value;"⟩, prog_4_method_5_code, 3, (Option.some (Jvm.ClassFile.FieldType.object "ArrayCalculator$Value"))), 2, false, mj_dec prog_4_method_5_code) := rfl
theorem dm_X2_valueOf_0 : mj_dec prog_4_method_5_code 0 = some (.aload_n 0, 1) := by decide +kernel
theorem dm_X2_valueOf_1 : mj_dec prog_4_method_5_code 1 = some (.aload_n 0, 1) := by decide +kernel
theorem dm_X2_valueOf_2 : mj_dec prog_4_method_5_code 2 = some (.getfield 9, 3) := by decide +kernel
theorem dm_X2_valueOf_5 : mj_dec prog_4_method_5_code 5 = some (.aload_n 0, 1) := by decide +kernel
theorem dm_X2_valueOf_6 : mj_dec prog_4_method_5_code 6 = some (.getfield 30, 3) := by decide +kernel
theorem dm_X2_valueOf_9 : mj_dec prog_4_method_5_code 9 = some (.lload_n 1, 1) := by decide +kernel
theorem dm_X2_valueOf_10 : mj_dec prog_4_method_5_code 10 = some (.invokestatic 41, 3) := by decide +kernel
theorem dm_X2_valueOf_13 : mj_dec prog_4_method_5_code 13 = some (.invokevirtual 45, 3) := by decide +kernel
theorem dm_X2_valueOf_16 : mj_dec prog_4_method_5_code 16 = some (.areturn, 1) := by decide +kernel
theorem n_valueOfY {q : Nat} {key : Int64} {xt : mj_X} {d o a1 a2 a3 a4 n m : Nat} {h : mj_H} {kf jf : Nat → Int64} {vf of : Nat → Option Nat} (hd : 2 ≤ d) (ho : h[o]? = some (cO 2 [.ref a1, .ref a2, ii (n : Int), .ref a3, .ref a4, ii (m : Int)])) (h1 : h[a1]? = some (cJ 40 kf)) (h2 : h[a2]? = some (cA 4 40 vf)) (h3 : h[a3]? = some (cJ 40 jf)) (h4 : h[a4]? = some (cA 5 40 of)) (ho2 : 2 ≤ o ∧ 2 ≤ a1 ∧ 2 ≤ a2 ∧ 2 ≤ a3 ∧ 2 ≤ a4) (hn : n ≤ 40) (hm : m ≤ 40) (hi : fndK kf n key < n) (hq : vf (fndK kf n key) = some q) : pgP xt d 65 [.ref o, .long key] h (.ref q) := by
  refine x_enter pm_X2_valueOf (L0 := [(0, .ref o), (1, .long key)]) rfl (Nat.le_of_ble_eq_true rfl) (by omega) ?_
  refine me1 (pc' := 1) (L' := [(0, .ref o), (1, .long key)]) (S' := [.ref o]) dm_X2_valueOf_0 rfl rfl rfl rfl ?_
  refine me1 (pc' := 2) (L' := [(0, .ref o), (1, .long key)]) (S' := [.ref o, .ref o]) dm_X2_valueOf_1 rfl rfl rfl rfl ?_
  refine me3 (pc' := 5) (S' := [.ref a1, .ref o]) dm_X2_valueOf_2 (g_get (v := .ref a1) ho rfl rfl (by omega)) rfl rfl rfl ?_
  refine me1 (pc' := 6) (L' := [(0, .ref o), (1, .long key)]) (S' := [.ref o, .ref a1, .ref o]) dm_X2_valueOf_5 rfl rfl rfl rfl ?_
  refine me3 (pc' := 9) (S' := [ii (n : Int), .ref a1, .ref o]) dm_X2_valueOf_6 (g_get (v := ii (n : Int)) ho rfl rfl (by omega)) rfl rfl rfl ?_
  refine me1 (pc' := 10) (L' := [(0, .ref o), (1, .long key)]) (S' := [.long key, ii (n : Int), .ref a1, .ref o]) dm_X2_valueOf_9 rfl rfl rfl rfl ?_
  have hfl0 := fstN_le (fun k => decide (kf k = key)) n
  refine x_cp (pc' := 13) (v := ii ((fndK kf n key : Nat) : Int)) (rest := [.ref o]) dm_X2_valueOf_10 rfl (g_invs (As := [.ref a1, ii (n : Int), .long key]) (S := [.ref o]) rfl rfl rfl) rfl rfl rfl (n_find (n := n) (by omega) h1 (by omega) (by omega)) ?_
  refine x_cp (pc' := 16) (v := .ref q) (rest := []) dm_X2_valueOf_13 rfl (g_inv (As := [ii ((fndK kf n key : Nat) : Int)]) (S := []) ho rfl rfl rfl (by omega)) rfl rfl rfl (n_valueAtY (i := fndK kf n key) (by omega) ho h1 h2 h3 h4 ho2 hn hm hi hq) ?_
  refine y_ret (r := some (.ref q)) dm_X2_valueOf_16 rfl rfl rfl ?_
  exact ⟨rfl, rfl⟩
theorem n_valueOfN {key : Int64} {xt : mj_X} {d o a1 a2 a3 a4 n m : Nat} {h : mj_H} {kf jf : Nat → Int64} {vf of : Nat → Option Nat} (hd : 2 ≤ d) (ho : h[o]? = some (cO 2 [.ref a1, .ref a2, ii (n : Int), .ref a3, .ref a4, ii (m : Int)])) (h1 : h[a1]? = some (cJ 40 kf)) (h2 : h[a2]? = some (cA 4 40 vf)) (h3 : h[a3]? = some (cJ 40 jf)) (h4 : h[a4]? = some (cA 5 40 of)) (ho2 : 2 ≤ o ∧ 2 ≤ a1 ∧ 2 ≤ a2 ∧ 2 ≤ a3 ∧ 2 ≤ a4) (hn : n ≤ 40) (hm : m ≤ 40) (hi : fndK kf n key = n) : pgP xt d 65 [.ref o, .long key] h (.null) := by
  refine x_enter pm_X2_valueOf (L0 := [(0, .ref o), (1, .long key)]) rfl (Nat.le_of_ble_eq_true rfl) (by omega) ?_
  refine me1 (pc' := 1) (L' := [(0, .ref o), (1, .long key)]) (S' := [.ref o]) dm_X2_valueOf_0 rfl rfl rfl rfl ?_
  refine me1 (pc' := 2) (L' := [(0, .ref o), (1, .long key)]) (S' := [.ref o, .ref o]) dm_X2_valueOf_1 rfl rfl rfl rfl ?_
  refine me3 (pc' := 5) (S' := [.ref a1, .ref o]) dm_X2_valueOf_2 (g_get (v := .ref a1) ho rfl rfl (by omega)) rfl rfl rfl ?_
  refine me1 (pc' := 6) (L' := [(0, .ref o), (1, .long key)]) (S' := [.ref o, .ref a1, .ref o]) dm_X2_valueOf_5 rfl rfl rfl rfl ?_
  refine me3 (pc' := 9) (S' := [ii (n : Int), .ref a1, .ref o]) dm_X2_valueOf_6 (g_get (v := ii (n : Int)) ho rfl rfl (by omega)) rfl rfl rfl ?_
  refine me1 (pc' := 10) (L' := [(0, .ref o), (1, .long key)]) (S' := [.long key, ii (n : Int), .ref a1, .ref o]) dm_X2_valueOf_9 rfl rfl rfl rfl ?_
  have hfl0 := fstN_le (fun k => decide (kf k = key)) n
  refine x_cp (pc' := 13) (v := ii ((fndK kf n key : Nat) : Int)) (rest := [.ref o]) dm_X2_valueOf_10 rfl (g_invs (As := [.ref a1, ii (n : Int), .long key]) (S := [.ref o]) rfl rfl rfl) rfl rfl rfl (n_find (n := n) (by omega) h1 (by omega) (by omega)) ?_
  refine x_cp (pc' := 16) (v := .null) (rest := []) dm_X2_valueOf_13 rfl (g_inv (As := [ii ((fndK kf n key : Nat) : Int)]) (S := []) ho rfl rfl rfl (by omega)) rfl rfl rfl (n_valueAtN (i := ((fndK kf n key : Nat) : Int)) (by omega) (by omega) ho h1 h2 h3 h4 ho2 hn hm (Or.inr (by omega))) ?_
  refine y_ret (r := some (.null)) dm_X2_valueOf_16 rfl rfl rfl ?_
  exact ⟨rfl, rfl⟩
set_option maxRecDepth 20000 in
theorem pm_X2_functionOf : mj_mmof pg_ms 26 = some ((⟨"ArrayCalculator$Names", "functionOf", "(J)LArrayCalculator$Op;"⟩, prog_4_method_6_code, 4, (Option.some (Jvm.ClassFile.FieldType.object "ArrayCalculator$Op"))), 2, false, mj_dec prog_4_method_6_code) := rfl
theorem dm_X2_functionOf_0 : mj_dec prog_4_method_6_code 0 = some (.aload_n 0, 1) := by decide +kernel
theorem dm_X2_functionOf_1 : mj_dec prog_4_method_6_code 1 = some (.getfield 21, 3) := by decide +kernel
theorem dm_X2_functionOf_4 : mj_dec prog_4_method_6_code 4 = some (.aload_n 0, 1) := by decide +kernel
theorem dm_X2_functionOf_5 : mj_dec prog_4_method_6_code 5 = some (.getfield 34, 3) := by decide +kernel
theorem dm_X2_functionOf_8 : mj_dec prog_4_method_6_code 8 = some (.lload_n 1, 1) := by decide +kernel
theorem dm_X2_functionOf_9 : mj_dec prog_4_method_6_code 9 = some (.invokestatic 41, 3) := by decide +kernel
theorem dm_X2_functionOf_12 : mj_dec prog_4_method_6_code 12 = some (.istore_n 3, 1) := by decide +kernel
theorem dm_X2_functionOf_13 : mj_dec prog_4_method_6_code 13 = some (.iload_n 3, 1) := by decide +kernel
theorem dm_X2_functionOf_14 : mj_dec prog_4_method_6_code 14 = some (.aload_n 0, 1) := by decide +kernel
theorem dm_X2_functionOf_15 : mj_dec prog_4_method_6_code 15 = some (.getfield 34, 3) := by decide +kernel
theorem dm_X2_functionOf_18 : mj_dec prog_4_method_6_code 18 = some (.if_icmp .ge 12, 3) := by decide +kernel
theorem dm_X2_functionOf_21 : mj_dec prog_4_method_6_code 21 = some (.aload_n 0, 1) := by decide +kernel
theorem dm_X2_functionOf_22 : mj_dec prog_4_method_6_code 22 = some (.getfield 26, 3) := by decide +kernel
theorem dm_X2_functionOf_25 : mj_dec prog_4_method_6_code 25 = some (.iload_n 3, 1) := by decide +kernel
theorem dm_X2_functionOf_26 : mj_dec prog_4_method_6_code 26 = some (.aaload, 1) := by decide +kernel
theorem dm_X2_functionOf_27 : mj_dec prog_4_method_6_code 27 = some (.goto 4, 3) := by decide +kernel
theorem dm_X2_functionOf_31 : mj_dec prog_4_method_6_code 31 = some (.areturn, 1) := by decide +kernel
theorem n_functionOfY {q : Nat} {key : Int64} {xt : mj_X} {d o a1 a2 a3 a4 n m : Nat} {h : mj_H} {kf jf : Nat → Int64} {vf of : Nat → Option Nat} (hd : 2 ≤ d) (ho : h[o]? = some (cO 2 [.ref a1, .ref a2, ii (n : Int), .ref a3, .ref a4, ii (m : Int)])) (h1 : h[a1]? = some (cJ 40 kf)) (h2 : h[a2]? = some (cA 4 40 vf)) (h3 : h[a3]? = some (cJ 40 jf)) (h4 : h[a4]? = some (cA 5 40 of)) (ho2 : 2 ≤ o ∧ 2 ≤ a1 ∧ 2 ≤ a2 ∧ 2 ≤ a3 ∧ 2 ≤ a4) (hn : n ≤ 40) (hm : m ≤ 40) (hi : fndK jf m key < m) (hq : of (fndK jf m key) = some q) : pgP xt d 26 [.ref o, .long key] h (.ref q) := by
  refine x_enter pm_X2_functionOf (L0 := [(0, .ref o), (1, .long key)]) rfl (Nat.le_of_ble_eq_true rfl) (by omega) ?_
  refine me1 (pc' := 1) (L' := [(0, .ref o), (1, .long key)]) (S' := [.ref o]) dm_X2_functionOf_0 rfl rfl rfl rfl ?_
  refine me3 (pc' := 4) (S' := [.ref a3]) dm_X2_functionOf_1 (g_get (v := .ref a3) ho rfl rfl (by omega)) rfl rfl rfl ?_
  refine me1 (pc' := 5) (L' := [(0, .ref o), (1, .long key)]) (S' := [.ref o, .ref a3]) dm_X2_functionOf_4 rfl rfl rfl rfl ?_
  refine me3 (pc' := 8) (S' := [ii (m : Int), .ref a3]) dm_X2_functionOf_5 (g_get (v := ii (m : Int)) ho rfl rfl (by omega)) rfl rfl rfl ?_
  refine me1 (pc' := 9) (L' := [(0, .ref o), (1, .long key)]) (S' := [.long key, ii (m : Int), .ref a3]) dm_X2_functionOf_8 rfl rfl rfl rfl ?_
  have hfl0 := fstN_le (fun k => decide (jf k = key)) m
  refine x_cp (pc' := 12) (v := ii ((fndK jf m key : Nat) : Int)) (rest := []) dm_X2_functionOf_9 rfl (g_invs (As := [.ref a3, ii (m : Int), .long key]) (S := []) rfl rfl rfl) rfl rfl rfl (n_find (n := m) (by omega) h3 (by omega) (by omega)) ?_
  refine me1 (pc' := 13) (L' := [(3, ii ((fndK jf m key : Nat) : Int)), (0, .ref o), (1, .long key)]) (S' := []) dm_X2_functionOf_12 rfl rfl rfl rfl ?_
  refine me1 (pc' := 14) (L' := [(3, ii ((fndK jf m key : Nat) : Int)), (0, .ref o), (1, .long key)]) (S' := [ii ((fndK jf m key : Nat) : Int)]) dm_X2_functionOf_13 rfl rfl rfl rfl ?_
  refine me1 (pc' := 15) (L' := [(3, ii ((fndK jf m key : Nat) : Int)), (0, .ref o), (1, .long key)]) (S' := [.ref o, ii ((fndK jf m key : Nat) : Int)]) dm_X2_functionOf_14 rfl rfl rfl rfl ?_
  refine me3 (pc' := 18) (S' := [ii (m : Int), ii ((fndK jf m key : Nat) : Int)]) dm_X2_functionOf_15 (g_get (v := ii (m : Int)) ho rfl rfl (by omega)) rfl rfl rfl ?_
  refine y_2ge (a := ((fndK jf m key : Nat) : Int)) (b := (m : Int)) (t := 30) (pc' := 21) dm_X2_functionOf_18 rfl rfl (by omega) (fun hb1 => ?_) (fun hb1 => ?_)
  · exfalso; omega
  · refine me1 (pc' := 22) (L' := [(3, ii ((fndK jf m key : Nat) : Int)), (0, .ref o), (1, .long key)]) (S' := [.ref o]) dm_X2_functionOf_21 rfl rfl rfl rfl ?_
    refine me3 (pc' := 25) (S' := [.ref a4]) dm_X2_functionOf_22 (g_get (v := .ref a4) ho rfl rfl (by omega)) rfl rfl rfl ?_
    refine me1 (pc' := 26) (L' := [(3, ii ((fndK jf m key : Nat) : Int)), (0, .ref o), (1, .long key)]) (S' := [ii ((fndK jf m key : Nat) : Int), .ref a4]) dm_X2_functionOf_25 rfl rfl rfl rfl ?_
    refine me3 (pc' := 27) (S' := [.ref q]) dm_X2_functionOf_26 (yh_aald (w := some q) rfl h4 (by omega) (by omega) (by omega) (by omega) hq) rfl rfl rfl ?_
    refine me2 (pc' := 31) (S' := [.ref q]) dm_X2_functionOf_27 rfl rfl rfl ?_
    refine y_ret (r := some (.ref q)) dm_X2_functionOf_31 rfl rfl rfl ?_
    exact ⟨rfl, rfl⟩
theorem dm_X2_functionOf_30 : mj_dec prog_4_method_6_code 30 = some (.aconst_null, 1) := by decide +kernel
theorem n_functionOfN {key : Int64} {xt : mj_X} {d o a1 a2 a3 a4 n m : Nat} {h : mj_H} {kf jf : Nat → Int64} {vf of : Nat → Option Nat} (hd : 2 ≤ d) (ho : h[o]? = some (cO 2 [.ref a1, .ref a2, ii (n : Int), .ref a3, .ref a4, ii (m : Int)])) (h1 : h[a1]? = some (cJ 40 kf)) (h2 : h[a2]? = some (cA 4 40 vf)) (h3 : h[a3]? = some (cJ 40 jf)) (h4 : h[a4]? = some (cA 5 40 of)) (ho2 : 2 ≤ o ∧ 2 ≤ a1 ∧ 2 ≤ a2 ∧ 2 ≤ a3 ∧ 2 ≤ a4) (hn : n ≤ 40) (hm : m ≤ 40) (hi : fndK jf m key = m) : pgP xt d 26 [.ref o, .long key] h (.null) := by
  refine x_enter pm_X2_functionOf (L0 := [(0, .ref o), (1, .long key)]) rfl (Nat.le_of_ble_eq_true rfl) (by omega) ?_
  refine me1 (pc' := 1) (L' := [(0, .ref o), (1, .long key)]) (S' := [.ref o]) dm_X2_functionOf_0 rfl rfl rfl rfl ?_
  refine me3 (pc' := 4) (S' := [.ref a3]) dm_X2_functionOf_1 (g_get (v := .ref a3) ho rfl rfl (by omega)) rfl rfl rfl ?_
  refine me1 (pc' := 5) (L' := [(0, .ref o), (1, .long key)]) (S' := [.ref o, .ref a3]) dm_X2_functionOf_4 rfl rfl rfl rfl ?_
  refine me3 (pc' := 8) (S' := [ii (m : Int), .ref a3]) dm_X2_functionOf_5 (g_get (v := ii (m : Int)) ho rfl rfl (by omega)) rfl rfl rfl ?_
  refine me1 (pc' := 9) (L' := [(0, .ref o), (1, .long key)]) (S' := [.long key, ii (m : Int), .ref a3]) dm_X2_functionOf_8 rfl rfl rfl rfl ?_
  have hfl0 := fstN_le (fun k => decide (jf k = key)) m
  refine x_cp (pc' := 12) (v := ii ((fndK jf m key : Nat) : Int)) (rest := []) dm_X2_functionOf_9 rfl (g_invs (As := [.ref a3, ii (m : Int), .long key]) (S := []) rfl rfl rfl) rfl rfl rfl (n_find (n := m) (by omega) h3 (by omega) (by omega)) ?_
  refine me1 (pc' := 13) (L' := [(3, ii ((fndK jf m key : Nat) : Int)), (0, .ref o), (1, .long key)]) (S' := []) dm_X2_functionOf_12 rfl rfl rfl rfl ?_
  refine me1 (pc' := 14) (L' := [(3, ii ((fndK jf m key : Nat) : Int)), (0, .ref o), (1, .long key)]) (S' := [ii ((fndK jf m key : Nat) : Int)]) dm_X2_functionOf_13 rfl rfl rfl rfl ?_
  refine me1 (pc' := 15) (L' := [(3, ii ((fndK jf m key : Nat) : Int)), (0, .ref o), (1, .long key)]) (S' := [.ref o, ii ((fndK jf m key : Nat) : Int)]) dm_X2_functionOf_14 rfl rfl rfl rfl ?_
  refine me3 (pc' := 18) (S' := [ii (m : Int), ii ((fndK jf m key : Nat) : Int)]) dm_X2_functionOf_15 (g_get (v := ii (m : Int)) ho rfl rfl (by omega)) rfl rfl rfl ?_
  refine y_2ge (a := ((fndK jf m key : Nat) : Int)) (b := (m : Int)) (t := 30) (pc' := 21) dm_X2_functionOf_18 rfl rfl (by omega) (fun hb1 => ?_) (fun hb1 => ?_)
  · refine me0 (pc' := 31) (S' := [.null]) dm_X2_functionOf_30 rfl rfl rfl rfl ?_
    refine y_ret (r := some (.null)) dm_X2_functionOf_31 rfl rfl rfl ?_
    exact ⟨rfl, rfl⟩
  · exfalso; omega
set_option maxRecDepth 20000 in
theorem pm_X2_knows : mj_mmof pg_ms 64 = some ((⟨"ArrayCalculator$Names", "knows", "(J)Z"⟩, prog_4_method_8_code, 3, (Option.some Jvm.ClassFile.FieldType.boolean)), 2, false, mj_dec prog_4_method_8_code) := rfl
theorem dm_X2_knows_0 : mj_dec prog_4_method_8_code 0 = some (.aload_n 0, 1) := by decide +kernel
theorem dm_X2_knows_1 : mj_dec prog_4_method_8_code 1 = some (.lload_n 1, 1) := by decide +kernel
theorem dm_X2_knows_2 : mj_dec prog_4_method_8_code 2 = some (.invokevirtual 49, 3) := by decide +kernel
theorem dm_X2_knows_5 : mj_dec prog_4_method_8_code 5 = some (.ifnonnull 11, 3) := by decide +kernel
theorem dm_X2_knows_16 : mj_dec prog_4_method_8_code 16 = some (.iconst 1, 1) := by decide +kernel
theorem dm_X2_knows_17 : mj_dec prog_4_method_8_code 17 = some (.goto 4, 3) := by decide +kernel
theorem dm_X2_knows_21 : mj_dec prog_4_method_8_code 21 = some (.ireturn, 1) := by decide +kernel
theorem n_knowsY {q : Nat} {key : Int64} {xt : mj_X} {d o a1 a2 a3 a4 n m : Nat} {h : mj_H} {kf jf : Nat → Int64} {vf of : Nat → Option Nat} (hd : 3 ≤ d) (ho : h[o]? = some (cO 2 [.ref a1, .ref a2, ii (n : Int), .ref a3, .ref a4, ii (m : Int)])) (h1 : h[a1]? = some (cJ 40 kf)) (h2 : h[a2]? = some (cA 4 40 vf)) (h3 : h[a3]? = some (cJ 40 jf)) (h4 : h[a4]? = some (cA 5 40 of)) (ho2 : 2 ≤ o ∧ 2 ≤ a1 ∧ 2 ≤ a2 ∧ 2 ≤ a3 ∧ 2 ≤ a4) (hn : n ≤ 40) (hm : m ≤ 40) (hi : fndK kf n key < n) (hq : vf (fndK kf n key) = some q) : pgP xt d 64 [.ref o, .long key] h (zz (decide (fndK kf n key < n ∨ fndK jf m key < m))) := by
  refine x_enter pm_X2_knows (L0 := [(0, .ref o), (1, .long key)]) rfl (Nat.le_of_ble_eq_true rfl) (by omega) ?_
  refine me1 (pc' := 1) (L' := [(0, .ref o), (1, .long key)]) (S' := [.ref o]) dm_X2_knows_0 rfl rfl rfl rfl ?_
  refine me1 (pc' := 2) (L' := [(0, .ref o), (1, .long key)]) (S' := [.long key, .ref o]) dm_X2_knows_1 rfl rfl rfl rfl ?_
  refine x_cp (pc' := 5) (v := .ref q) (rest := []) dm_X2_knows_2 rfl (g_inv (As := [.long key]) (S := []) ho rfl rfl rfl (by omega)) rfl rfl rfl (n_valueOfY (by omega) ho h1 h2 h3 h4 ho2 hn hm hi hq) ?_
  refine me2 (pc' := 16) (S' := []) dm_X2_knows_5 rfl rfl rfl ?_
  refine me0 (pc' := 17) (S' := [ii 1]) dm_X2_knows_16 rfl rfl rfl rfl ?_
  refine me2 (pc' := 21) (S' := [ii 1]) dm_X2_knows_17 rfl rfl rfl ?_
  refine y_ret (r := some (ii 1)) dm_X2_knows_21 rfl rfl rfl ?_
  exact ⟨congrArg some (zt (by omega)), rfl⟩
theorem dm_X2_knows_8 : mj_dec prog_4_method_8_code 8 = some (.aload_n 0, 1) := by decide +kernel
theorem dm_X2_knows_9 : mj_dec prog_4_method_8_code 9 = some (.lload_n 1, 1) := by decide +kernel
theorem dm_X2_knows_10 : mj_dec prog_4_method_8_code 10 = some (.invokevirtual 53, 3) := by decide +kernel
theorem dm_X2_knows_13 : mj_dec prog_4_method_8_code 13 = some (.ifnull 7, 3) := by decide +kernel
theorem n_knowsF {q : Nat} {key : Int64} {xt : mj_X} {d o a1 a2 a3 a4 n m : Nat} {h : mj_H} {kf jf : Nat → Int64} {vf of : Nat → Option Nat} (hd : 3 ≤ d) (ho : h[o]? = some (cO 2 [.ref a1, .ref a2, ii (n : Int), .ref a3, .ref a4, ii (m : Int)])) (h1 : h[a1]? = some (cJ 40 kf)) (h2 : h[a2]? = some (cA 4 40 vf)) (h3 : h[a3]? = some (cJ 40 jf)) (h4 : h[a4]? = some (cA 5 40 of)) (ho2 : 2 ≤ o ∧ 2 ≤ a1 ∧ 2 ≤ a2 ∧ 2 ≤ a3 ∧ 2 ≤ a4) (hn : n ≤ 40) (hm : m ≤ 40) (hi : fndK kf n key = n) (hi2 : fndK jf m key < m) (hq : of (fndK jf m key) = some q) : pgP xt d 64 [.ref o, .long key] h (zz (decide (fndK kf n key < n ∨ fndK jf m key < m))) := by
  refine x_enter pm_X2_knows (L0 := [(0, .ref o), (1, .long key)]) rfl (Nat.le_of_ble_eq_true rfl) (by omega) ?_
  refine me1 (pc' := 1) (L' := [(0, .ref o), (1, .long key)]) (S' := [.ref o]) dm_X2_knows_0 rfl rfl rfl rfl ?_
  refine me1 (pc' := 2) (L' := [(0, .ref o), (1, .long key)]) (S' := [.long key, .ref o]) dm_X2_knows_1 rfl rfl rfl rfl ?_
  refine x_cp (pc' := 5) (v := .null) (rest := []) dm_X2_knows_2 rfl (g_inv (As := [.long key]) (S := []) ho rfl rfl rfl (by omega)) rfl rfl rfl (n_valueOfN (by omega) ho h1 h2 h3 h4 ho2 hn hm hi) ?_
  refine me2 (pc' := 8) (S' := []) dm_X2_knows_5 rfl rfl rfl ?_
  refine me1 (pc' := 9) (L' := [(0, .ref o), (1, .long key)]) (S' := [.ref o]) dm_X2_knows_8 rfl rfl rfl rfl ?_
  refine me1 (pc' := 10) (L' := [(0, .ref o), (1, .long key)]) (S' := [.long key, .ref o]) dm_X2_knows_9 rfl rfl rfl rfl ?_
  refine x_cp (pc' := 13) (v := .ref q) (rest := []) dm_X2_knows_10 rfl (g_inv (As := [.long key]) (S := []) ho rfl rfl rfl (by omega)) rfl rfl rfl (n_functionOfY (by omega) ho h1 h2 h3 h4 ho2 hn hm hi2 hq) ?_
  refine me2 (pc' := 16) (S' := []) dm_X2_knows_13 rfl rfl rfl ?_
  refine me0 (pc' := 17) (S' := [ii 1]) dm_X2_knows_16 rfl rfl rfl rfl ?_
  refine me2 (pc' := 21) (S' := [ii 1]) dm_X2_knows_17 rfl rfl rfl ?_
  refine y_ret (r := some (ii 1)) dm_X2_knows_21 rfl rfl rfl ?_
  exact ⟨congrArg some (zt (by omega)), rfl⟩
theorem dm_X2_knows_20 : mj_dec prog_4_method_8_code 20 = some (.iconst 0, 1) := by decide +kernel
theorem n_knowsN {key : Int64} {xt : mj_X} {d o a1 a2 a3 a4 n m : Nat} {h : mj_H} {kf jf : Nat → Int64} {vf of : Nat → Option Nat} (hd : 3 ≤ d) (ho : h[o]? = some (cO 2 [.ref a1, .ref a2, ii (n : Int), .ref a3, .ref a4, ii (m : Int)])) (h1 : h[a1]? = some (cJ 40 kf)) (h2 : h[a2]? = some (cA 4 40 vf)) (h3 : h[a3]? = some (cJ 40 jf)) (h4 : h[a4]? = some (cA 5 40 of)) (ho2 : 2 ≤ o ∧ 2 ≤ a1 ∧ 2 ≤ a2 ∧ 2 ≤ a3 ∧ 2 ≤ a4) (hn : n ≤ 40) (hm : m ≤ 40) (hi : fndK kf n key = n) (hi2 : fndK jf m key = m) : pgP xt d 64 [.ref o, .long key] h (zz (decide (fndK kf n key < n ∨ fndK jf m key < m))) := by
  refine x_enter pm_X2_knows (L0 := [(0, .ref o), (1, .long key)]) rfl (Nat.le_of_ble_eq_true rfl) (by omega) ?_
  refine me1 (pc' := 1) (L' := [(0, .ref o), (1, .long key)]) (S' := [.ref o]) dm_X2_knows_0 rfl rfl rfl rfl ?_
  refine me1 (pc' := 2) (L' := [(0, .ref o), (1, .long key)]) (S' := [.long key, .ref o]) dm_X2_knows_1 rfl rfl rfl rfl ?_
  refine x_cp (pc' := 5) (v := .null) (rest := []) dm_X2_knows_2 rfl (g_inv (As := [.long key]) (S := []) ho rfl rfl rfl (by omega)) rfl rfl rfl (n_valueOfN (by omega) ho h1 h2 h3 h4 ho2 hn hm hi) ?_
  refine me2 (pc' := 8) (S' := []) dm_X2_knows_5 rfl rfl rfl ?_
  refine me1 (pc' := 9) (L' := [(0, .ref o), (1, .long key)]) (S' := [.ref o]) dm_X2_knows_8 rfl rfl rfl rfl ?_
  refine me1 (pc' := 10) (L' := [(0, .ref o), (1, .long key)]) (S' := [.long key, .ref o]) dm_X2_knows_9 rfl rfl rfl rfl ?_
  refine x_cp (pc' := 13) (v := .null) (rest := []) dm_X2_knows_10 rfl (g_inv (As := [.long key]) (S := []) ho rfl rfl rfl (by omega)) rfl rfl rfl (n_functionOfN (by omega) ho h1 h2 h3 h4 ho2 hn hm hi2) ?_
  refine me2 (pc' := 20) (S' := []) dm_X2_knows_13 rfl rfl rfl ?_
  refine me0 (pc' := 21) (S' := [ii 0]) dm_X2_knows_20 rfl rfl rfl rfl ?_
  refine y_ret (r := some (ii 0)) dm_X2_knows_21 rfl rfl rfl ?_
  exact ⟨congrArg some (zf (by omega)), rfl⟩
set_option maxRecDepth 20000 in
theorem pm_X2_keyAt : mj_mmof pg_ms 194 = some ((⟨"ArrayCalculator$Names", "keyAt", "(II)J"⟩, prog_4_method_3_code, 3, (Option.some Jvm.ClassFile.FieldType.long)), 2, false, mj_dec prog_4_method_3_code) := rfl
theorem dm_X2_keyAt_0 : mj_dec prog_4_method_3_code 0 = some (.iload_n 2, 1) := by decide +kernel
theorem dm_X2_keyAt_1 : mj_dec prog_4_method_3_code 1 = some (.ifCond .lt 12, 3) := by decide +kernel
theorem dm_X2_keyAt_4 : mj_dec prog_4_method_3_code 4 = some (.iload_n 2, 1) := by decide +kernel
theorem dm_X2_keyAt_5 : mj_dec prog_4_method_3_code 5 = some (.aload_n 0, 1) := by decide +kernel
theorem dm_X2_keyAt_6 : mj_dec prog_4_method_3_code 6 = some (.iload_n 1, 1) := by decide +kernel
theorem dm_X2_keyAt_7 : mj_dec prog_4_method_3_code 7 = some (.invokevirtual 37, 3) := by decide +kernel
theorem dm_X2_keyAt_10 : mj_dec prog_4_method_3_code 10 = some (.if_icmp .lt 5, 3) := by decide +kernel
theorem dm_X2_keyAt_13 : mj_dec prog_4_method_3_code 13 = some (.lconst 0, 1) := by decide +kernel
theorem dm_X2_keyAt_14 : mj_dec prog_4_method_3_code 14 = some (.lreturn, 1) := by decide +kernel
theorem dm_X2_keyAt_15 : mj_dec prog_4_method_3_code 15 = some (.iload_n 1, 1) := by decide +kernel
theorem dm_X2_keyAt_16 : mj_dec prog_4_method_3_code 16 = some (.ifCond .ne 12, 3) := by decide +kernel
theorem dm_X2_keyAt_19 : mj_dec prog_4_method_3_code 19 = some (.aload_n 0, 1) := by decide +kernel
theorem dm_X2_keyAt_20 : mj_dec prog_4_method_3_code 20 = some (.getfield 9, 3) := by decide +kernel
theorem dm_X2_keyAt_23 : mj_dec prog_4_method_3_code 23 = some (.iload_n 2, 1) := by decide +kernel
theorem dm_X2_keyAt_24 : mj_dec prog_4_method_3_code 24 = some (.laload, 1) := by decide +kernel
theorem dm_X2_keyAt_25 : mj_dec prog_4_method_3_code 25 = some (.goto 9, 3) := by decide +kernel
theorem dm_X2_keyAt_28 : mj_dec prog_4_method_3_code 28 = some (.aload_n 0, 1) := by decide +kernel
theorem dm_X2_keyAt_29 : mj_dec prog_4_method_3_code 29 = some (.getfield 21, 3) := by decide +kernel
theorem dm_X2_keyAt_32 : mj_dec prog_4_method_3_code 32 = some (.iload_n 2, 1) := by decide +kernel
theorem dm_X2_keyAt_33 : mj_dec prog_4_method_3_code 33 = some (.laload, 1) := by decide +kernel
theorem dm_X2_keyAt_34 : mj_dec prog_4_method_3_code 34 = some (.lreturn, 1) := by decide +kernel
theorem n_keyAt {w i : Int} (hw : -2147483648 ≤ w ∧ w ≤ 2147483647) (hi : -2147483648 ≤ i ∧ i ≤ 2147483647) {xt : mj_X} {d o a1 a2 a3 a4 n m : Nat} {h : mj_H} {kf jf : Nat → Int64} {vf of : Nat → Option Nat} (hd : 2 ≤ d) (ho : h[o]? = some (cO 2 [.ref a1, .ref a2, ii (n : Int), .ref a3, .ref a4, ii (m : Int)])) (h1 : h[a1]? = some (cJ 40 kf)) (h2 : h[a2]? = some (cA 4 40 vf)) (h3 : h[a3]? = some (cJ 40 jf)) (h4 : h[a4]? = some (cA 5 40 of)) (ho2 : 2 ≤ o ∧ 2 ≤ a1 ∧ 2 ≤ a2 ∧ 2 ≤ a3 ∧ 2 ≤ a4) (hn : n ≤ 40) (hm : m ≤ 40) : pgP xt d 194 [.ref o, ii w, ii i] h (.long (if 0 ≤ i ∧ ((w = 0 ∧ i < (n : Int)) ∨ (w = 1 ∧ i < (m : Int))) then (if w = 0 then kf i.toNat else jf i.toNat) else 0)) := by
  have hif : (w = 0 ∧ (if w = 0 then (n : Int) else if w = 1 then (m : Int) else -1) = n) ∨ (w = 1 ∧ (if w = 0 then (n : Int) else if w = 1 then (m : Int) else -1) = m) ∨ (w ≠ 0 ∧ w ≠ 1 ∧ (if w = 0 then (n : Int) else if w = 1 then (m : Int) else -1) = -1) := by by_cases z : w = 0; (exact Or.inl ⟨z, by rw [if_pos z]⟩); by_cases y : w = 1; (exact Or.inr (Or.inl ⟨y, by rw [if_neg z, if_pos y]⟩)); exact Or.inr (Or.inr ⟨z, y, by rw [if_neg z, if_neg y]⟩)
  generalize hgm : (if w = 0 then (n : Int) else if w = 1 then (m : Int) else -1) = gm at hif
  refine x_enter pm_X2_keyAt (L0 := [(0, .ref o), (1, ii w), (2, ii i)]) rfl (Nat.le_of_ble_eq_true rfl) (by omega) ?_
  refine me1 (pc' := 1) (L' := [(0, .ref o), (1, ii w), (2, ii i)]) (S' := [ii i]) dm_X2_keyAt_0 rfl rfl rfl rfl ?_
  refine y_1lt (a := i) (t := 13) (pc' := 4) dm_X2_keyAt_1 rfl rfl (by omega) (fun hb1 => ?_) (fun hb1 => ?_)
  · refine me0 (pc' := 14) (S' := [.long (Int64.ofInt 0)]) dm_X2_keyAt_13 rfl rfl rfl rfl ?_
    refine y_ret (r := some (.long (Int64.ofInt 0))) dm_X2_keyAt_14 rfl rfl rfl ?_
    refine ⟨congrArg some (congrArg Value.long ?_), rfl⟩
    first | (rw [if_neg (by omega)]; rfl) | (rw [if_pos (by omega), if_pos (by omega)]) | (rw [if_pos (by omega), if_neg (by omega)])
  · refine me1 (pc' := 5) (L' := [(0, .ref o), (1, ii w), (2, ii i)]) (S' := [ii i]) dm_X2_keyAt_4 rfl rfl rfl rfl ?_
    refine me1 (pc' := 6) (L' := [(0, .ref o), (1, ii w), (2, ii i)]) (S' := [.ref o, ii i]) dm_X2_keyAt_5 rfl rfl rfl rfl ?_
    refine me1 (pc' := 7) (L' := [(0, .ref o), (1, ii w), (2, ii i)]) (S' := [ii w, .ref o, ii i]) dm_X2_keyAt_6 rfl rfl rfl rfl ?_
    refine x_cp (pc' := 10) (v := ii gm) (rest := [ii i]) dm_X2_keyAt_7 rfl (g_inv (As := [ii w]) (S := [ii i]) ho rfl rfl rfl (by omega)) rfl rfl rfl (hgm ▸ n_howMany (i := w) hw (by omega) ho h1 h2 h3 h4 ho2 hn hm) ?_
    refine y_2lt (a := i) (b := gm) (t := 15) (pc' := 13) dm_X2_keyAt_10 rfl rfl (by omega) (fun hb2 => ?_) (fun hb2 => ?_)
    · refine me1 (pc' := 16) (L' := [(0, .ref o), (1, ii w), (2, ii i)]) (S' := [ii w]) dm_X2_keyAt_15 rfl rfl rfl rfl ?_
      refine y_1ne (a := w) (t := 28) (pc' := 19) dm_X2_keyAt_16 rfl rfl (by omega) (fun hb3 => ?_) (fun hb3 => ?_)
      · refine me1 (pc' := 29) (L' := [(0, .ref o), (1, ii w), (2, ii i)]) (S' := [.ref o]) dm_X2_keyAt_28 rfl rfl rfl rfl ?_
        refine me3 (pc' := 32) (S' := [.ref a3]) dm_X2_keyAt_29 (g_get (v := .ref a3) ho rfl rfl (by omega)) rfl rfl rfl ?_
        refine me1 (pc' := 33) (L' := [(0, .ref o), (1, ii w), (2, ii i)]) (S' := [ii i, .ref a3]) dm_X2_keyAt_32 rfl rfl rfl rfl ?_
        refine me3 (pc' := 34) (S' := [.long (jf i.toNat)]) dm_X2_keyAt_33 (yh_lald (w := jf i.toNat) h3 (by omega) (by omega) (by omega) (by omega) rfl) rfl rfl rfl ?_
        refine y_ret (r := some (.long (jf i.toNat))) dm_X2_keyAt_34 rfl rfl rfl ?_
        refine ⟨congrArg some (congrArg Value.long ?_), rfl⟩
        first | (rw [if_neg (by omega)]; rfl) | (rw [if_pos (by omega), if_pos (by omega)]) | (rw [if_pos (by omega), if_neg (by omega)])
      · refine me1 (pc' := 20) (L' := [(0, .ref o), (1, ii w), (2, ii i)]) (S' := [.ref o]) dm_X2_keyAt_19 rfl rfl rfl rfl ?_
        refine me3 (pc' := 23) (S' := [.ref a1]) dm_X2_keyAt_20 (g_get (v := .ref a1) ho rfl rfl (by omega)) rfl rfl rfl ?_
        refine me1 (pc' := 24) (L' := [(0, .ref o), (1, ii w), (2, ii i)]) (S' := [ii i, .ref a1]) dm_X2_keyAt_23 rfl rfl rfl rfl ?_
        refine me3 (pc' := 25) (S' := [.long (kf i.toNat)]) dm_X2_keyAt_24 (yh_lald (w := kf i.toNat) h1 (by omega) (by omega) (by omega) (by omega) rfl) rfl rfl rfl ?_
        refine me2 (pc' := 34) (S' := [.long (kf i.toNat)]) dm_X2_keyAt_25 rfl rfl rfl ?_
        refine y_ret (r := some (.long (kf i.toNat))) dm_X2_keyAt_34 rfl rfl rfl ?_
        refine ⟨congrArg some (congrArg Value.long ?_), rfl⟩
        first | (rw [if_neg (by omega)]; rfl) | (rw [if_pos (by omega), if_pos (by omega)]) | (rw [if_pos (by omega), if_neg (by omega)])
    · refine me0 (pc' := 14) (S' := [.long (Int64.ofInt 0)]) dm_X2_keyAt_13 rfl rfl rfl rfl ?_
      refine y_ret (r := some (.long (Int64.ofInt 0))) dm_X2_keyAt_14 rfl rfl rfl ?_
      refine ⟨congrArg some (congrArg Value.long ?_), rfl⟩
      first | (rw [if_neg (by omega)]; rfl) | (rw [if_pos (by omega), if_pos (by omega)]) | (rw [if_pos (by omega), if_neg (by omega)])
