/-- a key's place as the reference tells it -/
def fndR (f : Nat → Int64) (n : Nat) (key : Int64) : Int := if fndK f n key < n then ((fndK f n key : Nat) : Int) else -1
theorem fndR_y {f : Nat → Int64} {n : Nat} {key : Int64} (h : fndK f n key < n) : fndR f n key = ((fndK f n key : Nat) : Int) := by unfold fndR; rw [if_pos h]
theorem fndR_n {f : Nat → Int64} {n : Nat} {key : Int64} (h : ¬ fndK f n key < n) : fndR f n key = -1 := by unfold fndR; rw [if_neg h]
/-- the state behind a shift of two rows -/
def shS (s : RS) (K V c i k : Nat) (x : Int) : RS := (va_up s.1 c x, s.2.1, va_up s.2.2.1 V (sh (s.2.2.1 V) i k), va_up s.2.2.2 K (sh (s.2.2.2 K) i k))
theorem up_self {α : Type} (f : Nat → α) (k : Nat) : va_up f k (f k) = f := by
  funext j
  rw [up_at]
  by_cases z : j = k
  · rw [if_pos z, z]
  · rw [if_neg z]
theorem shS_0 {pre post : mj_H} (s : RS) (K V c i : Nat) (x : Int) : rI pre post (va_up s.1 c x) s.2.1 s.2.2.1 s.2.2.2 = rS pre post (shS s K V c i i x) := by
  unfold shS
  rw [sh_0, sh_0, up_self, up_self]
theorem shS_s {pre post : mj_H} (s : RS) (K V c : Nat) {i k : Nat} (x : Int) (h : i ≤ k) : rI pre post (shS s K V c i k x).1 (shS s K V c i k x).2.1 (va_up (shS s K V c i k x).2.2.1 V (va_up ((shS s K V c i k x).2.2.1 V) k ((shS s K V c i k x).2.2.1 V (k + 1)))) (va_up (shS s K V c i k x).2.2.2 K (va_up ((shS s K V c i k x).2.2.2 K) k ((shS s K V c i k x).2.2.2 K (k + 1)))) = rS pre post (shS s K V c i (k + 1) x) := by
  show rI pre post (va_up s.1 c x) s.2.1 (va_up (va_up s.2.2.1 V (sh (s.2.2.1 V) i k)) V (va_up (va_up s.2.2.1 V (sh (s.2.2.1 V) i k) V) k (va_up s.2.2.1 V (sh (s.2.2.1 V) i k) V (k + 1)))) (va_up (va_up s.2.2.2 K (sh (s.2.2.2 K) i k)) K (va_up (va_up s.2.2.2 K (sh (s.2.2.2 K) i k) K) k (va_up s.2.2.2 K (sh (s.2.2.2 K) i k) K (k + 1)))) = rI pre post (va_up s.1 c x) s.2.1 (va_up s.2.2.1 V (sh (s.2.2.1 V) i (k + 1))) (va_up s.2.2.2 K (sh (s.2.2.2 K) i (k + 1)))
  rw [up_up, up_up, up_eq, up_eq, sh_up, sh_up, sh_s _ h, sh_s _ h]
set_option maxRecDepth 20000 in
theorem pm_X12_valueNamed : mj_mmof pg_ms 236 = some ((⟨"ArrayCalculatorModel", "valueNamed", "(J)I"⟩, prog_14_method_64_code, 4, (Option.some Jvm.ClassFile.FieldType.int)), 12, false, mj_dec prog_14_method_64_code) := rfl
theorem dm_X12_valueNamed_0 : mj_dec prog_14_method_64_code 0 = some (.iconst 0, 1) := by decide +kernel
theorem dm_X12_valueNamed_1 : mj_dec prog_14_method_64_code 1 = some (.istore_n 3, 1) := by decide +kernel
theorem dm_X12_valueNamed_2 : mj_dec prog_14_method_64_code 2 = some (.iload_n 3, 1) := by decide +kernel
theorem dm_X12_valueNamed_3 : mj_dec prog_14_method_64_code 3 = some (.aload_n 0, 1) := by decide +kernel
theorem dm_X12_valueNamed_4 : mj_dec prog_14_method_64_code 4 = some (.getfield 357, 3) := by decide +kernel
theorem dm_X12_valueNamed_7 : mj_dec prog_14_method_64_code 7 = some (.if_icmp .ge 22, 3) := by decide +kernel
theorem dm_X12_valueNamed_10 : mj_dec prog_14_method_64_code 10 = some (.aload_n 0, 1) := by decide +kernel
theorem dm_X12_valueNamed_11 : mj_dec prog_14_method_64_code 11 = some (.getfield 43, 3) := by decide +kernel
theorem dm_X12_valueNamed_14 : mj_dec prog_14_method_64_code 14 = some (.iload_n 3, 1) := by decide +kernel
theorem dm_X12_valueNamed_15 : mj_dec prog_14_method_64_code 15 = some (.laload, 1) := by decide +kernel
theorem dm_X12_valueNamed_16 : mj_dec prog_14_method_64_code 16 = some (.lload_n 1, 1) := by decide +kernel
theorem dm_X12_valueNamed_17 : mj_dec prog_14_method_64_code 17 = some (.lcmp, 1) := by decide +kernel
theorem dm_X12_valueNamed_18 : mj_dec prog_14_method_64_code 18 = some (.ifCond .ne 5, 3) := by decide +kernel
theorem dm_X12_valueNamed_21 : mj_dec prog_14_method_64_code 21 = some (.iload_n 3, 1) := by decide +kernel
theorem dm_X12_valueNamed_22 : mj_dec prog_14_method_64_code 22 = some (.ireturn, 1) := by decide +kernel
theorem dm_X12_valueNamed_23 : mj_dec prog_14_method_64_code 23 = some (.iinc 3 1, 3) := by decide +kernel
theorem dm_X12_valueNamed_26 : mj_dec prog_14_method_64_code 26 = some (.goto (-24), 3) := by decide +kernel
theorem dm_X12_valueNamed_29 : mj_dec prog_14_method_64_code 29 = some (.iconst (-1), 1) := by decide +kernel
theorem dm_X12_valueNamed_30 : mj_dec prog_14_method_64_code 30 = some (.ireturn, 1) := by decide +kernel
theorem r_valueNamed_ {xt : mj_X} {d n m : Nat} {pre post : mj_H} {s : RS} {key : Int64} (hm : pre.length = 102) (hd1 : 1 ≤ d) (hvn : s.1 23 = (n : Int)) (hfn : s.1 24 = (m : Int)) (hn : n ≤ 40) (hm2 : m ≤ 40) : pgP xt d 236 [.ref 102, .long key] (rS pre post s) (ii (fndR (s.2.2.2 19) n key)) := by
  refine x_enter pm_X12_valueNamed (L0 := [(0, .ref 102), (1, .long key)]) rfl (Nat.le_of_ble_eq_true rfl) (by omega) ?_
  refine me0 (pc' := 1) (S' := [ii 0]) dm_X12_valueNamed_0 rfl rfl rfl rfl ?_
  refine me1 (pc' := 2) (L' := [(3, ii 0), (0, .ref 102), (1, .long key)]) (S' := []) dm_X12_valueNamed_1 rfl rfl rfl rfl ?_
  have lp2 : ∀ (n2 : Nat) (k : Nat), n - k = n2 → (k ≤ n) → (∀ j, j < k → decide ((s.2.2.2 19) j = key) = false) → pgE xt (d - 1) 12 4 false (Option.some Jvm.ClassFile.FieldType.int) (mj_dec prog_14_method_64_code) 2 [(0, .ref 102), (1, .long key), (3, ii (k : Int))] [] (rI pre post s.1 s.2.1 s.2.2.1 s.2.2.2) (fun r h' => r = some (ii (fndR (s.2.2.2 19) n key)) ∧ h' = rS pre post s) := by
    intro n2
    induction n2 using Nat.strongRecOn with
    | ind n2 ih2 =>
      intro k hm2 hk hno
      refine me1 (pc' := 3) (L' := [(0, .ref 102), (1, .long key), (3, ii (k : Int))]) (S' := [ii (k : Int)]) dm_X12_valueNamed_2 rfl rfl rfl rfl ?_
      refine me1 (pc' := 4) (L' := [(0, .ref 102), (1, .long key), (3, ii (k : Int))]) (S' := [.ref 102, ii (k : Int)]) dm_X12_valueNamed_3 rfl rfl rfl rfl ?_
      refine me3 (pc' := 7) (S' := [ii (s.1 23), ii (k : Int)]) dm_X12_valueNamed_4 (q_geti (v := s.1 23) hm rfl (fun m i l => rg_23 m i l) rfl) rfl rfl rfl ?_
      refine y_2ge (a := (k : Int)) (b := s.1 23) (t := 29) (pc' := 10) dm_X12_valueNamed_7 rfl rfl (by omega) (fun hb1 => ?_) (fun hb1 => ?_)
      · refine me0 (pc' := 30) (S' := [ii (-1)]) dm_X12_valueNamed_29 rfl rfl rfl rfl ?_
        refine y_ret (r := some (ii (-1))) dm_X12_valueNamed_30 rfl rfl rfl ?_
        have hfk : fndK (s.2.2.2 19) n key = n := fstN_no (fun j hj => hno j (by omega))
        exact ⟨congrArg some (n_ii (by rw [fndR_n (by omega)])), rfl⟩
      · refine me1 (pc' := 11) (L' := [(0, .ref 102), (1, .long key), (3, ii (k : Int))]) (S' := [.ref 102]) dm_X12_valueNamed_10 rfl rfl rfl rfl ?_
        refine me3 (pc' := 14) (S' := [.ref (102 + 8)]) dm_X12_valueNamed_11 (q_getr hm rfl (fun m i l => rg_19 m i l)) rfl rfl rfl ?_
        refine me1 (pc' := 15) (L' := [(0, .ref 102), (1, .long key), (3, ii (k : Int))]) (S' := [ii (k : Int), .ref (102 + 8)]) dm_X12_valueNamed_14 rfl rfl rfl rfl ?_
        refine me3 (pc' := 16) (S' := [.long ((s.2.2.2 19) k)]) dm_X12_valueNamed_15 (q_lald (v := (s.2.2.2 19) k) (k := 19) (n := 40) hm (fun m i l I J => rc_19 m i l I J) (by omega) (by omega) (by decide) rfl) rfl rfl rfl ?_
        refine me1 (pc' := 17) (L' := [(0, .ref 102), (1, .long key), (3, ii (k : Int))]) (S' := [.long key, .long ((s.2.2.2 19) k)]) dm_X12_valueNamed_16 rfl rfl rfl rfl ?_
        refine y_lne (x := (s.2.2.2 19) k) (y := key) (t := 23) (pc1 := 18) (pc' := 21) dm_X12_valueNamed_17 rfl dm_X12_valueNamed_18 rfl rfl (fun hb2 => ?_) (fun hb2 => ?_)
        · refine y_iinc (pc' := 26) (L' := [(3, ii ((k : Int) + 1)), (0, .ref 102), (1, .long key)]) dm_X12_valueNamed_23 (y_incp (a := (k : Int)) (c := 1) rfl rfl (by decide)) rfl ?_
          refine me2 (pc' := 2) (S' := []) dm_X12_valueNamed_26 rfl rfl rfl ?_
          exact pg_sub (L := [(0, .ref 102), (1, .long key), (3, ii ((k + 1) : Int))]) rfl rfl rfl (ih2 (n - (k + 1)) (by omega) (k + 1) rfl (by omega) (fun j hj => by by_cases z : j = k; (subst z; exact decide_eq_false (by assumption)); exact hno j (by omega)))
        · refine me1 (pc' := 22) (L' := [(0, .ref 102), (1, .long key), (3, ii (k : Int))]) (S' := [ii (k : Int)]) dm_X12_valueNamed_21 rfl rfl rfl rfl ?_
          refine y_ret (r := some (ii (k : Int))) dm_X12_valueNamed_22 rfl rfl rfl ?_
          have hfk : fndK (s.2.2.2 19) n key = k := fstN_at (by omega) hno (decide_eq_true (by assumption))
          exact ⟨congrArg some (n_ii (by rw [fndR_y (by omega), hfk])), rfl⟩
  exact pg_sub (L := [(0, .ref 102), (1, .long key), (3, ii (0 : Int))]) rfl rfl rfl (lp2 _ 0 rfl (Nat.zero_le _) (fun j hj => absurd hj (Nat.not_lt_zero j)))
set_option maxRecDepth 20000 in
theorem pm_X12_functionNamed : mj_mmof pg_ms 211 = some ((⟨"ArrayCalculatorModel", "functionNamed", "(J)I"⟩, prog_14_method_65_code, 4, (Option.some Jvm.ClassFile.FieldType.int)), 12, false, mj_dec prog_14_method_65_code) := rfl
theorem dm_X12_functionNamed_0 : mj_dec prog_14_method_65_code 0 = some (.iconst 0, 1) := by decide +kernel
theorem dm_X12_functionNamed_1 : mj_dec prog_14_method_65_code 1 = some (.istore_n 3, 1) := by decide +kernel
theorem dm_X12_functionNamed_2 : mj_dec prog_14_method_65_code 2 = some (.iload_n 3, 1) := by decide +kernel
theorem dm_X12_functionNamed_3 : mj_dec prog_14_method_65_code 3 = some (.aload_n 0, 1) := by decide +kernel
theorem dm_X12_functionNamed_4 : mj_dec prog_14_method_65_code 4 = some (.getfield 360, 3) := by decide +kernel
theorem dm_X12_functionNamed_7 : mj_dec prog_14_method_65_code 7 = some (.if_icmp .ge 22, 3) := by decide +kernel
theorem dm_X12_functionNamed_10 : mj_dec prog_14_method_65_code 10 = some (.aload_n 0, 1) := by decide +kernel
theorem dm_X12_functionNamed_11 : mj_dec prog_14_method_65_code 11 = some (.getfield 46, 3) := by decide +kernel
theorem dm_X12_functionNamed_14 : mj_dec prog_14_method_65_code 14 = some (.iload_n 3, 1) := by decide +kernel
theorem dm_X12_functionNamed_15 : mj_dec prog_14_method_65_code 15 = some (.laload, 1) := by decide +kernel
theorem dm_X12_functionNamed_16 : mj_dec prog_14_method_65_code 16 = some (.lload_n 1, 1) := by decide +kernel
theorem dm_X12_functionNamed_17 : mj_dec prog_14_method_65_code 17 = some (.lcmp, 1) := by decide +kernel
theorem dm_X12_functionNamed_18 : mj_dec prog_14_method_65_code 18 = some (.ifCond .ne 5, 3) := by decide +kernel
theorem dm_X12_functionNamed_21 : mj_dec prog_14_method_65_code 21 = some (.iload_n 3, 1) := by decide +kernel
theorem dm_X12_functionNamed_22 : mj_dec prog_14_method_65_code 22 = some (.ireturn, 1) := by decide +kernel
theorem dm_X12_functionNamed_23 : mj_dec prog_14_method_65_code 23 = some (.iinc 3 1, 3) := by decide +kernel
theorem dm_X12_functionNamed_26 : mj_dec prog_14_method_65_code 26 = some (.goto (-24), 3) := by decide +kernel
theorem dm_X12_functionNamed_29 : mj_dec prog_14_method_65_code 29 = some (.iconst (-1), 1) := by decide +kernel
theorem dm_X12_functionNamed_30 : mj_dec prog_14_method_65_code 30 = some (.ireturn, 1) := by decide +kernel
theorem r_functionNamed_ {xt : mj_X} {d n m : Nat} {pre post : mj_H} {s : RS} {key : Int64} (hm : pre.length = 102) (hd1 : 1 ≤ d) (hvn : s.1 23 = (n : Int)) (hfn : s.1 24 = (m : Int)) (hn : n ≤ 40) (hm2 : m ≤ 40) : pgP xt d 211 [.ref 102, .long key] (rS pre post s) (ii (fndR (s.2.2.2 20) m key)) := by
  refine x_enter pm_X12_functionNamed (L0 := [(0, .ref 102), (1, .long key)]) rfl (Nat.le_of_ble_eq_true rfl) (by omega) ?_
  refine me0 (pc' := 1) (S' := [ii 0]) dm_X12_functionNamed_0 rfl rfl rfl rfl ?_
  refine me1 (pc' := 2) (L' := [(3, ii 0), (0, .ref 102), (1, .long key)]) (S' := []) dm_X12_functionNamed_1 rfl rfl rfl rfl ?_
  have lp2 : ∀ (n2 : Nat) (k : Nat), m - k = n2 → (k ≤ m) → (∀ j, j < k → decide ((s.2.2.2 20) j = key) = false) → pgE xt (d - 1) 12 4 false (Option.some Jvm.ClassFile.FieldType.int) (mj_dec prog_14_method_65_code) 2 [(0, .ref 102), (1, .long key), (3, ii (k : Int))] [] (rI pre post s.1 s.2.1 s.2.2.1 s.2.2.2) (fun r h' => r = some (ii (fndR (s.2.2.2 20) m key)) ∧ h' = rS pre post s) := by
    intro n2
    induction n2 using Nat.strongRecOn with
    | ind n2 ih2 =>
      intro k hm2 hk hno
      refine me1 (pc' := 3) (L' := [(0, .ref 102), (1, .long key), (3, ii (k : Int))]) (S' := [ii (k : Int)]) dm_X12_functionNamed_2 rfl rfl rfl rfl ?_
      refine me1 (pc' := 4) (L' := [(0, .ref 102), (1, .long key), (3, ii (k : Int))]) (S' := [.ref 102, ii (k : Int)]) dm_X12_functionNamed_3 rfl rfl rfl rfl ?_
      refine me3 (pc' := 7) (S' := [ii (s.1 24), ii (k : Int)]) dm_X12_functionNamed_4 (q_geti (v := s.1 24) hm rfl (fun m i l => rg_24 m i l) rfl) rfl rfl rfl ?_
      refine y_2ge (a := (k : Int)) (b := s.1 24) (t := 29) (pc' := 10) dm_X12_functionNamed_7 rfl rfl (by omega) (fun hb1 => ?_) (fun hb1 => ?_)
      · refine me0 (pc' := 30) (S' := [ii (-1)]) dm_X12_functionNamed_29 rfl rfl rfl rfl ?_
        refine y_ret (r := some (ii (-1))) dm_X12_functionNamed_30 rfl rfl rfl ?_
        have hfk : fndK (s.2.2.2 20) m key = m := fstN_no (fun j hj => hno j (by omega))
        exact ⟨congrArg some (n_ii (by rw [fndR_n (by omega)])), rfl⟩
      · refine me1 (pc' := 11) (L' := [(0, .ref 102), (1, .long key), (3, ii (k : Int))]) (S' := [.ref 102]) dm_X12_functionNamed_10 rfl rfl rfl rfl ?_
        refine me3 (pc' := 14) (S' := [.ref (102 + 9)]) dm_X12_functionNamed_11 (q_getr hm rfl (fun m i l => rg_20 m i l)) rfl rfl rfl ?_
        refine me1 (pc' := 15) (L' := [(0, .ref 102), (1, .long key), (3, ii (k : Int))]) (S' := [ii (k : Int), .ref (102 + 9)]) dm_X12_functionNamed_14 rfl rfl rfl rfl ?_
        refine me3 (pc' := 16) (S' := [.long ((s.2.2.2 20) k)]) dm_X12_functionNamed_15 (q_lald (v := (s.2.2.2 20) k) (k := 20) (n := 40) hm (fun m i l I J => rc_20 m i l I J) (by omega) (by omega) (by decide) rfl) rfl rfl rfl ?_
        refine me1 (pc' := 17) (L' := [(0, .ref 102), (1, .long key), (3, ii (k : Int))]) (S' := [.long key, .long ((s.2.2.2 20) k)]) dm_X12_functionNamed_16 rfl rfl rfl rfl ?_
        refine y_lne (x := (s.2.2.2 20) k) (y := key) (t := 23) (pc1 := 18) (pc' := 21) dm_X12_functionNamed_17 rfl dm_X12_functionNamed_18 rfl rfl (fun hb2 => ?_) (fun hb2 => ?_)
        · refine y_iinc (pc' := 26) (L' := [(3, ii ((k : Int) + 1)), (0, .ref 102), (1, .long key)]) dm_X12_functionNamed_23 (y_incp (a := (k : Int)) (c := 1) rfl rfl (by decide)) rfl ?_
          refine me2 (pc' := 2) (S' := []) dm_X12_functionNamed_26 rfl rfl rfl ?_
          exact pg_sub (L := [(0, .ref 102), (1, .long key), (3, ii ((k + 1) : Int))]) rfl rfl rfl (ih2 (m - (k + 1)) (by omega) (k + 1) rfl (by omega) (fun j hj => by by_cases z : j = k; (subst z; exact decide_eq_false (by assumption)); exact hno j (by omega)))
        · refine me1 (pc' := 22) (L' := [(0, .ref 102), (1, .long key), (3, ii (k : Int))]) (S' := [ii (k : Int)]) dm_X12_functionNamed_21 rfl rfl rfl rfl ?_
          refine y_ret (r := some (ii (k : Int))) dm_X12_functionNamed_22 rfl rfl rfl ?_
          have hfk : fndK (s.2.2.2 20) m key = k := fstN_at (by omega) hno (decide_eq_true (by assumption))
          exact ⟨congrArg some (n_ii (by rw [fndR_y (by omega), hfk])), rfl⟩
  exact pg_sub (L := [(0, .ref 102), (1, .long key), (3, ii (0 : Int))]) rfl rfl rfl (lp2 _ 0 rfl (Nat.zero_le _) (fun j hj => absurd hj (Nat.not_lt_zero j)))
