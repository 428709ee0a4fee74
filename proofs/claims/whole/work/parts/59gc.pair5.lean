/-- that of two whose form the answer has -/
def lkV (v w : VV) : VV := if vk v ≤ 1 then w else v
theorem p_askFlat {xt : mj_X} {d e p : Nat} {A : Nat → Prop} {h : mj_H} {v : VV} {q m0 : Nat} {w : VV} {ar : Int} {N0 : Nat → Int64} {f1 : Nat → Value} (hx1 : xt 1 = some (.long, 0, f1)) (hd : 4 ≤ d) (hA : okA A h) (hv : cv A h (e + 1) p v) (hw : cv A h (e + 1) q w) {o nq : Nat} {vb sz lv vm_ nu vu : Int} {rw_ : Bool} {ro va : Value} (hoq : (o = 23 ∧ nq = 24) ∨ (o = 27 ∧ nq = 28)) (ho : h[o]? = some (PO vb 0 nq sz lv (m0 : Int) vm_ rw_ ro va nu vu)) (hnq : h[nq]? = some (cJ 1000 N0)) (hm0 : m0 ≤ 1000) (hvb : -2147483648 ≤ vb ∧ vb ≤ 2147483647) (hlv : 0 ≤ lv ∧ lv ≤ 1000) (har : 0 ≤ ar ∧ ar ≤ 1000) : pgN xt d 88 [.ref o, .ref p, .ref q, ii ar] h (fun h' => ∃ (m : Nat) (N : Nat → Int64), h' = (h.set o (PO vb (flE vb v w (lkV v w) (vq (lkV v w))) nq (sz + (vsz (e + 1) (lkV v w) : Int)) (max lv (ar + (vlv (e + 1) (lkV v w) : Int))) (m : Int) vm_ (rw_ || decide (0 < vq (lkV v w) ∧ ¬ vk (lkV v w) ≤ 1)) ro va nu vu)).set nq (cJ 1000 N) ∧ m ≤ 1000 ∧ flN vb v w (lkV v w) m0 N0 (vq (lkV v w)) m N) := by
  by_cases hlk : vk v ≤ 1
  · have hz : lkV v w = w := if_pos hlk
    rw [hz]; exact p_askFlat1 hx1 hd hA hv hw hoq ho hnq hm0 hvb hlv har hlk
  · have hz : lkV v w = v := if_neg hlk
    rw [hz]; exact p_askFlat2 hx1 hd hA hv hw hoq ho hnq hm0 hvb hlv har hlk
set_option maxRecDepth 20000 in
theorem pm_X5_ready : mj_mmof pg_ms 86 = some ((⟨"ArrayCalculator$Paired", "ready", "(I)V"⟩, prog_7_method_2_code, 2, (Option.none : Option Jvm.ClassFile.FieldType)), 5, false, mj_dec prog_7_method_2_code) := rfl
theorem dm_X5_ready_0 : mj_dec prog_7_method_2_code 0 = some (.aload_n 0, 1) := by decide +kernel
theorem dm_X5_ready_1 : mj_dec prog_7_method_2_code 1 = some (.iload_n 1, 1) := by decide +kernel
theorem dm_X5_ready_2 : mj_dec prog_7_method_2_code 2 = some (.putfield 21, 3) := by decide +kernel
theorem dm_X5_ready_5 : mj_dec prog_7_method_2_code 5 = some (.aload_n 0, 1) := by decide +kernel
theorem dm_X5_ready_6 : mj_dec prog_7_method_2_code 6 = some (.iconst 0, 1) := by decide +kernel
theorem dm_X5_ready_7 : mj_dec prog_7_method_2_code 7 = some (.putfield 25, 3) := by decide +kernel
theorem dm_X5_ready_10 : mj_dec prog_7_method_2_code 10 = some (.aload_n 0, 1) := by decide +kernel
theorem dm_X5_ready_11 : mj_dec prog_7_method_2_code 11 = some (.iconst 0, 1) := by decide +kernel
theorem dm_X5_ready_12 : mj_dec prog_7_method_2_code 12 = some (.putfield 28, 3) := by decide +kernel
theorem dm_X5_ready_15 : mj_dec prog_7_method_2_code 15 = some (.aload_n 0, 1) := by decide +kernel
theorem dm_X5_ready_16 : mj_dec prog_7_method_2_code 16 = some (.iconst 0, 1) := by decide +kernel
theorem dm_X5_ready_17 : mj_dec prog_7_method_2_code 17 = some (.putfield 31, 3) := by decide +kernel
theorem dm_X5_ready_20 : mj_dec prog_7_method_2_code 20 = some (.aload_n 0, 1) := by decide +kernel
theorem dm_X5_ready_21 : mj_dec prog_7_method_2_code 21 = some (.iconst 0, 1) := by decide +kernel
theorem dm_X5_ready_22 : mj_dec prog_7_method_2_code 22 = some (.putfield 34, 3) := by decide +kernel
theorem dm_X5_ready_25 : mj_dec prog_7_method_2_code 25 = some (.aload_n 0, 1) := by decide +kernel
theorem dm_X5_ready_26 : mj_dec prog_7_method_2_code 26 = some (.iconst 0, 1) := by decide +kernel
theorem dm_X5_ready_27 : mj_dec prog_7_method_2_code 27 = some (.putfield 37, 3) := by decide +kernel
theorem dm_X5_ready_30 : mj_dec prog_7_method_2_code 30 = some (.aload_n 0, 1) := by decide +kernel
theorem dm_X5_ready_31 : mj_dec prog_7_method_2_code 31 = some (.iconst 0, 1) := by decide +kernel
theorem dm_X5_ready_32 : mj_dec prog_7_method_2_code 32 = some (.putfield 40, 3) := by decide +kernel
theorem dm_X5_ready_35 : mj_dec prog_7_method_2_code 35 = some (.aload_n 0, 1) := by decide +kernel
theorem dm_X5_ready_36 : mj_dec prog_7_method_2_code 36 = some (.iconst 0, 1) := by decide +kernel
theorem dm_X5_ready_37 : mj_dec prog_7_method_2_code 37 = some (.putfield 44, 3) := by decide +kernel
theorem dm_X5_ready_40 : mj_dec prog_7_method_2_code 40 = some (.aload_n 0, 1) := by decide +kernel
theorem dm_X5_ready_41 : mj_dec prog_7_method_2_code 41 = some (.iconst 0, 1) := by decide +kernel
theorem dm_X5_ready_42 : mj_dec prog_7_method_2_code 42 = some (.putfield 47, 3) := by decide +kernel
theorem dm_X5_ready_45 : mj_dec prog_7_method_2_code 45 = some (.return_, 1) := by decide +kernel
theorem p_ready {xt : mj_X} {d : Nat} {h : mj_H} {ac : Int} (hd : 1 ≤ d) {o nq : Nat} {vb f sz lv nm vm_ nu vu : Int} {rw_ : Bool} {ro va : Value} (ho2 : 2 ≤ o) (ho : h[o]? = some (PO vb f nq sz lv nm vm_ rw_ ro va nu vu)) : pgN xt d 86 [.ref o, ii ac] h (fun h' => h' = h.set o (PO ac 0 nq 0 0 0 0 false ro va 0 0)) := by
  refine x_enter pm_X5_ready (L0 := [(0, .ref o), (1, ii ac)]) rfl (Nat.le_of_ble_eq_true rfl) (by omega) ?_
  refine me1 (pc' := 1) (L' := [(0, .ref o), (1, ii ac)]) (S' := [.ref o]) dm_X5_ready_0 rfl rfl rfl rfl ?_
  refine me1 (pc' := 2) (L' := [(0, .ref o), (1, ii ac)]) (S' := [ii ac, .ref o]) dm_X5_ready_1 rfl rfl rfl rfl ?_
  refine me3 (pc' := 5) (S' := []) (h1 := (h).set o (cO 5 [ii ac, ii f, .ref nq, ii sz, ii lv, ii nm, ii vm_, zz rw_, ro, va, ii nu, ii vu])) dm_X5_ready_2 (g_put (fs' := [ii ac, ii f, .ref nq, ii sz, ii lv, ii nm, ii vm_, zz rw_, ro, va, ii nu, ii vu]) ho rfl rfl rfl (by simp) rfl (by decide) (fun z => by cases z) (by omega)) rfl rfl rfl ?_
  refine me1 (pc' := 6) (L' := [(0, .ref o), (1, ii ac)]) (S' := [.ref o]) dm_X5_ready_5 rfl rfl rfl rfl ?_
  refine me0 (pc' := 7) (S' := [ii 0, .ref o]) dm_X5_ready_6 rfl rfl rfl rfl ?_
  refine me3 (pc' := 10) (S' := []) (h1 := (h).set o (cO 5 [ii ac, ii 0, .ref nq, ii sz, ii lv, ii nm, ii vm_, zz rw_, ro, va, ii nu, ii vu])) dm_X5_ready_7 (g_put (fs' := [ii ac, ii 0, .ref nq, ii sz, ii lv, ii nm, ii vm_, zz rw_, ro, va, ii nu, ii vu]) (hl_set (hl_lt ho)) rfl (by rw [List.set_set]) rfl (by simp) rfl (by decide) (fun z => by cases z) (by omega)) rfl rfl rfl ?_
  refine me1 (pc' := 11) (L' := [(0, .ref o), (1, ii ac)]) (S' := [.ref o]) dm_X5_ready_10 rfl rfl rfl rfl ?_
  refine me0 (pc' := 12) (S' := [ii 0, .ref o]) dm_X5_ready_11 rfl rfl rfl rfl ?_
  refine me3 (pc' := 15) (S' := []) (h1 := (h).set o (cO 5 [ii ac, ii 0, .ref nq, ii 0, ii lv, ii nm, ii vm_, zz rw_, ro, va, ii nu, ii vu])) dm_X5_ready_12 (g_put (fs' := [ii ac, ii 0, .ref nq, ii 0, ii lv, ii nm, ii vm_, zz rw_, ro, va, ii nu, ii vu]) (hl_set (hl_lt ho)) rfl (by rw [List.set_set]) rfl (by simp) rfl (by decide) (fun z => by cases z) (by omega)) rfl rfl rfl ?_
  refine me1 (pc' := 16) (L' := [(0, .ref o), (1, ii ac)]) (S' := [.ref o]) dm_X5_ready_15 rfl rfl rfl rfl ?_
  refine me0 (pc' := 17) (S' := [ii 0, .ref o]) dm_X5_ready_16 rfl rfl rfl rfl ?_
  refine me3 (pc' := 20) (S' := []) (h1 := (h).set o (cO 5 [ii ac, ii 0, .ref nq, ii 0, ii 0, ii nm, ii vm_, zz rw_, ro, va, ii nu, ii vu])) dm_X5_ready_17 (g_put (fs' := [ii ac, ii 0, .ref nq, ii 0, ii 0, ii nm, ii vm_, zz rw_, ro, va, ii nu, ii vu]) (hl_set (hl_lt ho)) rfl (by rw [List.set_set]) rfl (by simp) rfl (by decide) (fun z => by cases z) (by omega)) rfl rfl rfl ?_
  refine me1 (pc' := 21) (L' := [(0, .ref o), (1, ii ac)]) (S' := [.ref o]) dm_X5_ready_20 rfl rfl rfl rfl ?_
  refine me0 (pc' := 22) (S' := [ii 0, .ref o]) dm_X5_ready_21 rfl rfl rfl rfl ?_
  refine me3 (pc' := 25) (S' := []) (h1 := (h).set o (cO 5 [ii ac, ii 0, .ref nq, ii 0, ii 0, ii 0, ii vm_, zz rw_, ro, va, ii nu, ii vu])) dm_X5_ready_22 (g_put (fs' := [ii ac, ii 0, .ref nq, ii 0, ii 0, ii 0, ii vm_, zz rw_, ro, va, ii nu, ii vu]) (hl_set (hl_lt ho)) rfl (by rw [List.set_set]) rfl (by simp) rfl (by decide) (fun z => by cases z) (by omega)) rfl rfl rfl ?_
  refine me1 (pc' := 26) (L' := [(0, .ref o), (1, ii ac)]) (S' := [.ref o]) dm_X5_ready_25 rfl rfl rfl rfl ?_
  refine me0 (pc' := 27) (S' := [ii 0, .ref o]) dm_X5_ready_26 rfl rfl rfl rfl ?_
  refine me3 (pc' := 30) (S' := []) (h1 := (h).set o (cO 5 [ii ac, ii 0, .ref nq, ii 0, ii 0, ii 0, ii 0, zz rw_, ro, va, ii nu, ii vu])) dm_X5_ready_27 (g_put (fs' := [ii ac, ii 0, .ref nq, ii 0, ii 0, ii 0, ii 0, zz rw_, ro, va, ii nu, ii vu]) (hl_set (hl_lt ho)) rfl (by rw [List.set_set]) rfl (by simp) rfl (by decide) (fun z => by cases z) (by omega)) rfl rfl rfl ?_
  refine me1 (pc' := 31) (L' := [(0, .ref o), (1, ii ac)]) (S' := [.ref o]) dm_X5_ready_30 rfl rfl rfl rfl ?_
  refine me0 (pc' := 32) (S' := [ii 0, .ref o]) dm_X5_ready_31 rfl rfl rfl rfl ?_
  refine me3 (pc' := 35) (S' := []) (h1 := (h).set o (cO 5 [ii ac, ii 0, .ref nq, ii 0, ii 0, ii 0, ii 0, ii 0, ro, va, ii nu, ii vu])) dm_X5_ready_32 (g_put (fs' := [ii ac, ii 0, .ref nq, ii 0, ii 0, ii 0, ii 0, ii 0, ro, va, ii nu, ii vu]) (hl_set (hl_lt ho)) rfl (by rw [List.set_set]) rfl (by simp) rfl (by decide) (fun z => by cases z) (by omega)) rfl rfl rfl ?_
  refine me1 (pc' := 36) (L' := [(0, .ref o), (1, ii ac)]) (S' := [.ref o]) dm_X5_ready_35 rfl rfl rfl rfl ?_
  refine me0 (pc' := 37) (S' := [ii 0, .ref o]) dm_X5_ready_36 rfl rfl rfl rfl ?_
  refine me3 (pc' := 40) (S' := []) (h1 := (h).set o (cO 5 [ii ac, ii 0, .ref nq, ii 0, ii 0, ii 0, ii 0, ii 0, ro, va, ii 0, ii vu])) dm_X5_ready_37 (g_put (fs' := [ii ac, ii 0, .ref nq, ii 0, ii 0, ii 0, ii 0, ii 0, ro, va, ii 0, ii vu]) (hl_set (hl_lt ho)) rfl (by rw [List.set_set]) rfl (by simp) rfl (by decide) (fun z => by cases z) (by omega)) rfl rfl rfl ?_
  refine me1 (pc' := 41) (L' := [(0, .ref o), (1, ii ac)]) (S' := [.ref o]) dm_X5_ready_40 rfl rfl rfl rfl ?_
  refine me0 (pc' := 42) (S' := [ii 0, .ref o]) dm_X5_ready_41 rfl rfl rfl rfl ?_
  refine me3 (pc' := 45) (S' := []) (h1 := (h).set o (cO 5 [ii ac, ii 0, .ref nq, ii 0, ii 0, ii 0, ii 0, ii 0, ro, va, ii 0, ii 0])) dm_X5_ready_42 (g_put (fs' := [ii ac, ii 0, .ref nq, ii 0, ii 0, ii 0, ii 0, ii 0, ro, va, ii 0, ii 0]) (hl_set (hl_lt ho)) rfl (by rw [List.set_set]) rfl (by simp) rfl (by decide) (fun z => by cases z) (by omega)) rfl rfl rfl ?_
  refine y_ret (r := none) dm_X5_ready_45 rfl rfl rfl ?_
  exact ⟨rfl, rfl⟩
set_option maxRecDepth 20000 in
theorem pm_X5_error : mj_mmof pg_ms 102 = some ((⟨"ArrayCalculator$Paired", "error", "()I"⟩, prog_7_method_6_code, 1, (Option.some Jvm.ClassFile.FieldType.int)), 5, false, mj_dec prog_7_method_6_code) := rfl
theorem dm_X5_error_0 : mj_dec prog_7_method_6_code 0 = some (.aload_n 0, 1) := by decide +kernel
theorem dm_X5_error_1 : mj_dec prog_7_method_6_code 1 = some (.getfield 25, 3) := by decide +kernel
theorem dm_X5_error_4 : mj_dec prog_7_method_6_code 4 = some (.ireturn, 1) := by decide +kernel
theorem p_error {xt : mj_X} {d : Nat} {h : mj_H} (hd : 1 ≤ d) {o nq : Nat} {vb f sz lv nm vm_ nu vu : Int} {rw_ : Bool} {ro va : Value} (ho2 : 2 ≤ o) (ho : h[o]? = some (PO vb f nq sz lv nm vm_ rw_ ro va nu vu)) : pgP xt d 102 [.ref o] h (ii f) := by
  refine x_enter pm_X5_error (L0 := [(0, .ref o)]) rfl (Nat.le_of_ble_eq_true rfl) (by omega) ?_
  refine me1 (pc' := 1) (L' := [(0, .ref o)]) (S' := [.ref o]) dm_X5_error_0 rfl rfl rfl rfl ?_
  refine me3 (pc' := 4) (S' := [ii f]) dm_X5_error_1 (g_get (v := ii f) ho rfl rfl (by omega)) rfl rfl rfl ?_
  refine y_ret (r := some (ii f)) dm_X5_error_4 rfl rfl rfl ?_
  exact ⟨rfl, rfl⟩
