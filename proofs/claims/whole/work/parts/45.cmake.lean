/-! numbers that fit an int, all of a row's, the form of a number row -/
def fitsB (x : Int64) : Bool := decide (-2147483648 ≤ x.toInt ∧ x.toInt ≤ 2147483647)
def allF (m : Nat) (f : Nat → Int64) : Bool := match m with
  | 0 => true
  | m + 1 => allF m f && fitsB (f m)
def vform (m : Nat) (f : Nat → Int64) : Nat := if allF m f = true then 4 else 5
theorem fitsB_iff {x : Int64} : fitsB x = true ↔ fits x := by unfold fitsB fits; rw [decide_eq_true_iff]
theorem allF_iff {m : Nat} {f : Nat → Int64} : allF m f = true ↔ ∀ k, k < m → fits (f k) := by
  induction m with
  | zero => exact ⟨fun _ k hk => absurd hk (Nat.not_lt_zero k), fun _ => rfl⟩
  | succ m ih =>
    show (allF m f && fitsB (f m)) = true ↔ _
    rw [Bool.and_eq_true, ih, fitsB_iff]
    constructor
    · intro h k hk
      by_cases z : k = m
      · subst z; exact h.2
      · exact h.1 k (by omega)
    · intro h
      exact ⟨fun k hk => h k (by omega), h m (by omega)⟩
theorem vform_le {m : Nat} {f : Nat → Int64} : 4 ≤ vform m f ∧ vform m f ≤ 5 := by unfold vform; split <;> omega
theorem vform_4 {m : Nat} {f : Nat → Int64} (h : ∀ k, k < m → fits (f k)) : vform m f = 4 := by unfold vform; rw [if_pos (allF_iff.mpr h)]
theorem vform_5 {m k : Nat} {f : Nat → Int64} (hk : k < m) (h : ¬ fits (f k)) : vform m f = 5 := by unfold vform; rw [if_neg (fun z => h (allF_iff.mp z k hk))]
theorem allF_congr {m : Nat} {f g : Nat → Int64} (h : ∀ k, k < m → f k = g k) : allF m f = allF m g := by
  induction m with
  | zero => rfl
  | succ m ih =>
    show (allF m f && fitsB (f m)) = (allF m g && fitsB (g m))
    rw [ih (fun k hk => h k (by omega)), h m (by omega)]
theorem vform_congr {m : Nat} {f g : Nat → Int64} (h : ∀ k, k < m → f k = g k) : vform m f = vform m g := by unfold vform; rw [allF_congr h]
set_option maxRecDepth 20000 in
theorem pm_X10_formOf : mj_mmof pg_ms 48 = some ((⟨"ArrayCalculator$Value", "formOf", "([JII)I"⟩, prog_12_method_9_code, 4, (Option.some Jvm.ClassFile.FieldType.int)), 10, false, mj_dec prog_12_method_9_code) := rfl
theorem dm_X10_formOf_0 : mj_dec prog_12_method_9_code 0 = some (.iload_n 1, 1) := by decide +kernel
theorem dm_X10_formOf_1 : mj_dec prog_12_method_9_code 1 = some (.istore_n 3, 1) := by decide +kernel
theorem dm_X10_formOf_2 : mj_dec prog_12_method_9_code 2 = some (.iload_n 3, 1) := by decide +kernel
theorem dm_X10_formOf_3 : mj_dec prog_12_method_9_code 3 = some (.iload_n 1, 1) := by decide +kernel
theorem dm_X10_formOf_4 : mj_dec prog_12_method_9_code 4 = some (.iload_n 2, 1) := by decide +kernel
theorem dm_X10_formOf_5 : mj_dec prog_12_method_9_code 5 = some (.iadd, 1) := by decide +kernel
theorem dm_X10_formOf_6 : mj_dec prog_12_method_9_code 6 = some (.if_icmp .ge 37, 3) := by decide +kernel
theorem dm_X10_formOf_9 : mj_dec prog_12_method_9_code 9 = some (.iload_n 3, 1) := by decide +kernel
theorem dm_X10_formOf_10 : mj_dec prog_12_method_9_code 10 = some (.aload_n 0, 1) := by decide +kernel
theorem dm_X10_formOf_11 : mj_dec prog_12_method_9_code 11 = some (.arraylength, 1) := by decide +kernel
theorem dm_X10_formOf_12 : mj_dec prog_12_method_9_code 12 = some (.if_icmp .ge 31, 3) := by decide +kernel
theorem dm_X10_formOf_15 : mj_dec prog_12_method_9_code 15 = some (.aload_n 0, 1) := by decide +kernel
theorem dm_X10_formOf_16 : mj_dec prog_12_method_9_code 16 = some (.iload_n 3, 1) := by decide +kernel
theorem dm_X10_formOf_17 : mj_dec prog_12_method_9_code 17 = some (.laload, 1) := by decide +kernel
theorem dm_X10_formOf_18 : mj_dec prog_12_method_9_code 18 = some (.ldc2_w 54, 3) := by decide +kernel
theorem dm_X10_formOf_21 : mj_dec prog_12_method_9_code 21 = some (.lcmp, 1) := by decide +kernel
theorem dm_X10_formOf_22 : mj_dec prog_12_method_9_code 22 = some (.ifCond .lt 13, 3) := by decide +kernel
theorem dm_X10_formOf_25 : mj_dec prog_12_method_9_code 25 = some (.aload_n 0, 1) := by decide +kernel
theorem dm_X10_formOf_26 : mj_dec prog_12_method_9_code 26 = some (.iload_n 3, 1) := by decide +kernel
theorem dm_X10_formOf_27 : mj_dec prog_12_method_9_code 27 = some (.laload, 1) := by decide +kernel
theorem dm_X10_formOf_28 : mj_dec prog_12_method_9_code 28 = some (.ldc2_w 56, 3) := by decide +kernel
theorem dm_X10_formOf_31 : mj_dec prog_12_method_9_code 31 = some (.lcmp, 1) := by decide +kernel
theorem dm_X10_formOf_32 : mj_dec prog_12_method_9_code 32 = some (.ifCond .le 5, 3) := by decide +kernel
theorem dm_X10_formOf_35 : mj_dec prog_12_method_9_code 35 = some (.iconst 5, 1) := by decide +kernel
theorem dm_X10_formOf_36 : mj_dec prog_12_method_9_code 36 = some (.ireturn, 1) := by decide +kernel
theorem dm_X10_formOf_37 : mj_dec prog_12_method_9_code 37 = some (.iinc 3 1, 3) := by decide +kernel
theorem dm_X10_formOf_40 : mj_dec prog_12_method_9_code 40 = some (.goto (-38), 3) := by decide +kernel
theorem dm_X10_formOf_43 : mj_dec prog_12_method_9_code 43 = some (.iconst 4, 1) := by decide +kernel
theorem dm_X10_formOf_44 : mj_dec prog_12_method_9_code 44 = some (.ireturn, 1) := by decide +kernel
theorem c_formOf {xt : mj_X} {d row fr m n : Nat} {A : Nat → Prop} {h : mj_H} {f : Nat → Int64} {f1 : Nat → Value} (hx1 : xt 1 = some (.long, 0, f1)) (hd : 1 ≤ d) (hrow : rowAt A h row n f) (hfr : fr ≤ 1000) (hmm : m ≤ 1000) (hn : n ≤ 1000) (hb : 0 < m → fr + m ≤ n) : pgP xt d 48 [.ref row, ii (fr : Int), ii (m : Int)] h (ii (vform m (fun j => f (fr + j)) : Int)) := by
  have hmin : (Int64.ofInt (-2147483648)).toInt = -2147483648 := by decide
  have hmax : (Int64.ofInt 2147483647).toInt = 2147483647 := by decide
  refine x_enter pm_X10_formOf (L0 := [(0, .ref row), (1, ii (fr : Int)), (2, ii (m : Int))]) rfl (Nat.le_of_ble_eq_true rfl) (by omega) ?_
  refine me1 (pc' := 1) (L' := [(0, .ref row), (1, ii (fr : Int)), (2, ii (m : Int))]) (S' := [ii (fr : Int)]) dm_X10_formOf_0 rfl rfl rfl rfl ?_
  refine me1 (pc' := 2) (L' := [(3, ii (fr : Int)), (0, .ref row), (1, ii (fr : Int)), (2, ii (m : Int))]) (S' := []) dm_X10_formOf_1 rfl rfl rfl rfl ?_
  have lp2 : ∀ (n2 : Nat) (k : Nat), m - k = n2 → (k ≤ m) → (∀ j, j < k → fits (f (fr + j))) → pgE xt (d - 1) 10 4 false (Option.some Jvm.ClassFile.FieldType.int) (mj_dec prog_12_method_9_code) 2 [(0, .ref row), (1, ii (fr : Int)), (2, ii (m : Int)), (3, ii ((fr : Int) + (k : Int)))] [] h (fun r h' => r = some (ii (vform m (fun j => f (fr + j)) : Int)) ∧ h' = h) := by
    intro n2
    induction n2 using Nat.strongRecOn with
    | ind n2 ih2 =>
      intro k hm2 hk hall
      have hix : ((fr : Int) + (k : Int)).toNat = fr + k := by omega
      refine me1 (pc' := 3) (L' := [(0, .ref row), (1, ii (fr : Int)), (2, ii (m : Int)), (3, ii ((fr : Int) + (k : Int)))]) (S' := [ii ((fr : Int) + (k : Int))]) dm_X10_formOf_2 rfl rfl rfl rfl ?_
      refine me1 (pc' := 4) (L' := [(0, .ref row), (1, ii (fr : Int)), (2, ii (m : Int)), (3, ii ((fr : Int) + (k : Int)))]) (S' := [ii (fr : Int), ii ((fr : Int) + (k : Int))]) dm_X10_formOf_3 rfl rfl rfl rfl ?_
      refine me1 (pc' := 5) (L' := [(0, .ref row), (1, ii (fr : Int)), (2, ii (m : Int)), (3, ii ((fr : Int) + (k : Int)))]) (S' := [ii (m : Int), ii (fr : Int), ii ((fr : Int) + (k : Int))]) dm_X10_formOf_4 rfl rfl rfl rfl ?_
      refine y_iadd (a := (fr : Int)) (b := (m : Int)) dm_X10_formOf_5 (pc' := 6) rfl ?_
      refine y_2ge (a := (fr : Int) + (k : Int)) (b := (fr : Int) + (m : Int)) (t := 43) (pc' := 9) dm_X10_formOf_6 rfl rfl (by omega) (fun hb1 => ?_) (fun hb1 => ?_)
      · refine me0 (pc' := 44) (S' := [ii 4]) dm_X10_formOf_43 rfl rfl rfl rfl ?_
        refine y_ret (r := some (ii 4)) dm_X10_formOf_44 rfl rfl rfl ?_
        refine ⟨congrArg some (n_ii ?_), rfl⟩
        rw [vform_4 (f := fun j => f (fr + j)) (fun j hj => hall j (by omega))]
        rfl
      · refine me1 (pc' := 10) (L' := [(0, .ref row), (1, ii (fr : Int)), (2, ii (m : Int)), (3, ii ((fr : Int) + (k : Int)))]) (S' := [ii ((fr : Int) + (k : Int))]) dm_X10_formOf_9 rfl rfl rfl rfl ?_
        refine me1 (pc' := 11) (L' := [(0, .ref row), (1, ii (fr : Int)), (2, ii (m : Int)), (3, ii ((fr : Int) + (k : Int)))]) (S' := [.ref row, ii ((fr : Int) + (k : Int))]) dm_X10_formOf_10 rfl rfl rfl rfl ?_
        refine me3 (pc' := 12) (S' := [ii (n : Int), ii ((fr : Int) + (k : Int))]) dm_X10_formOf_11 (yh_rlen hx1 hrow) rfl rfl rfl ?_
        refine y_2ge (a := (fr : Int) + (k : Int)) (b := (n : Int)) (t := 43) (pc' := 15) dm_X10_formOf_12 rfl rfl (by omega) (fun hb2 => ?_) (fun hb2 => ?_)
        · refine me0 (pc' := 44) (S' := [ii 4]) dm_X10_formOf_43 rfl rfl rfl rfl ?_
          refine y_ret (r := some (ii 4)) dm_X10_formOf_44 rfl rfl rfl ?_
          refine ⟨congrArg some (n_ii ?_), rfl⟩
          rw [vform_4 (f := fun j => f (fr + j)) (fun j hj => hall j (by omega))]
          rfl
        · refine me1 (pc' := 16) (L' := [(0, .ref row), (1, ii (fr : Int)), (2, ii (m : Int)), (3, ii ((fr : Int) + (k : Int)))]) (S' := [.ref row]) dm_X10_formOf_15 rfl rfl rfl rfl ?_
          refine me1 (pc' := 17) (L' := [(0, .ref row), (1, ii (fr : Int)), (2, ii (m : Int)), (3, ii ((fr : Int) + (k : Int)))]) (S' := [ii ((fr : Int) + (k : Int)), .ref row]) dm_X10_formOf_16 rfl rfl rfl rfl ?_
          refine me3 (pc' := 18) (S' := [.long (f (((fr : Int) + (k : Int)).toNat))]) dm_X10_formOf_17 (yh_rald (w := f (((fr : Int) + (k : Int)).toNat)) hrow (by omega) (by omega) rfl) rfl rfl rfl ?_
          refine me3 (pc' := 21) (S' := [.long (Int64.ofInt (-2147483648)), .long (f (((fr : Int) + (k : Int)).toNat))]) dm_X10_formOf_18 rfl rfl rfl rfl ?_
          refine y_llt (x := f (((fr : Int) + (k : Int)).toNat)) (y := Int64.ofInt (-2147483648)) (t := 35) (pc1 := 22) (pc' := 25) dm_X10_formOf_21 rfl dm_X10_formOf_22 rfl rfl (fun hb3 => ?_) (fun hb3 => ?_)
          · refine me0 (pc' := 36) (S' := [ii 5]) dm_X10_formOf_35 rfl rfl rfl rfl ?_
            refine y_ret (r := some (ii 5)) dm_X10_formOf_36 rfl rfl rfl ?_
            refine ⟨congrArg some (n_ii ?_), rfl⟩
            rw [vform_5 (k := k) (f := fun j => f (fr + j)) (by omega) (fun z => by have z1 : fits (f (fr + k)) := z; rw [← hix] at z1; unfold fits at z1; rw [hmin, hmax] at *; omega)]
            rfl
          · refine me1 (pc' := 26) (L' := [(0, .ref row), (1, ii (fr : Int)), (2, ii (m : Int)), (3, ii ((fr : Int) + (k : Int)))]) (S' := [.ref row]) dm_X10_formOf_25 rfl rfl rfl rfl ?_
            refine me1 (pc' := 27) (L' := [(0, .ref row), (1, ii (fr : Int)), (2, ii (m : Int)), (3, ii ((fr : Int) + (k : Int)))]) (S' := [ii ((fr : Int) + (k : Int)), .ref row]) dm_X10_formOf_26 rfl rfl rfl rfl ?_
            refine me3 (pc' := 28) (S' := [.long (f (((fr : Int) + (k : Int)).toNat))]) dm_X10_formOf_27 (yh_rald (w := f (((fr : Int) + (k : Int)).toNat)) hrow (by omega) (by omega) rfl) rfl rfl rfl ?_
            refine me3 (pc' := 31) (S' := [.long (Int64.ofInt 2147483647), .long (f (((fr : Int) + (k : Int)).toNat))]) dm_X10_formOf_28 rfl rfl rfl rfl ?_
            refine y_lle (x := f (((fr : Int) + (k : Int)).toNat)) (y := Int64.ofInt 2147483647) (t := 37) (pc1 := 32) (pc' := 35) dm_X10_formOf_31 rfl dm_X10_formOf_32 rfl rfl (fun hb4 => ?_) (fun hb4 => ?_)
            · have hcur : fits (f (fr + k)) := by rw [← hix]; unfold fits; rw [hmin, hmax] at *; omega
              refine y_iinc (pc' := 40) (L' := [(3, ii ((fr : Int) + (k : Int) + 1)), (0, .ref row), (1, ii (fr : Int)), (2, ii (m : Int))]) dm_X10_formOf_37 (y_incp (a := ((fr : Int) + (k : Int))) (c := 1) rfl rfl (by decide)) rfl ?_
              refine me2 (pc' := 2) (S' := []) dm_X10_formOf_40 rfl rfl rfl ?_
              exact pg_sub (L := [(0, .ref row), (1, ii (fr : Int)), (2, ii (m : Int)), (3, ii ((fr : Int) + ((k + 1) : Int)))]) rfl rfl rfl (ih2 (m - (k + 1)) (by omega) (k + 1) rfl (by omega) (fun j hj => by by_cases z : j = k; (subst z; exact hcur); exact hall j (by omega)))
            · refine me0 (pc' := 36) (S' := [ii 5]) dm_X10_formOf_35 rfl rfl rfl rfl ?_
              refine y_ret (r := some (ii 5)) dm_X10_formOf_36 rfl rfl rfl ?_
              refine ⟨congrArg some (n_ii ?_), rfl⟩
              rw [vform_5 (k := k) (f := fun j => f (fr + j)) (by omega) (fun z => by have z1 : fits (f (fr + k)) := z; rw [← hix] at z1; unfold fits at z1; rw [hmin, hmax] at *; omega)]
              rfl
  exact pg_sub (L := [(0, .ref row), (1, ii (fr : Int)), (2, ii (m : Int)), (3, ii ((fr : Int) + (0 : Int)))]) rfl rfl rfl (lp2 _ 0 rfl (by omega) (fun j hj => absurd hj (Nat.not_lt_zero j)))
