theorem y_ldiv {xt : mj_X} {d own nL : Nat} {ini : Bool} {ret : Option FieldType} {cf : Nat → Option (Instr × Nat)} {pc pc' : Nat} {L : mj_L} {S : List Value} {h : mj_H} {P : Option Value → mj_H → Prop} {x y : Int64} (hc : cf pc = some (.ldiv, 1)) (hp : pc + 1 = pc') (hy : ¬ y = 0) (k : pgE xt d own nL ini ret cf pc' L (.long (x / y) :: S) h P) : pgE xt d own nL ini ret cf pc L (.long y :: .long x :: S) h P := by
  refine me0 hc ?_ rfl rfl hp k
  show ((if y = 0 then none else some (Value.long (x / y))).map fun v => v :: S) = _
  rw [if_neg hy]; rfl
theorem y_lrem {xt : mj_X} {d own nL : Nat} {ini : Bool} {ret : Option FieldType} {cf : Nat → Option (Instr × Nat)} {pc pc' : Nat} {L : mj_L} {S : List Value} {h : mj_H} {P : Option Value → mj_H → Prop} {x y : Int64} (hc : cf pc = some (.lrem, 1)) (hp : pc + 1 = pc') (hy : ¬ y = 0) (k : pgE xt d own nL ini ret cf pc' L (.long (x - x / y * y) :: S) h P) : pgE xt d own nL ini ret cf pc L (.long y :: .long x :: S) h P := by
  refine me0 hc ?_ rfl rfl hp k
  show ((if y = 0 then none else some (Value.long (x - x / y * y))).map fun v => v :: S) = _
  rw [if_neg hy]; rfl
theorem l_rng (x : Int64) : -9223372036854775808 ≤ x.toInt ∧ x.toInt ≤ 9223372036854775807 := by
  have h1 := x.le_toInt
  have h2 := x.toInt_lt
  omega
theorem l_add (x y : Int64) : x + y = Int64.ofInt (x.toInt + y.toInt) := by rw [Int64.ofInt_add, Int64.ofInt_toInt, Int64.ofInt_toInt]
theorem l_sub (x y : Int64) : x - y = Int64.ofInt (x.toInt - y.toInt) := by rw [Int64.ofInt_sub, Int64.ofInt_toInt, Int64.ofInt_toInt]
theorem l_mul (x y : Int64) : x * y = Int64.ofInt (x.toInt * y.toInt) := by rw [Int64.ofInt_mul, Int64.ofInt_toInt, Int64.ofInt_toInt]
/-- beyond 64 bits -/
def ovf (z : Int) : Bool := decide (z < -9223372036854775808 ∨ 9223372036854775807 < z)
theorem l_addI {x y : Int64} (h : -9223372036854775808 ≤ x.toInt + y.toInt ∧ x.toInt + y.toInt ≤ 9223372036854775807) : (x + y).toInt = x.toInt + y.toInt := by rw [l_add, n_toL h.1 h.2]
theorem l_subI {x y : Int64} (h : -9223372036854775808 ≤ x.toInt - y.toInt ∧ x.toInt - y.toInt ≤ 9223372036854775807) : (x - y).toInt = x.toInt - y.toInt := by rw [l_sub, n_toL h.1 h.2]
theorem l_mulI {x y : Int64} (h : -9223372036854775808 ≤ x.toInt * y.toInt ∧ x.toInt * y.toInt ≤ 9223372036854775807) : (x * y).toInt = x.toInt * y.toInt := by rw [l_mul, n_toL h.1 h.2]
theorem l_divI {x y : Int64} (h : y.toInt ≠ -1) : (x / y).toInt = x.toInt.tdiv y.toInt := by
  refine Int64.toInt_div_of_ne_right x y (fun z => h ?_)
  rw [z]; rfl
/-- a product divided again: the factor, just when it is within 64 bits -/
theorem mul_div_ovf {a b : Int64} (hb0 : b.toInt ≠ 0) (hb1 : b.toInt ≠ -1) : (a * b / b = a) ↔ (-9223372036854775808 ≤ a.toInt * b.toInt ∧ a.toInt * b.toInt ≤ 9223372036854775807) := by
  have rb := l_rng b
  constructor
  · intro h
    have h1 := congrArg Int64.toInt h
    rw [l_divI hb1] at h1
    have h2 := Int.mul_tdiv_add_tmod (a * b).toInt b.toInt
    rw [h1] at h2
    have h3 : (a * b).toInt = (a.toInt * b.toInt).bmod (2 ^ 64) := by rw [l_mul]; exact Int64.toInt_ofInt
    have h4 : ((a * b).toInt.tmod b.toInt).natAbs < b.toInt.natAbs := by
      rw [Int.natAbs_tmod]
      exact Nat.mod_lt _ (by omega)
    have h5 := Int.bmod_add_bdiv (a.toInt * b.toInt) (2 ^ 64)
    rw [← h3] at h5
    have h6 : b.toInt * a.toInt = a.toInt * b.toInt := Int.mul_comm _ _
    have rw1 := l_rng (a * b)
    generalize (a * b).toInt.tmod b.toInt = t at h2 h4
    generalize (a.toInt * b.toInt).bdiv (2 ^ 64) = u at h5
    have h7 : ((2 : Int) ^ 64) * u + t = 0 ∨ True := Or.inr trivial
    have h8 : u = 0 := by
      have e1 : (((2 : Nat) ^ 64 : Nat) : Int) * u = -t := by omega
      have e2 : (((2 : Nat) ^ 64 : Nat) : Int) = 18446744073709551616 := rfl
      rw [e2] at e1
      omega
    rw [h8, Int.mul_zero, Int.add_zero] at h5
    rw [← h5]
    exact rw1
  · intro h
    apply Int64.toInt_inj.mp
    rw [l_divI hb1, l_mulI h, Int.mul_tdiv_cancel _ hb0]
/-- down to the whole one below, and what is left -/
def qotI (x y : Int) : Int := if x.tmod y ≠ 0 ∧ ¬ (x < 0 ↔ y < 0) then x.tdiv y - 1 else x.tdiv y
def rstI (x y : Int) : Int := if x.tmod y ≠ 0 ∧ ¬ (x.tmod y < 0 ↔ y < 0) then x.tmod y + y else x.tmod y
theorem tdiv_rng {x y : Int} (hx : -9223372036854775808 ≤ x) (hx2 : x ≤ 9223372036854775807) (h : ¬ (x = -9223372036854775808 ∧ y = -1)) : -9223372036854775808 ≤ x.tdiv y ∧ x.tdiv y ≤ 9223372036854775807 := by
  have h1 := Int.natAbs_tdiv x y
  have h2 := Nat.div_le_self x.natAbs y.natAbs
  by_cases z : x = -9223372036854775808
  · by_cases w : y.natAbs ≤ 1
    · by_cases u : y = 0
      · rw [u, Int.tdiv_zero]; omega
      · have : y = 1 := by omega
        rw [this, Int.tdiv_one]; omega
    · have h3 : x.natAbs / y.natAbs ≤ x.natAbs / 2 := Nat.div_le_div_left (by omega) (by omega)
      have h4 : (x.tdiv y).natAbs = x.natAbs / y.natAbs := h1
      omega
  · have h4 : (x.tdiv y).natAbs = x.natAbs / y.natAbs := h1
    omega
set_option maxRecDepth 20000 in
theorem pm_X5_beyondSum : mj_mmof pg_ms 93 = some ((⟨"ArrayCalculator$Paired", "beyondSum", "(JJ)Z"⟩, prog_7_method_13_code, 4, (Option.some Jvm.ClassFile.FieldType.boolean)), 5, false, mj_dec prog_7_method_13_code) := rfl
theorem dm_X5_beyondSum_0 : mj_dec prog_7_method_13_code 0 = some (.lload_n 2, 1) := by decide +kernel
theorem dm_X5_beyondSum_1 : mj_dec prog_7_method_13_code 1 = some (.lconst 0, 1) := by decide +kernel
theorem dm_X5_beyondSum_2 : mj_dec prog_7_method_13_code 2 = some (.lcmp, 1) := by decide +kernel
theorem dm_X5_beyondSum_3 : mj_dec prog_7_method_13_code 3 = some (.ifCond .le 21, 3) := by decide +kernel
theorem dm_X5_beyondSum_6 : mj_dec prog_7_method_13_code 6 = some (.lload_n 0, 1) := by decide +kernel
theorem dm_X5_beyondSum_7 : mj_dec prog_7_method_13_code 7 = some (.ldc2_w 179, 3) := by decide +kernel
theorem dm_X5_beyondSum_10 : mj_dec prog_7_method_13_code 10 = some (.lload_n 2, 1) := by decide +kernel
theorem dm_X5_beyondSum_11 : mj_dec prog_7_method_13_code 11 = some (.lsub, 1) := by decide +kernel
theorem dm_X5_beyondSum_12 : mj_dec prog_7_method_13_code 12 = some (.lcmp, 1) := by decide +kernel
theorem dm_X5_beyondSum_13 : mj_dec prog_7_method_13_code 13 = some (.ifCond .le 7, 3) := by decide +kernel
theorem dm_X5_beyondSum_16 : mj_dec prog_7_method_13_code 16 = some (.iconst 1, 1) := by decide +kernel
theorem dm_X5_beyondSum_17 : mj_dec prog_7_method_13_code 17 = some (.goto 22, 3) := by decide +kernel
theorem dm_X5_beyondSum_20 : mj_dec prog_7_method_13_code 20 = some (.iconst 0, 1) := by decide +kernel
theorem dm_X5_beyondSum_21 : mj_dec prog_7_method_13_code 21 = some (.goto 18, 3) := by decide +kernel
theorem dm_X5_beyondSum_24 : mj_dec prog_7_method_13_code 24 = some (.lload_n 0, 1) := by decide +kernel
theorem dm_X5_beyondSum_25 : mj_dec prog_7_method_13_code 25 = some (.ldc2_w 175, 3) := by decide +kernel
theorem dm_X5_beyondSum_28 : mj_dec prog_7_method_13_code 28 = some (.lload_n 2, 1) := by decide +kernel
theorem dm_X5_beyondSum_29 : mj_dec prog_7_method_13_code 29 = some (.lsub, 1) := by decide +kernel
theorem dm_X5_beyondSum_30 : mj_dec prog_7_method_13_code 30 = some (.lcmp, 1) := by decide +kernel
theorem dm_X5_beyondSum_31 : mj_dec prog_7_method_13_code 31 = some (.ifCond .ge 7, 3) := by decide +kernel
theorem dm_X5_beyondSum_34 : mj_dec prog_7_method_13_code 34 = some (.iconst 1, 1) := by decide +kernel
theorem dm_X5_beyondSum_35 : mj_dec prog_7_method_13_code 35 = some (.goto 4, 3) := by decide +kernel
theorem dm_X5_beyondSum_38 : mj_dec prog_7_method_13_code 38 = some (.iconst 0, 1) := by decide +kernel
theorem dm_X5_beyondSum_39 : mj_dec prog_7_method_13_code 39 = some (.ireturn, 1) := by decide +kernel
theorem p_beyondSum {xt : mj_X} {d : Nat} {h : mj_H} {a b : Int64} (hd : 1 ≤ d) : pgP xt d 93 [.long a, .long b] h (zz (ovf (a.toInt + b.toInt))) := by
  have h0 : (Int64.ofInt 0).toInt = 0 := by decide
  have hm1 : (Int64.ofInt (-1)).toInt = -1 := by decide
  have h1_ : (Int64.ofInt 1).toInt = 1 := by decide
  have hmx : (Int64.ofInt 9223372036854775807).toInt = 9223372036854775807 := by decide
  have hmn : (Int64.ofInt (-9223372036854775808)).toInt = -9223372036854775808 := by decide
  have r1 := l_rng a
  have r2 := l_rng b
  refine x_enter pm_X5_beyondSum (L0 := [(0, .long a), (2, .long b)]) rfl (Nat.le_of_ble_eq_true rfl) (by omega) ?_
  refine me1 (pc' := 1) (L' := [(0, .long a), (2, .long b)]) (S' := [.long b]) dm_X5_beyondSum_0 rfl rfl rfl rfl ?_
  refine me0 (pc' := 2) (S' := [.long (Int64.ofInt 0), .long b]) dm_X5_beyondSum_1 rfl rfl rfl rfl ?_
  refine y_lle (x := b) (y := Int64.ofInt 0) (t := 24) (pc1 := 3) (pc' := 6) dm_X5_beyondSum_2 rfl dm_X5_beyondSum_3 rfl rfl (fun hb1 => ?_) (fun hb1 => ?_)
  · refine me1 (pc' := 25) (L' := [(0, .long a), (2, .long b)]) (S' := [.long a]) dm_X5_beyondSum_24 rfl rfl rfl rfl ?_
    refine me3 (pc' := 28) (S' := [.long (Int64.ofInt (-9223372036854775808)), .long a]) dm_X5_beyondSum_25 rfl rfl rfl rfl ?_
    refine me1 (pc' := 29) (L' := [(0, .long a), (2, .long b)]) (S' := [.long b, .long (Int64.ofInt (-9223372036854775808)), .long a]) dm_X5_beyondSum_28 rfl rfl rfl rfl ?_
    refine me0 (pc' := 30) (S' := [.long ((Int64.ofInt (-9223372036854775808)) - b), .long a]) dm_X5_beyondSum_29 rfl rfl rfl rfl ?_
    refine y_lge (x := a) (y := (Int64.ofInt (-9223372036854775808)) - b) (t := 38) (pc1 := 31) (pc' := 34) dm_X5_beyondSum_30 rfl dm_X5_beyondSum_31 rfl rfl (fun hb2 => ?_) (fun hb2 => ?_)
    · refine me0 (pc' := 39) (S' := [ii 0]) dm_X5_beyondSum_38 rfl rfl rfl rfl ?_
      refine y_ret (r := some (ii 0)) dm_X5_beyondSum_39 rfl rfl rfl ?_
      refine ⟨congrArg some ?_, rfl⟩
      rw [h0] at hb1
      unfold ovf
      first | (rw [l_subI (by rw [hmx]; omega), hmx] at hb2; exact zf (by omega)) | (rw [l_subI (by rw [hmn]; omega), hmn] at hb2; exact zf (by omega))
    · refine me0 (pc' := 35) (S' := [ii 1]) dm_X5_beyondSum_34 rfl rfl rfl rfl ?_
      refine me2 (pc' := 39) (S' := [ii 1]) dm_X5_beyondSum_35 rfl rfl rfl ?_
      refine y_ret (r := some (ii 1)) dm_X5_beyondSum_39 rfl rfl rfl ?_
      refine ⟨congrArg some ?_, rfl⟩
      rw [h0] at hb1
      unfold ovf
      first | (rw [l_subI (by rw [hmx]; omega), hmx] at hb2; exact zt (by omega)) | (rw [l_subI (by rw [hmn]; omega), hmn] at hb2; exact zt (by omega))
  · refine me1 (pc' := 7) (L' := [(0, .long a), (2, .long b)]) (S' := [.long a]) dm_X5_beyondSum_6 rfl rfl rfl rfl ?_
    refine me3 (pc' := 10) (S' := [.long (Int64.ofInt 9223372036854775807), .long a]) dm_X5_beyondSum_7 rfl rfl rfl rfl ?_
    refine me1 (pc' := 11) (L' := [(0, .long a), (2, .long b)]) (S' := [.long b, .long (Int64.ofInt 9223372036854775807), .long a]) dm_X5_beyondSum_10 rfl rfl rfl rfl ?_
    refine me0 (pc' := 12) (S' := [.long ((Int64.ofInt 9223372036854775807) - b), .long a]) dm_X5_beyondSum_11 rfl rfl rfl rfl ?_
    refine y_lle (x := a) (y := (Int64.ofInt 9223372036854775807) - b) (t := 20) (pc1 := 13) (pc' := 16) dm_X5_beyondSum_12 rfl dm_X5_beyondSum_13 rfl rfl (fun hb3 => ?_) (fun hb3 => ?_)
    · refine me0 (pc' := 21) (S' := [ii 0]) dm_X5_beyondSum_20 rfl rfl rfl rfl ?_
      refine me2 (pc' := 39) (S' := [ii 0]) dm_X5_beyondSum_21 rfl rfl rfl ?_
      refine y_ret (r := some (ii 0)) dm_X5_beyondSum_39 rfl rfl rfl ?_
      refine ⟨congrArg some ?_, rfl⟩
      rw [h0] at hb1
      unfold ovf
      first | (rw [l_subI (by rw [hmx]; omega), hmx] at hb3; exact zf (by omega)) | (rw [l_subI (by rw [hmn]; omega), hmn] at hb3; exact zf (by omega))
    · refine me0 (pc' := 17) (S' := [ii 1]) dm_X5_beyondSum_16 rfl rfl rfl rfl ?_
      refine me2 (pc' := 39) (S' := [ii 1]) dm_X5_beyondSum_17 rfl rfl rfl ?_
      refine y_ret (r := some (ii 1)) dm_X5_beyondSum_39 rfl rfl rfl ?_
      refine ⟨congrArg some ?_, rfl⟩
      rw [h0] at hb1
      unfold ovf
      first | (rw [l_subI (by rw [hmx]; omega), hmx] at hb3; exact zt (by omega)) | (rw [l_subI (by rw [hmn]; omega), hmn] at hb3; exact zt (by omega))
set_option maxRecDepth 20000 in
theorem pm_X5_beyondDifference : mj_mmof pg_ms 94 = some ((⟨"ArrayCalculator$Paired", "beyondDifference", "(JJ)Z"⟩, prog_7_method_14_code, 4, (Option.some Jvm.ClassFile.FieldType.boolean)), 5, false, mj_dec prog_7_method_14_code) := rfl
theorem dm_X5_beyondDifference_0 : mj_dec prog_7_method_14_code 0 = some (.lload_n 2, 1) := by decide +kernel
theorem dm_X5_beyondDifference_1 : mj_dec prog_7_method_14_code 1 = some (.lconst 0, 1) := by decide +kernel
theorem dm_X5_beyondDifference_2 : mj_dec prog_7_method_14_code 2 = some (.lcmp, 1) := by decide +kernel
theorem dm_X5_beyondDifference_3 : mj_dec prog_7_method_14_code 3 = some (.ifCond .le 21, 3) := by decide +kernel
theorem dm_X5_beyondDifference_6 : mj_dec prog_7_method_14_code 6 = some (.lload_n 0, 1) := by decide +kernel
theorem dm_X5_beyondDifference_7 : mj_dec prog_7_method_14_code 7 = some (.ldc2_w 175, 3) := by decide +kernel
theorem dm_X5_beyondDifference_10 : mj_dec prog_7_method_14_code 10 = some (.lload_n 2, 1) := by decide +kernel
theorem dm_X5_beyondDifference_11 : mj_dec prog_7_method_14_code 11 = some (.ladd, 1) := by decide +kernel
theorem dm_X5_beyondDifference_12 : mj_dec prog_7_method_14_code 12 = some (.lcmp, 1) := by decide +kernel
theorem dm_X5_beyondDifference_13 : mj_dec prog_7_method_14_code 13 = some (.ifCond .ge 7, 3) := by decide +kernel
theorem dm_X5_beyondDifference_16 : mj_dec prog_7_method_14_code 16 = some (.iconst 1, 1) := by decide +kernel
theorem dm_X5_beyondDifference_17 : mj_dec prog_7_method_14_code 17 = some (.goto 22, 3) := by decide +kernel
theorem dm_X5_beyondDifference_20 : mj_dec prog_7_method_14_code 20 = some (.iconst 0, 1) := by decide +kernel
theorem dm_X5_beyondDifference_21 : mj_dec prog_7_method_14_code 21 = some (.goto 18, 3) := by decide +kernel
theorem dm_X5_beyondDifference_24 : mj_dec prog_7_method_14_code 24 = some (.lload_n 0, 1) := by decide +kernel
theorem dm_X5_beyondDifference_25 : mj_dec prog_7_method_14_code 25 = some (.ldc2_w 179, 3) := by decide +kernel
theorem dm_X5_beyondDifference_28 : mj_dec prog_7_method_14_code 28 = some (.lload_n 2, 1) := by decide +kernel
theorem dm_X5_beyondDifference_29 : mj_dec prog_7_method_14_code 29 = some (.ladd, 1) := by decide +kernel
theorem dm_X5_beyondDifference_30 : mj_dec prog_7_method_14_code 30 = some (.lcmp, 1) := by decide +kernel
theorem dm_X5_beyondDifference_31 : mj_dec prog_7_method_14_code 31 = some (.ifCond .le 7, 3) := by decide +kernel
theorem dm_X5_beyondDifference_34 : mj_dec prog_7_method_14_code 34 = some (.iconst 1, 1) := by decide +kernel
theorem dm_X5_beyondDifference_35 : mj_dec prog_7_method_14_code 35 = some (.goto 4, 3) := by decide +kernel
theorem dm_X5_beyondDifference_38 : mj_dec prog_7_method_14_code 38 = some (.iconst 0, 1) := by decide +kernel
theorem dm_X5_beyondDifference_39 : mj_dec prog_7_method_14_code 39 = some (.ireturn, 1) := by decide +kernel
theorem p_beyondDifference {xt : mj_X} {d : Nat} {h : mj_H} {a b : Int64} (hd : 1 ≤ d) : pgP xt d 94 [.long a, .long b] h (zz (ovf (a.toInt - b.toInt))) := by
  have h0 : (Int64.ofInt 0).toInt = 0 := by decide
  have hm1 : (Int64.ofInt (-1)).toInt = -1 := by decide
  have h1_ : (Int64.ofInt 1).toInt = 1 := by decide
  have hmx : (Int64.ofInt 9223372036854775807).toInt = 9223372036854775807 := by decide
  have hmn : (Int64.ofInt (-9223372036854775808)).toInt = -9223372036854775808 := by decide
  have r1 := l_rng a
  have r2 := l_rng b
  refine x_enter pm_X5_beyondDifference (L0 := [(0, .long a), (2, .long b)]) rfl (Nat.le_of_ble_eq_true rfl) (by omega) ?_
  refine me1 (pc' := 1) (L' := [(0, .long a), (2, .long b)]) (S' := [.long b]) dm_X5_beyondDifference_0 rfl rfl rfl rfl ?_
  refine me0 (pc' := 2) (S' := [.long (Int64.ofInt 0), .long b]) dm_X5_beyondDifference_1 rfl rfl rfl rfl ?_
  refine y_lle (x := b) (y := Int64.ofInt 0) (t := 24) (pc1 := 3) (pc' := 6) dm_X5_beyondDifference_2 rfl dm_X5_beyondDifference_3 rfl rfl (fun hb1 => ?_) (fun hb1 => ?_)
  · refine me1 (pc' := 25) (L' := [(0, .long a), (2, .long b)]) (S' := [.long a]) dm_X5_beyondDifference_24 rfl rfl rfl rfl ?_
    refine me3 (pc' := 28) (S' := [.long (Int64.ofInt 9223372036854775807), .long a]) dm_X5_beyondDifference_25 rfl rfl rfl rfl ?_
    refine me1 (pc' := 29) (L' := [(0, .long a), (2, .long b)]) (S' := [.long b, .long (Int64.ofInt 9223372036854775807), .long a]) dm_X5_beyondDifference_28 rfl rfl rfl rfl ?_
    refine me0 (pc' := 30) (S' := [.long ((Int64.ofInt 9223372036854775807) + b), .long a]) dm_X5_beyondDifference_29 rfl rfl rfl rfl ?_
    refine y_lle (x := a) (y := (Int64.ofInt 9223372036854775807) + b) (t := 38) (pc1 := 31) (pc' := 34) dm_X5_beyondDifference_30 rfl dm_X5_beyondDifference_31 rfl rfl (fun hb2 => ?_) (fun hb2 => ?_)
    · refine me0 (pc' := 39) (S' := [ii 0]) dm_X5_beyondDifference_38 rfl rfl rfl rfl ?_
      refine y_ret (r := some (ii 0)) dm_X5_beyondDifference_39 rfl rfl rfl ?_
      refine ⟨congrArg some ?_, rfl⟩
      rw [h0] at hb1
      unfold ovf
      first | (rw [l_addI (by rw [hmx]; omega), hmx] at hb2; exact zf (by omega)) | (rw [l_addI (by rw [hmn]; omega), hmn] at hb2; exact zf (by omega))
    · refine me0 (pc' := 35) (S' := [ii 1]) dm_X5_beyondDifference_34 rfl rfl rfl rfl ?_
      refine me2 (pc' := 39) (S' := [ii 1]) dm_X5_beyondDifference_35 rfl rfl rfl ?_
      refine y_ret (r := some (ii 1)) dm_X5_beyondDifference_39 rfl rfl rfl ?_
      refine ⟨congrArg some ?_, rfl⟩
      rw [h0] at hb1
      unfold ovf
      first | (rw [l_addI (by rw [hmx]; omega), hmx] at hb2; exact zt (by omega)) | (rw [l_addI (by rw [hmn]; omega), hmn] at hb2; exact zt (by omega))
  · refine me1 (pc' := 7) (L' := [(0, .long a), (2, .long b)]) (S' := [.long a]) dm_X5_beyondDifference_6 rfl rfl rfl rfl ?_
    refine me3 (pc' := 10) (S' := [.long (Int64.ofInt (-9223372036854775808)), .long a]) dm_X5_beyondDifference_7 rfl rfl rfl rfl ?_
    refine me1 (pc' := 11) (L' := [(0, .long a), (2, .long b)]) (S' := [.long b, .long (Int64.ofInt (-9223372036854775808)), .long a]) dm_X5_beyondDifference_10 rfl rfl rfl rfl ?_
    refine me0 (pc' := 12) (S' := [.long ((Int64.ofInt (-9223372036854775808)) + b), .long a]) dm_X5_beyondDifference_11 rfl rfl rfl rfl ?_
    refine y_lge (x := a) (y := (Int64.ofInt (-9223372036854775808)) + b) (t := 20) (pc1 := 13) (pc' := 16) dm_X5_beyondDifference_12 rfl dm_X5_beyondDifference_13 rfl rfl (fun hb3 => ?_) (fun hb3 => ?_)
    · refine me0 (pc' := 21) (S' := [ii 0]) dm_X5_beyondDifference_20 rfl rfl rfl rfl ?_
      refine me2 (pc' := 39) (S' := [ii 0]) dm_X5_beyondDifference_21 rfl rfl rfl ?_
      refine y_ret (r := some (ii 0)) dm_X5_beyondDifference_39 rfl rfl rfl ?_
      refine ⟨congrArg some ?_, rfl⟩
      rw [h0] at hb1
      unfold ovf
      first | (rw [l_addI (by rw [hmx]; omega), hmx] at hb3; exact zf (by omega)) | (rw [l_addI (by rw [hmn]; omega), hmn] at hb3; exact zf (by omega))
    · refine me0 (pc' := 17) (S' := [ii 1]) dm_X5_beyondDifference_16 rfl rfl rfl rfl ?_
      refine me2 (pc' := 39) (S' := [ii 1]) dm_X5_beyondDifference_17 rfl rfl rfl ?_
      refine y_ret (r := some (ii 1)) dm_X5_beyondDifference_39 rfl rfl rfl ?_
      refine ⟨congrArg some ?_, rfl⟩
      rw [h0] at hb1
      unfold ovf
      first | (rw [l_addI (by rw [hmx]; omega), hmx] at hb3; exact zt (by omega)) | (rw [l_addI (by rw [hmn]; omega), hmn] at hb3; exact zt (by omega))
set_option maxRecDepth 20000 in
theorem pm_X5_beyondProduct : mj_mmof pg_ms 95 = some ((⟨"ArrayCalculator$Paired", "beyondProduct", "(JJ)Z"⟩, prog_7_method_15_code, 4, (Option.some Jvm.ClassFile.FieldType.boolean)), 5, false, mj_dec prog_7_method_15_code) := rfl
theorem dm_X5_beyondProduct_0 : mj_dec prog_7_method_15_code 0 = some (.lload_n 0, 1) := by decide +kernel
theorem dm_X5_beyondProduct_1 : mj_dec prog_7_method_15_code 1 = some (.lconst 0, 1) := by decide +kernel
theorem dm_X5_beyondProduct_2 : mj_dec prog_7_method_15_code 2 = some (.lcmp, 1) := by decide +kernel
theorem dm_X5_beyondProduct_3 : mj_dec prog_7_method_15_code 3 = some (.ifCond .eq 9, 3) := by decide +kernel
theorem dm_X5_beyondProduct_6 : mj_dec prog_7_method_15_code 6 = some (.lload_n 2, 1) := by decide +kernel
theorem dm_X5_beyondProduct_7 : mj_dec prog_7_method_15_code 7 = some (.lconst 0, 1) := by decide +kernel
theorem dm_X5_beyondProduct_8 : mj_dec prog_7_method_15_code 8 = some (.lcmp, 1) := by decide +kernel
theorem dm_X5_beyondProduct_9 : mj_dec prog_7_method_15_code 9 = some (.ifCond .ne 5, 3) := by decide +kernel
theorem dm_X5_beyondProduct_12 : mj_dec prog_7_method_15_code 12 = some (.iconst 0, 1) := by decide +kernel
theorem dm_X5_beyondProduct_13 : mj_dec prog_7_method_15_code 13 = some (.ireturn, 1) := by decide +kernel
theorem dm_X5_beyondProduct_14 : mj_dec prog_7_method_15_code 14 = some (.lload_n 0, 1) := by decide +kernel
theorem dm_X5_beyondProduct_15 : mj_dec prog_7_method_15_code 15 = some (.ldc2_w 177, 3) := by decide +kernel
theorem dm_X5_beyondProduct_18 : mj_dec prog_7_method_15_code 18 = some (.lcmp, 1) := by decide +kernel
theorem dm_X5_beyondProduct_19 : mj_dec prog_7_method_15_code 19 = some (.ifCond .eq 11, 3) := by decide +kernel
theorem dm_X5_beyondProduct_22 : mj_dec prog_7_method_15_code 22 = some (.lload_n 2, 1) := by decide +kernel
theorem dm_X5_beyondProduct_23 : mj_dec prog_7_method_15_code 23 = some (.ldc2_w 177, 3) := by decide +kernel
theorem dm_X5_beyondProduct_26 : mj_dec prog_7_method_15_code 26 = some (.lcmp, 1) := by decide +kernel
theorem dm_X5_beyondProduct_27 : mj_dec prog_7_method_15_code 27 = some (.ifCond .ne 25, 3) := by decide +kernel
theorem dm_X5_beyondProduct_30 : mj_dec prog_7_method_15_code 30 = some (.lload_n 0, 1) := by decide +kernel
theorem dm_X5_beyondProduct_31 : mj_dec prog_7_method_15_code 31 = some (.ldc2_w 175, 3) := by decide +kernel
theorem dm_X5_beyondProduct_34 : mj_dec prog_7_method_15_code 34 = some (.lcmp, 1) := by decide +kernel
theorem dm_X5_beyondProduct_35 : mj_dec prog_7_method_15_code 35 = some (.ifCond .eq 11, 3) := by decide +kernel
theorem dm_X5_beyondProduct_38 : mj_dec prog_7_method_15_code 38 = some (.lload_n 2, 1) := by decide +kernel
theorem dm_X5_beyondProduct_39 : mj_dec prog_7_method_15_code 39 = some (.ldc2_w 175, 3) := by decide +kernel
theorem dm_X5_beyondProduct_42 : mj_dec prog_7_method_15_code 42 = some (.lcmp, 1) := by decide +kernel
theorem dm_X5_beyondProduct_43 : mj_dec prog_7_method_15_code 43 = some (.ifCond .ne 7, 3) := by decide +kernel
theorem dm_X5_beyondProduct_46 : mj_dec prog_7_method_15_code 46 = some (.iconst 1, 1) := by decide +kernel
theorem dm_X5_beyondProduct_47 : mj_dec prog_7_method_15_code 47 = some (.goto 4, 3) := by decide +kernel
theorem dm_X5_beyondProduct_50 : mj_dec prog_7_method_15_code 50 = some (.iconst 0, 1) := by decide +kernel
theorem dm_X5_beyondProduct_51 : mj_dec prog_7_method_15_code 51 = some (.ireturn, 1) := by decide +kernel
theorem dm_X5_beyondProduct_52 : mj_dec prog_7_method_15_code 52 = some (.lload_n 0, 1) := by decide +kernel
theorem dm_X5_beyondProduct_53 : mj_dec prog_7_method_15_code 53 = some (.lload_n 2, 1) := by decide +kernel
theorem dm_X5_beyondProduct_54 : mj_dec prog_7_method_15_code 54 = some (.lmul, 1) := by decide +kernel
theorem dm_X5_beyondProduct_55 : mj_dec prog_7_method_15_code 55 = some (.lload_n 2, 1) := by decide +kernel
theorem dm_X5_beyondProduct_56 : mj_dec prog_7_method_15_code 56 = some (.ldiv, 1) := by decide +kernel
theorem dm_X5_beyondProduct_57 : mj_dec prog_7_method_15_code 57 = some (.lload_n 0, 1) := by decide +kernel
theorem dm_X5_beyondProduct_58 : mj_dec prog_7_method_15_code 58 = some (.lcmp, 1) := by decide +kernel
theorem dm_X5_beyondProduct_59 : mj_dec prog_7_method_15_code 59 = some (.ifCond .eq 7, 3) := by decide +kernel
theorem dm_X5_beyondProduct_62 : mj_dec prog_7_method_15_code 62 = some (.iconst 1, 1) := by decide +kernel
theorem dm_X5_beyondProduct_63 : mj_dec prog_7_method_15_code 63 = some (.goto 4, 3) := by decide +kernel
theorem dm_X5_beyondProduct_66 : mj_dec prog_7_method_15_code 66 = some (.iconst 0, 1) := by decide +kernel
theorem dm_X5_beyondProduct_67 : mj_dec prog_7_method_15_code 67 = some (.ireturn, 1) := by decide +kernel
theorem p_beyondProduct {xt : mj_X} {d : Nat} {h : mj_H} {a b : Int64} (hd : 1 ≤ d) : pgP xt d 95 [.long a, .long b] h (zz (ovf (a.toInt * b.toInt))) := by
  have h0 : (Int64.ofInt 0).toInt = 0 := by decide
  have hm1 : (Int64.ofInt (-1)).toInt = -1 := by decide
  have h1_ : (Int64.ofInt 1).toInt = 1 := by decide
  have hmx : (Int64.ofInt 9223372036854775807).toInt = 9223372036854775807 := by decide
  have hmn : (Int64.ofInt (-9223372036854775808)).toInt = -9223372036854775808 := by decide
  have r1 := l_rng a
  have r2 := l_rng b
  refine x_enter pm_X5_beyondProduct (L0 := [(0, .long a), (2, .long b)]) rfl (Nat.le_of_ble_eq_true rfl) (by omega) ?_
  refine me1 (pc' := 1) (L' := [(0, .long a), (2, .long b)]) (S' := [.long a]) dm_X5_beyondProduct_0 rfl rfl rfl rfl ?_
  refine me0 (pc' := 2) (S' := [.long (Int64.ofInt 0), .long a]) dm_X5_beyondProduct_1 rfl rfl rfl rfl ?_
  refine y_leq (x := a) (y := Int64.ofInt 0) (t := 12) (pc1 := 3) (pc' := 6) dm_X5_beyondProduct_2 rfl dm_X5_beyondProduct_3 rfl rfl (fun hb1 => ?_) (fun hb1 => ?_)
  · have hb1i := congrArg Int64.toInt hb1
    refine me0 (pc' := 13) (S' := [ii 0]) dm_X5_beyondProduct_12 rfl rfl rfl rfl ?_
    refine y_ret (r := some (ii 0)) dm_X5_beyondProduct_13 rfl rfl rfl ?_
    refine ⟨congrArg some ?_, rfl⟩
    unfold ovf
    have hz : a.toInt * b.toInt = 0 := by rcases (show a.toInt = 0 ∨ b.toInt = 0 by omega) with z | z; (rw [z, Int.zero_mul]); (rw [z, Int.mul_zero])
    exact zf (by omega)
  · have hb1i : ¬ (a).toInt = (Int64.ofInt 0).toInt := fun z => hb1 (Int64.toInt_inj.mp z)
    refine me1 (pc' := 7) (L' := [(0, .long a), (2, .long b)]) (S' := [.long b]) dm_X5_beyondProduct_6 rfl rfl rfl rfl ?_
    refine me0 (pc' := 8) (S' := [.long (Int64.ofInt 0), .long b]) dm_X5_beyondProduct_7 rfl rfl rfl rfl ?_
    refine y_lne (x := b) (y := Int64.ofInt 0) (t := 14) (pc1 := 9) (pc' := 12) dm_X5_beyondProduct_8 rfl dm_X5_beyondProduct_9 rfl rfl (fun hb2 => ?_) (fun hb2 => ?_)
    · have hb2i : ¬ (b).toInt = (Int64.ofInt 0).toInt := fun z => hb2 (Int64.toInt_inj.mp z)
      refine me1 (pc' := 15) (L' := [(0, .long a), (2, .long b)]) (S' := [.long a]) dm_X5_beyondProduct_14 rfl rfl rfl rfl ?_
      refine me3 (pc' := 18) (S' := [.long (Int64.ofInt (-1)), .long a]) dm_X5_beyondProduct_15 rfl rfl rfl rfl ?_
      refine y_leq (x := a) (y := Int64.ofInt (-1)) (t := 30) (pc1 := 19) (pc' := 22) dm_X5_beyondProduct_18 rfl dm_X5_beyondProduct_19 rfl rfl (fun hb3 => ?_) (fun hb3 => ?_)
      · have hb3i := congrArg Int64.toInt hb3
        refine me1 (pc' := 31) (L' := [(0, .long a), (2, .long b)]) (S' := [.long a]) dm_X5_beyondProduct_30 rfl rfl rfl rfl ?_
        refine me3 (pc' := 34) (S' := [.long (Int64.ofInt (-9223372036854775808)), .long a]) dm_X5_beyondProduct_31 rfl rfl rfl rfl ?_
        refine y_leq (x := a) (y := Int64.ofInt (-9223372036854775808)) (t := 46) (pc1 := 35) (pc' := 38) dm_X5_beyondProduct_34 rfl dm_X5_beyondProduct_35 rfl rfl (fun hb4 => ?_) (fun hb4 => ?_)
        · have hb4i := congrArg Int64.toInt hb4
          refine me0 (pc' := 47) (S' := [ii 1]) dm_X5_beyondProduct_46 rfl rfl rfl rfl ?_
          refine me2 (pc' := 51) (S' := [ii 1]) dm_X5_beyondProduct_47 rfl rfl rfl ?_
          refine y_ret (r := some (ii 1)) dm_X5_beyondProduct_51 rfl rfl rfl ?_
          refine ⟨congrArg some ?_, rfl⟩
          unfold ovf
          have hz : (a.toInt = -1 ∧ a.toInt * b.toInt = -b.toInt) ∨ (b.toInt = -1 ∧ a.toInt * b.toInt = -a.toInt) := by rcases (show a.toInt = -1 ∨ b.toInt = -1 by omega) with z | z; (exact Or.inl ⟨z, by rw [z]; omega⟩); (exact Or.inr ⟨z, by rw [z]; omega⟩)
          exact zt (by omega)
        · have hb4i : ¬ (a).toInt = (Int64.ofInt (-9223372036854775808)).toInt := fun z => hb4 (Int64.toInt_inj.mp z)
          refine me1 (pc' := 39) (L' := [(0, .long a), (2, .long b)]) (S' := [.long b]) dm_X5_beyondProduct_38 rfl rfl rfl rfl ?_
          refine me3 (pc' := 42) (S' := [.long (Int64.ofInt (-9223372036854775808)), .long b]) dm_X5_beyondProduct_39 rfl rfl rfl rfl ?_
          refine y_lne (x := b) (y := Int64.ofInt (-9223372036854775808)) (t := 50) (pc1 := 43) (pc' := 46) dm_X5_beyondProduct_42 rfl dm_X5_beyondProduct_43 rfl rfl (fun hb5 => ?_) (fun hb5 => ?_)
          · have hb5i : ¬ (b).toInt = (Int64.ofInt (-9223372036854775808)).toInt := fun z => hb5 (Int64.toInt_inj.mp z)
            refine me0 (pc' := 51) (S' := [ii 0]) dm_X5_beyondProduct_50 rfl rfl rfl rfl ?_
            refine y_ret (r := some (ii 0)) dm_X5_beyondProduct_51 rfl rfl rfl ?_
            refine ⟨congrArg some ?_, rfl⟩
            unfold ovf
            have hz : (a.toInt = -1 ∧ a.toInt * b.toInt = -b.toInt) ∨ (b.toInt = -1 ∧ a.toInt * b.toInt = -a.toInt) := by rcases (show a.toInt = -1 ∨ b.toInt = -1 by omega) with z | z; (exact Or.inl ⟨z, by rw [z]; omega⟩); (exact Or.inr ⟨z, by rw [z]; omega⟩)
            exact zf (by omega)
          · have hb5i := congrArg Int64.toInt hb5
            refine me0 (pc' := 47) (S' := [ii 1]) dm_X5_beyondProduct_46 rfl rfl rfl rfl ?_
            refine me2 (pc' := 51) (S' := [ii 1]) dm_X5_beyondProduct_47 rfl rfl rfl ?_
            refine y_ret (r := some (ii 1)) dm_X5_beyondProduct_51 rfl rfl rfl ?_
            refine ⟨congrArg some ?_, rfl⟩
            unfold ovf
            have hz : (a.toInt = -1 ∧ a.toInt * b.toInt = -b.toInt) ∨ (b.toInt = -1 ∧ a.toInt * b.toInt = -a.toInt) := by rcases (show a.toInt = -1 ∨ b.toInt = -1 by omega) with z | z; (exact Or.inl ⟨z, by rw [z]; omega⟩); (exact Or.inr ⟨z, by rw [z]; omega⟩)
            exact zt (by omega)
      · have hb3i : ¬ (a).toInt = (Int64.ofInt (-1)).toInt := fun z => hb3 (Int64.toInt_inj.mp z)
        refine me1 (pc' := 23) (L' := [(0, .long a), (2, .long b)]) (S' := [.long b]) dm_X5_beyondProduct_22 rfl rfl rfl rfl ?_
        refine me3 (pc' := 26) (S' := [.long (Int64.ofInt (-1)), .long b]) dm_X5_beyondProduct_23 rfl rfl rfl rfl ?_
        refine y_lne (x := b) (y := Int64.ofInt (-1)) (t := 52) (pc1 := 27) (pc' := 30) dm_X5_beyondProduct_26 rfl dm_X5_beyondProduct_27 rfl rfl (fun hb6 => ?_) (fun hb6 => ?_)
        · have hb6i : ¬ (b).toInt = (Int64.ofInt (-1)).toInt := fun z => hb6 (Int64.toInt_inj.mp z)
          refine me1 (pc' := 53) (L' := [(0, .long a), (2, .long b)]) (S' := [.long a]) dm_X5_beyondProduct_52 rfl rfl rfl rfl ?_
          refine me1 (pc' := 54) (L' := [(0, .long a), (2, .long b)]) (S' := [.long b, .long a]) dm_X5_beyondProduct_53 rfl rfl rfl rfl ?_
          refine me0 (pc' := 55) (S' := [.long (a * b)]) dm_X5_beyondProduct_54 rfl rfl rfl rfl ?_
          refine me1 (pc' := 56) (L' := [(0, .long a), (2, .long b)]) (S' := [.long b, .long (a * b)]) dm_X5_beyondProduct_55 rfl rfl rfl rfl ?_
          refine y_ldiv (x := a * b) (y := b) dm_X5_beyondProduct_56 (pc' := 57) rfl (fun z => by have hz9 := congrArg Int64.toInt z; have e9 : (0 : Int64).toInt = 0 := rfl; omega) ?_
          refine me1 (pc' := 58) (L' := [(0, .long a), (2, .long b)]) (S' := [.long a, .long ((a * b) / b)]) dm_X5_beyondProduct_57 rfl rfl rfl rfl ?_
          refine y_leq (x := (a * b) / b) (y := a) (t := 66) (pc1 := 59) (pc' := 62) dm_X5_beyondProduct_58 rfl dm_X5_beyondProduct_59 rfl rfl (fun hb7 => ?_) (fun hb7 => ?_)
          · have hb7i := congrArg Int64.toInt hb7
            refine me0 (pc' := 67) (S' := [ii 0]) dm_X5_beyondProduct_66 rfl rfl rfl rfl ?_
            refine y_ret (r := some (ii 0)) dm_X5_beyondProduct_67 rfl rfl rfl ?_
            refine ⟨congrArg some ?_, rfl⟩
            unfold ovf
            have hmd := mul_div_ovf (a := a) (b := b) (by omega) (by omega)
            first | (have hq := hmd.mp (by assumption); exact zf (by omega)) | (have hq : ¬ (-9223372036854775808 ≤ a.toInt * b.toInt ∧ a.toInt * b.toInt ≤ 9223372036854775807) := fun z => absurd (hmd.mpr z) (by assumption); exact zf (by omega))
          · have hb7i : ¬ ((a * b) / b).toInt = (a).toInt := fun z => hb7 (Int64.toInt_inj.mp z)
            refine me0 (pc' := 63) (S' := [ii 1]) dm_X5_beyondProduct_62 rfl rfl rfl rfl ?_
            refine me2 (pc' := 67) (S' := [ii 1]) dm_X5_beyondProduct_63 rfl rfl rfl ?_
            refine y_ret (r := some (ii 1)) dm_X5_beyondProduct_67 rfl rfl rfl ?_
            refine ⟨congrArg some ?_, rfl⟩
            unfold ovf
            have hmd := mul_div_ovf (a := a) (b := b) (by omega) (by omega)
            first | (have hq := hmd.mp (by assumption); exact zt (by omega)) | (have hq : ¬ (-9223372036854775808 ≤ a.toInt * b.toInt ∧ a.toInt * b.toInt ≤ 9223372036854775807) := fun z => absurd (hmd.mpr z) (by assumption); exact zt (by omega))
        · have hb6i := congrArg Int64.toInt hb6
          refine me1 (pc' := 31) (L' := [(0, .long a), (2, .long b)]) (S' := [.long a]) dm_X5_beyondProduct_30 rfl rfl rfl rfl ?_
          refine me3 (pc' := 34) (S' := [.long (Int64.ofInt (-9223372036854775808)), .long a]) dm_X5_beyondProduct_31 rfl rfl rfl rfl ?_
          refine y_leq (x := a) (y := Int64.ofInt (-9223372036854775808)) (t := 46) (pc1 := 35) (pc' := 38) dm_X5_beyondProduct_34 rfl dm_X5_beyondProduct_35 rfl rfl (fun hb8 => ?_) (fun hb8 => ?_)
          · have hb8i := congrArg Int64.toInt hb8
            refine me0 (pc' := 47) (S' := [ii 1]) dm_X5_beyondProduct_46 rfl rfl rfl rfl ?_
            refine me2 (pc' := 51) (S' := [ii 1]) dm_X5_beyondProduct_47 rfl rfl rfl ?_
            refine y_ret (r := some (ii 1)) dm_X5_beyondProduct_51 rfl rfl rfl ?_
            refine ⟨congrArg some ?_, rfl⟩
            unfold ovf
            have hz : (a.toInt = -1 ∧ a.toInt * b.toInt = -b.toInt) ∨ (b.toInt = -1 ∧ a.toInt * b.toInt = -a.toInt) := by rcases (show a.toInt = -1 ∨ b.toInt = -1 by omega) with z | z; (exact Or.inl ⟨z, by rw [z]; omega⟩); (exact Or.inr ⟨z, by rw [z]; omega⟩)
            exact zt (by omega)
          · have hb8i : ¬ (a).toInt = (Int64.ofInt (-9223372036854775808)).toInt := fun z => hb8 (Int64.toInt_inj.mp z)
            refine me1 (pc' := 39) (L' := [(0, .long a), (2, .long b)]) (S' := [.long b]) dm_X5_beyondProduct_38 rfl rfl rfl rfl ?_
            refine me3 (pc' := 42) (S' := [.long (Int64.ofInt (-9223372036854775808)), .long b]) dm_X5_beyondProduct_39 rfl rfl rfl rfl ?_
            refine y_lne (x := b) (y := Int64.ofInt (-9223372036854775808)) (t := 50) (pc1 := 43) (pc' := 46) dm_X5_beyondProduct_42 rfl dm_X5_beyondProduct_43 rfl rfl (fun hb9 => ?_) (fun hb9 => ?_)
            · have hb9i : ¬ (b).toInt = (Int64.ofInt (-9223372036854775808)).toInt := fun z => hb9 (Int64.toInt_inj.mp z)
              refine me0 (pc' := 51) (S' := [ii 0]) dm_X5_beyondProduct_50 rfl rfl rfl rfl ?_
              refine y_ret (r := some (ii 0)) dm_X5_beyondProduct_51 rfl rfl rfl ?_
              refine ⟨congrArg some ?_, rfl⟩
              unfold ovf
              have hz : (a.toInt = -1 ∧ a.toInt * b.toInt = -b.toInt) ∨ (b.toInt = -1 ∧ a.toInt * b.toInt = -a.toInt) := by rcases (show a.toInt = -1 ∨ b.toInt = -1 by omega) with z | z; (exact Or.inl ⟨z, by rw [z]; omega⟩); (exact Or.inr ⟨z, by rw [z]; omega⟩)
              exact zf (by omega)
            · have hb9i := congrArg Int64.toInt hb9
              refine me0 (pc' := 47) (S' := [ii 1]) dm_X5_beyondProduct_46 rfl rfl rfl rfl ?_
              refine me2 (pc' := 51) (S' := [ii 1]) dm_X5_beyondProduct_47 rfl rfl rfl ?_
              refine y_ret (r := some (ii 1)) dm_X5_beyondProduct_51 rfl rfl rfl ?_
              refine ⟨congrArg some ?_, rfl⟩
              unfold ovf
              have hz : (a.toInt = -1 ∧ a.toInt * b.toInt = -b.toInt) ∨ (b.toInt = -1 ∧ a.toInt * b.toInt = -a.toInt) := by rcases (show a.toInt = -1 ∨ b.toInt = -1 by omega) with z | z; (exact Or.inl ⟨z, by rw [z]; omega⟩); (exact Or.inr ⟨z, by rw [z]; omega⟩)
              exact zt (by omega)
    · have hb2i := congrArg Int64.toInt hb2
      refine me0 (pc' := 13) (S' := [ii 0]) dm_X5_beyondProduct_12 rfl rfl rfl rfl ?_
      refine y_ret (r := some (ii 0)) dm_X5_beyondProduct_13 rfl rfl rfl ?_
      refine ⟨congrArg some ?_, rfl⟩
      unfold ovf
      have hz : a.toInt * b.toInt = 0 := by rcases (show a.toInt = 0 ∨ b.toInt = 0 by omega) with z | z; (rw [z, Int.zero_mul]); (rw [z, Int.mul_zero])
      exact zf (by omega)
