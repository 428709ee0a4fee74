/-! the reference: sums, products, two numbers worked -/
theorem l_msb (x : Int64) : x.toBitVec.msb = decide (x.toInt < 0) := BitVec.msb_eq_toInt
theorem l_andn (x y : Int64) : (x &&& y).toInt < 0 ↔ x.toInt < 0 ∧ y.toInt < 0 := by
  have h := l_msb (x &&& y)
  rw [Int64.toBitVec_and, BitVec.msb_and, l_msb, l_msb] at h
  exact (decide_eq_decide.mp ((Bool.decide_and _ _).trans h)).symm
theorem l_xorn (x y : Int64) : (x ^^^ y).toInt < 0 ↔ ¬ (x.toInt < 0 ↔ y.toInt < 0) := by
  have h := l_msb (x ^^^ y)
  rw [Int64.toBitVec_xor, BitVec.msb_xor, l_msb, l_msb] at h
  by_cases a : x.toInt < 0
  · by_cases b : y.toInt < 0
    · rw [decide_eq_true a, decide_eq_true b] at h
      have c := of_decide_eq_false (show decide ((x ^^^ y).toInt < 0) = false from h.symm)
      exact ⟨fun z => absurd z c, fun z => absurd ⟨fun _ => b, fun _ => a⟩ z⟩
    · rw [decide_eq_true a, decide_eq_false b] at h
      have c := of_decide_eq_true (show decide ((x ^^^ y).toInt < 0) = true from h.symm)
      exact ⟨fun _ z => b (z.mp a), fun _ => c⟩
  · by_cases b : y.toInt < 0
    · rw [decide_eq_false a, decide_eq_true b] at h
      have c := of_decide_eq_true (show decide ((x ^^^ y).toInt < 0) = true from h.symm)
      exact ⟨fun _ z => a (z.mpr b), fun _ => c⟩
    · rw [decide_eq_false a, decide_eq_false b] at h
      have c := of_decide_eq_false (show decide ((x ^^^ y).toInt < 0) = false from h.symm)
      exact ⟨fun z => absurd z c, fun z => absurd ⟨fun y => absurd y a, fun y => absurd y b⟩ z⟩
theorem l_wrap (z : Int) : ∃ u : Int, (Int64.ofInt z).toInt = z - 18446744073709551616 * u := by
  have h5 := Int.bmod_add_bdiv z (2 ^ 64)
  have h3 : (Int64.ofInt z).toInt = z.bmod (2 ^ 64) := Int64.toInt_ofInt
  rw [← h3] at h5
  have e2 : (((2 : Nat) ^ 64 : Nat) : Int) = 18446744073709551616 := rfl
  rw [e2] at h5
  exact ⟨z.bdiv (2 ^ 64), by omega⟩
theorem ovf_iff {z : Int} : ovf z = true ↔ z < -9223372036854775808 ∨ 9223372036854775807 < z := by unfold ovf; exact decide_eq_true_iff
theorem l_ovs (x y : Int64) : ((x ^^^ (x + y)) &&& (y ^^^ (x + y))).toInt < 0 ↔ ovf (x.toInt + y.toInt) = true := by
  rw [l_andn, l_xorn, l_xorn, ovf_iff]
  obtain ⟨u, hu⟩ := l_wrap (x.toInt + y.toInt)
  rw [← l_add] at hu
  have r1 := l_rng x
  have r2 := l_rng y
  have r3 := l_rng (x + y)
  omega
theorem l_ovd (x y : Int64) : ((x ^^^ y) &&& (x ^^^ (x - y))).toInt < 0 ↔ ovf (x.toInt - y.toInt) = true := by
  rw [l_andn, l_xorn, l_xorn, ovf_iff]
  obtain ⟨u, hu⟩ := l_wrap (x.toInt - y.toInt)
  rw [← l_sub] at hu
  have r1 := l_rng x
  have r2 := l_rng y
  have r3 := l_rng (x - y)
  omega
theorem ovf_fi {z : Int} : ovf z = false ↔ -9223372036854775808 ≤ z ∧ z ≤ 9223372036854775807 := by
  unfold ovf
  rw [decide_eq_false_iff_not]
  omega
theorem prod_m1t {a b : Int64} (ha : a = Int64.ofInt (-1)) (hb : b = Int64.ofInt (-9223372036854775808)) : ovf (a.toInt * b.toInt) = true := by
  subst ha
  subst hb
  decide
theorem prod_m1f {a b : Int64} (ha : a = Int64.ofInt (-1)) (hb : ¬ b = Int64.ofInt (-9223372036854775808)) : ovf (a.toInt * b.toInt) = false := by
  subst ha
  have h1 : (Int64.ofInt (-1)).toInt = -1 := by decide
  have r := l_rng b
  have h2 : b.toInt ≠ -9223372036854775808 := fun z => hb (by rw [← z, Int64.ofInt_toInt])
  rw [ovf_fi, h1]
  omega
theorem prod_0 {a b : Int64} (ha : a = Int64.ofInt 0) : ovf (a.toInt * b.toInt) = false := by
  subst ha
  have h1 : (Int64.ofInt 0).toInt = 0 := by decide
  rw [ovf_fi, h1]
  omega
theorem prod_d {a b : Int64} (h1 : ¬ a = Int64.ofInt (-1)) (h0 : ¬ a = Int64.ofInt 0) : (a * b / a = b) ↔ ovf (a.toInt * b.toInt) = false := by
  have e1 : a.toInt ≠ -1 := fun z => h1 (by rw [← z, Int64.ofInt_toInt])
  have e0 : a.toInt ≠ 0 := fun z => h0 (by rw [← z, Int64.ofInt_toInt])
  rw [Int64.mul_comm a b, mul_div_ovf e0 e1, ovf_fi, Int.mul_comm b.toInt a.toInt]
/-- an answer that is a number, or a fault -/
def lgR (pre post : mj_H) (s : RS) (place : Int) (o : Int × Int64) (x : Value) (h' : mj_H) : Prop := (o.1 = 0 ∧ x = .long o.2 ∧ h' = rS pre post s) ∨ (o.1 ≠ 0 ∧ x = .long (Int64.ofInt (-1)) ∧ h' = rS pre post (failS s o.1 place))
theorem lgR_v {pre post : mj_H} {s : RS} {place : Int} {o : Int × Int64} {v : Int64} (h : o = (0, v)) : lgR pre post s place o (.long v) (rS pre post s) := by subst h; exact Or.inl ⟨rfl, rfl, rfl⟩
theorem lgR_f {pre post : mj_H} {s : RS} {place : Int} {o : Int × Int64} {c : Int} {v : Int64} (h : o = (c, v)) (hc : c ≠ 0) : lgR pre post s place o (.long (Int64.ofInt (-1))) (rS pre post (failS s c place)) := by subst h; exact Or.inr ⟨hc, rfl, rfl⟩
set_option maxRecDepth 20000 in
theorem pm_X12_sum : mj_mmof pg_ms 275 = some ((⟨"ArrayCalculatorModel", "sum", "(JJI)J"⟩, prog_14_method_52_code, 6, (Option.some Jvm.ClassFile.FieldType.long)), 12, false, mj_dec prog_14_method_52_code) := rfl
theorem dm_X12_sum_0 : mj_dec prog_14_method_52_code 0 = some (.lload_n 1, 1) := by decide +kernel
theorem dm_X12_sum_1 : mj_dec prog_14_method_52_code 1 = some (.lload_n 1, 1) := by decide +kernel
theorem dm_X12_sum_2 : mj_dec prog_14_method_52_code 2 = some (.lload_n 3, 1) := by decide +kernel
theorem dm_X12_sum_3 : mj_dec prog_14_method_52_code 3 = some (.ladd, 1) := by decide +kernel
theorem dm_X12_sum_4 : mj_dec prog_14_method_52_code 4 = some (.lxor, 1) := by decide +kernel
theorem dm_X12_sum_5 : mj_dec prog_14_method_52_code 5 = some (.lload_n 3, 1) := by decide +kernel
theorem dm_X12_sum_6 : mj_dec prog_14_method_52_code 6 = some (.lload_n 1, 1) := by decide +kernel
theorem dm_X12_sum_7 : mj_dec prog_14_method_52_code 7 = some (.lload_n 3, 1) := by decide +kernel
theorem dm_X12_sum_8 : mj_dec prog_14_method_52_code 8 = some (.ladd, 1) := by decide +kernel
theorem dm_X12_sum_9 : mj_dec prog_14_method_52_code 9 = some (.lxor, 1) := by decide +kernel
theorem dm_X12_sum_10 : mj_dec prog_14_method_52_code 10 = some (.land, 1) := by decide +kernel
theorem dm_X12_sum_11 : mj_dec prog_14_method_52_code 11 = some (.lconst 0, 1) := by decide +kernel
theorem dm_X12_sum_12 : mj_dec prog_14_method_52_code 12 = some (.lcmp, 1) := by decide +kernel
theorem dm_X12_sum_13 : mj_dec prog_14_method_52_code 13 = some (.ifCond .ge 15, 3) := by decide +kernel
theorem dm_X12_sum_28 : mj_dec prog_14_method_52_code 28 = some (.lload_n 1, 1) := by decide +kernel
theorem dm_X12_sum_29 : mj_dec prog_14_method_52_code 29 = some (.lload_n 3, 1) := by decide +kernel
theorem dm_X12_sum_30 : mj_dec prog_14_method_52_code 30 = some (.ladd, 1) := by decide +kernel
theorem dm_X12_sum_31 : mj_dec prog_14_method_52_code 31 = some (.lreturn, 1) := by decide +kernel
theorem r_sum_ {xt : mj_X} {d : Nat} {pre post : mj_H} {s : RS} {a b : Int64} {place : Int} (hm : pre.length = 102) (hd1 : 2 ≤ d) (he0 : s.1 5 = 0) (hca : 0 ≤ s.1 10 ∧ s.1 10 ≤ 100) (hov : ovf (a.toInt + b.toInt) = false) : pgP xt d 275 [.ref 102, .long a, .long b, ii place] (rS pre post s) (.long (a + b)) := by
  have h0 : (Int64.ofInt 0).toInt = 0 := by decide
  have hm1 : (Int64.ofInt (-1)).toInt = -1 := by decide
  have h1_ : (Int64.ofInt 1).toInt = 1 := by decide
  have hmx : (Int64.ofInt 9223372036854775807).toInt = 9223372036854775807 := by decide
  have hmn : (Int64.ofInt (-9223372036854775808)).toInt = -9223372036854775808 := by decide
  have r1 := l_rng a
  have r2 := l_rng b
  refine x_enter pm_X12_sum (L0 := [(0, .ref 102), (1, .long a), (3, .long b), (5, ii place)]) rfl (Nat.le_of_ble_eq_true rfl) (by omega) ?_
  refine me1 (pc' := 1) (L' := [(0, .ref 102), (1, .long a), (3, .long b), (5, ii place)]) (S' := [.long a]) dm_X12_sum_0 rfl rfl rfl rfl ?_
  refine me1 (pc' := 2) (L' := [(0, .ref 102), (1, .long a), (3, .long b), (5, ii place)]) (S' := [.long a, .long a]) dm_X12_sum_1 rfl rfl rfl rfl ?_
  refine me1 (pc' := 3) (L' := [(0, .ref 102), (1, .long a), (3, .long b), (5, ii place)]) (S' := [.long b, .long a, .long a]) dm_X12_sum_2 rfl rfl rfl rfl ?_
  refine me0 (pc' := 4) (S' := [.long (a + b), .long a]) dm_X12_sum_3 rfl rfl rfl rfl ?_
  refine me0 (pc' := 5) (S' := [.long (a ^^^ (a + b))]) dm_X12_sum_4 rfl rfl rfl rfl ?_
  refine me1 (pc' := 6) (L' := [(0, .ref 102), (1, .long a), (3, .long b), (5, ii place)]) (S' := [.long b, .long (a ^^^ (a + b))]) dm_X12_sum_5 rfl rfl rfl rfl ?_
  refine me1 (pc' := 7) (L' := [(0, .ref 102), (1, .long a), (3, .long b), (5, ii place)]) (S' := [.long a, .long b, .long (a ^^^ (a + b))]) dm_X12_sum_6 rfl rfl rfl rfl ?_
  refine me1 (pc' := 8) (L' := [(0, .ref 102), (1, .long a), (3, .long b), (5, ii place)]) (S' := [.long b, .long a, .long b, .long (a ^^^ (a + b))]) dm_X12_sum_7 rfl rfl rfl rfl ?_
  refine me0 (pc' := 9) (S' := [.long (a + b), .long b, .long (a ^^^ (a + b))]) dm_X12_sum_8 rfl rfl rfl rfl ?_
  refine me0 (pc' := 10) (S' := [.long (b ^^^ (a + b)), .long (a ^^^ (a + b))]) dm_X12_sum_9 rfl rfl rfl rfl ?_
  refine me0 (pc' := 11) (S' := [.long ((a ^^^ (a + b)) &&& (b ^^^ (a + b)))]) dm_X12_sum_10 rfl rfl rfl rfl ?_
  refine me0 (pc' := 12) (S' := [.long (Int64.ofInt 0), .long ((a ^^^ (a + b)) &&& (b ^^^ (a + b)))]) dm_X12_sum_11 rfl rfl rfl rfl ?_
  refine y_lge (x := (a ^^^ (a + b)) &&& (b ^^^ (a + b))) (y := Int64.ofInt 0) (t := 28) (pc1 := 13) (pc' := 16) dm_X12_sum_12 rfl dm_X12_sum_13 rfl rfl (fun hb1 => ?_) (fun hb1 => ?_)
  · refine me1 (pc' := 29) (L' := [(0, .ref 102), (1, .long a), (3, .long b), (5, ii place)]) (S' := [.long a]) dm_X12_sum_28 rfl rfl rfl rfl ?_
    refine me1 (pc' := 30) (L' := [(0, .ref 102), (1, .long a), (3, .long b), (5, ii place)]) (S' := [.long b, .long a]) dm_X12_sum_29 rfl rfl rfl rfl ?_
    refine me0 (pc' := 31) (S' := [.long (a + b)]) dm_X12_sum_30 rfl rfl rfl rfl ?_
    refine y_ret (r := some (.long (a + b))) dm_X12_sum_31 rfl rfl rfl ?_
    exact ⟨rfl, rfl⟩
  · exact absurd hb1 (by rw [h0]; exact fun z => by rw [(l_ovs a b).mp z] at hov; cases hov)
theorem dm_X12_sum_16 : mj_dec prog_14_method_52_code 16 = some (.aload_n 0, 1) := by decide +kernel
theorem dm_X12_sum_17 : mj_dec prog_14_method_52_code 17 = some (.bipush 6, 2) := by decide +kernel
theorem dm_X12_sum_19 : mj_dec prog_14_method_52_code 19 = some (.iload 5, 2) := by decide +kernel
theorem dm_X12_sum_21 : mj_dec prog_14_method_52_code 21 = some (.invokevirtual 190, 3) := by decide +kernel
theorem dm_X12_sum_24 : mj_dec prog_14_method_52_code 24 = some (.i2l, 1) := by decide +kernel
theorem dm_X12_sum_25 : mj_dec prog_14_method_52_code 25 = some (.goto 6, 3) := by decide +kernel
theorem r_sumF_ {xt : mj_X} {d : Nat} {pre post : mj_H} {s : RS} {a b : Int64} {place : Int} (hm : pre.length = 102) (hd1 : 2 ≤ d) (he0 : s.1 5 = 0) (hca : 0 ≤ s.1 10 ∧ s.1 10 ≤ 100) (hov : ovf (a.toInt + b.toInt) = true) : pgV xt d 275 [.ref 102, .long a, .long b, ii place] (rS pre post s) (fun x h' => x = .long (Int64.ofInt (-1)) ∧ h' = rS pre post (failS s 6 place)) := by
  have h0 : (Int64.ofInt 0).toInt = 0 := by decide
  have hm1 : (Int64.ofInt (-1)).toInt = -1 := by decide
  have h1_ : (Int64.ofInt 1).toInt = 1 := by decide
  have hmx : (Int64.ofInt 9223372036854775807).toInt = 9223372036854775807 := by decide
  have hmn : (Int64.ofInt (-9223372036854775808)).toInt = -9223372036854775808 := by decide
  have r1 := l_rng a
  have r2 := l_rng b
  refine x_enter pm_X12_sum (L0 := [(0, .ref 102), (1, .long a), (3, .long b), (5, ii place)]) rfl (Nat.le_of_ble_eq_true rfl) (by omega) ?_
  refine me1 (pc' := 1) (L' := [(0, .ref 102), (1, .long a), (3, .long b), (5, ii place)]) (S' := [.long a]) dm_X12_sum_0 rfl rfl rfl rfl ?_
  refine me1 (pc' := 2) (L' := [(0, .ref 102), (1, .long a), (3, .long b), (5, ii place)]) (S' := [.long a, .long a]) dm_X12_sum_1 rfl rfl rfl rfl ?_
  refine me1 (pc' := 3) (L' := [(0, .ref 102), (1, .long a), (3, .long b), (5, ii place)]) (S' := [.long b, .long a, .long a]) dm_X12_sum_2 rfl rfl rfl rfl ?_
  refine me0 (pc' := 4) (S' := [.long (a + b), .long a]) dm_X12_sum_3 rfl rfl rfl rfl ?_
  refine me0 (pc' := 5) (S' := [.long (a ^^^ (a + b))]) dm_X12_sum_4 rfl rfl rfl rfl ?_
  refine me1 (pc' := 6) (L' := [(0, .ref 102), (1, .long a), (3, .long b), (5, ii place)]) (S' := [.long b, .long (a ^^^ (a + b))]) dm_X12_sum_5 rfl rfl rfl rfl ?_
  refine me1 (pc' := 7) (L' := [(0, .ref 102), (1, .long a), (3, .long b), (5, ii place)]) (S' := [.long a, .long b, .long (a ^^^ (a + b))]) dm_X12_sum_6 rfl rfl rfl rfl ?_
  refine me1 (pc' := 8) (L' := [(0, .ref 102), (1, .long a), (3, .long b), (5, ii place)]) (S' := [.long b, .long a, .long b, .long (a ^^^ (a + b))]) dm_X12_sum_7 rfl rfl rfl rfl ?_
  refine me0 (pc' := 9) (S' := [.long (a + b), .long b, .long (a ^^^ (a + b))]) dm_X12_sum_8 rfl rfl rfl rfl ?_
  refine me0 (pc' := 10) (S' := [.long (b ^^^ (a + b)), .long (a ^^^ (a + b))]) dm_X12_sum_9 rfl rfl rfl rfl ?_
  refine me0 (pc' := 11) (S' := [.long ((a ^^^ (a + b)) &&& (b ^^^ (a + b)))]) dm_X12_sum_10 rfl rfl rfl rfl ?_
  refine me0 (pc' := 12) (S' := [.long (Int64.ofInt 0), .long ((a ^^^ (a + b)) &&& (b ^^^ (a + b)))]) dm_X12_sum_11 rfl rfl rfl rfl ?_
  refine y_lge (x := (a ^^^ (a + b)) &&& (b ^^^ (a + b))) (y := Int64.ofInt 0) (t := 28) (pc1 := 13) (pc' := 16) dm_X12_sum_12 rfl dm_X12_sum_13 rfl rfl (fun hb1 => ?_) (fun hb1 => ?_)
  · exact absurd hb1 (by rw [h0]; exact fun z => by have := (l_ovs a b).mpr hov; omega)
  · refine me1 (pc' := 17) (L' := [(0, .ref 102), (1, .long a), (3, .long b), (5, ii place)]) (S' := [.ref 102]) dm_X12_sum_16 rfl rfl rfl rfl ?_
    refine me0 (pc' := 19) (S' := [ii 6, .ref 102]) dm_X12_sum_17 rfl rfl rfl rfl ?_
    refine me1 (pc' := 21) (L' := [(0, .ref 102), (1, .long a), (3, .long b), (5, ii place)]) (S' := [ii place, ii 6, .ref 102]) dm_X12_sum_19 rfl rfl rfl rfl ?_
    refine x_cv (pc' := 24) (rest := []) dm_X12_sum_21 rfl (q_inv (As := [ii 6, ii place]) (S := []) hm rfl rfl rfl) rfl rfl rfl (r_fail_ (s := s) hm (by omega) he0 hca.1 hca.2) ?_
    rintro _ _ ⟨rfl, rfl⟩
    refine y_i2l (a := -1) dm_X12_sum_24 (pc' := 25) rfl (by omega) (by omega) ?_
    refine me2 (pc' := 31) (S' := [.long (Int64.ofInt (-1))]) dm_X12_sum_25 rfl rfl rfl ?_
    refine y_ret (r := some (.long (Int64.ofInt (-1)))) dm_X12_sum_31 rfl rfl rfl ?_
    exact ⟨_, rfl, rfl, rfl⟩
set_option maxRecDepth 20000 in
theorem pm_X12_product : mj_mmof pg_ms 274 = some ((⟨"ArrayCalculatorModel", "product", "(JJI)J"⟩, prog_14_method_53_code, 9, (Option.some Jvm.ClassFile.FieldType.long)), 12, false, mj_dec prog_14_method_53_code) := rfl
theorem dm_X12_product_0 : mj_dec prog_14_method_53_code 0 = some (.lload_n 1, 1) := by decide +kernel
theorem dm_X12_product_1 : mj_dec prog_14_method_53_code 1 = some (.lload_n 3, 1) := by decide +kernel
theorem dm_X12_product_2 : mj_dec prog_14_method_53_code 2 = some (.lmul, 1) := by decide +kernel
theorem dm_X12_product_3 : mj_dec prog_14_method_53_code 3 = some (.lstore 6, 2) := by decide +kernel
theorem dm_X12_product_5 : mj_dec prog_14_method_53_code 5 = some (.lload_n 1, 1) := by decide +kernel
theorem dm_X12_product_6 : mj_dec prog_14_method_53_code 6 = some (.ldc2_w 253, 3) := by decide +kernel
theorem dm_X12_product_9 : mj_dec prog_14_method_53_code 9 = some (.lcmp, 1) := by decide +kernel
theorem dm_X12_product_10 : mj_dec prog_14_method_53_code 10 = some (.ifCond .ne 19, 3) := by decide +kernel
theorem dm_X12_product_13 : mj_dec prog_14_method_53_code 13 = some (.lload_n 3, 1) := by decide +kernel
theorem dm_X12_product_14 : mj_dec prog_14_method_53_code 14 = some (.ldc2_w 262, 3) := by decide +kernel
theorem dm_X12_product_17 : mj_dec prog_14_method_53_code 17 = some (.lcmp, 1) := by decide +kernel
theorem dm_X12_product_18 : mj_dec prog_14_method_53_code 18 = some (.ifCond .ne 7, 3) := by decide +kernel
theorem dm_X12_product_21 : mj_dec prog_14_method_53_code 21 = some (.iconst 1, 1) := by decide +kernel
theorem dm_X12_product_22 : mj_dec prog_14_method_53_code 22 = some (.goto 27, 3) := by decide +kernel
theorem dm_X12_product_25 : mj_dec prog_14_method_53_code 25 = some (.iconst 0, 1) := by decide +kernel
theorem dm_X12_product_26 : mj_dec prog_14_method_53_code 26 = some (.goto 23, 3) := by decide +kernel
theorem dm_X12_product_29 : mj_dec prog_14_method_53_code 29 = some (.lload_n 1, 1) := by decide +kernel
theorem dm_X12_product_30 : mj_dec prog_14_method_53_code 30 = some (.lconst 0, 1) := by decide +kernel
theorem dm_X12_product_31 : mj_dec prog_14_method_53_code 31 = some (.lcmp, 1) := by decide +kernel
theorem dm_X12_product_32 : mj_dec prog_14_method_53_code 32 = some (.ifCond .eq 16, 3) := by decide +kernel
theorem dm_X12_product_35 : mj_dec prog_14_method_53_code 35 = some (.lload 6, 2) := by decide +kernel
theorem dm_X12_product_37 : mj_dec prog_14_method_53_code 37 = some (.lload_n 1, 1) := by decide +kernel
theorem dm_X12_product_38 : mj_dec prog_14_method_53_code 38 = some (.ldiv, 1) := by decide +kernel
theorem dm_X12_product_39 : mj_dec prog_14_method_53_code 39 = some (.lload_n 3, 1) := by decide +kernel
theorem dm_X12_product_40 : mj_dec prog_14_method_53_code 40 = some (.lcmp, 1) := by decide +kernel
theorem dm_X12_product_41 : mj_dec prog_14_method_53_code 41 = some (.ifCond .eq 7, 3) := by decide +kernel
theorem dm_X12_product_44 : mj_dec prog_14_method_53_code 44 = some (.iconst 1, 1) := by decide +kernel
theorem dm_X12_product_45 : mj_dec prog_14_method_53_code 45 = some (.goto 4, 3) := by decide +kernel
theorem dm_X12_product_48 : mj_dec prog_14_method_53_code 48 = some (.iconst 0, 1) := by decide +kernel
theorem dm_X12_product_49 : mj_dec prog_14_method_53_code 49 = some (.istore 8, 2) := by decide +kernel
theorem dm_X12_product_51 : mj_dec prog_14_method_53_code 51 = some (.iload 8, 2) := by decide +kernel
theorem dm_X12_product_53 : mj_dec prog_14_method_53_code 53 = some (.ifCond .eq 15, 3) := by decide +kernel
theorem dm_X12_product_68 : mj_dec prog_14_method_53_code 68 = some (.lload 6, 2) := by decide +kernel
theorem dm_X12_product_70 : mj_dec prog_14_method_53_code 70 = some (.lreturn, 1) := by decide +kernel
theorem r_product_ {xt : mj_X} {d : Nat} {pre post : mj_H} {s : RS} {a b : Int64} {place : Int} (hm : pre.length = 102) (hd1 : 2 ≤ d) (he0 : s.1 5 = 0) (hca : 0 ≤ s.1 10 ∧ s.1 10 ≤ 100) (hov : ovf (a.toInt * b.toInt) = false) : pgP xt d 274 [.ref 102, .long a, .long b, ii place] (rS pre post s) (.long (a * b)) := by
  have h0 : (Int64.ofInt 0).toInt = 0 := by decide
  have hm1 : (Int64.ofInt (-1)).toInt = -1 := by decide
  have h1_ : (Int64.ofInt 1).toInt = 1 := by decide
  have hmx : (Int64.ofInt 9223372036854775807).toInt = 9223372036854775807 := by decide
  have hmn : (Int64.ofInt (-9223372036854775808)).toInt = -9223372036854775808 := by decide
  have r1 := l_rng a
  have r2 := l_rng b
  refine x_enter pm_X12_product (L0 := [(0, .ref 102), (1, .long a), (3, .long b), (5, ii place)]) rfl (Nat.le_of_ble_eq_true rfl) (by omega) ?_
  refine me1 (pc' := 1) (L' := [(0, .ref 102), (1, .long a), (3, .long b), (5, ii place)]) (S' := [.long a]) dm_X12_product_0 rfl rfl rfl rfl ?_
  refine me1 (pc' := 2) (L' := [(0, .ref 102), (1, .long a), (3, .long b), (5, ii place)]) (S' := [.long b, .long a]) dm_X12_product_1 rfl rfl rfl rfl ?_
  refine me0 (pc' := 3) (S' := [.long (a * b)]) dm_X12_product_2 rfl rfl rfl rfl ?_
  refine me1 (pc' := 5) (L' := [(6, .long (a * b)), (0, .ref 102), (1, .long a), (3, .long b), (5, ii place)]) (S' := []) dm_X12_product_3 rfl rfl rfl rfl ?_
  refine me1 (pc' := 6) (L' := [(6, .long (a * b)), (0, .ref 102), (1, .long a), (3, .long b), (5, ii place)]) (S' := [.long a]) dm_X12_product_5 rfl rfl rfl rfl ?_
  refine me3 (pc' := 9) (S' := [.long (Int64.ofInt (-1)), .long a]) dm_X12_product_6 rfl rfl rfl rfl ?_
  refine y_lne (x := a) (y := Int64.ofInt (-1)) (t := 29) (pc1 := 10) (pc' := 13) dm_X12_product_9 rfl dm_X12_product_10 rfl rfl (fun hb1 => ?_) (fun hb1 => ?_)
  · have hb1i : ¬ (a).toInt = (Int64.ofInt (-1)).toInt := fun z => hb1 (Int64.toInt_inj.mp z)
    refine me1 (pc' := 30) (L' := [(6, .long (a * b)), (0, .ref 102), (1, .long a), (3, .long b), (5, ii place)]) (S' := [.long a]) dm_X12_product_29 rfl rfl rfl rfl ?_
    refine me0 (pc' := 31) (S' := [.long (Int64.ofInt 0), .long a]) dm_X12_product_30 rfl rfl rfl rfl ?_
    refine y_leq (x := a) (y := Int64.ofInt 0) (t := 48) (pc1 := 32) (pc' := 35) dm_X12_product_31 rfl dm_X12_product_32 rfl rfl (fun hb2 => ?_) (fun hb2 => ?_)
    · have hb2i := congrArg Int64.toInt hb2
      refine me0 (pc' := 49) (S' := [ii 0]) dm_X12_product_48 rfl rfl rfl rfl ?_
      refine me1 (pc' := 51) (L' := [(8, ii 0), (6, .long (a * b)), (0, .ref 102), (1, .long a), (3, .long b), (5, ii place)]) (S' := []) dm_X12_product_49 rfl rfl rfl rfl ?_
      refine me1 (pc' := 53) (L' := [(8, ii 0), (6, .long (a * b)), (0, .ref 102), (1, .long a), (3, .long b), (5, ii place)]) (S' := [ii 0]) dm_X12_product_51 rfl rfl rfl rfl ?_
      refine me_1t (pc' := 68) dm_X12_product_53 rfl (by decide) ?_
      refine me1 (pc' := 70) (L' := [(8, ii 0), (6, .long (a * b)), (0, .ref 102), (1, .long a), (3, .long b), (5, ii place)]) (S' := [.long (a * b)]) dm_X12_product_68 rfl rfl rfl rfl ?_
      refine y_ret (r := some (.long (a * b))) dm_X12_product_70 rfl rfl rfl ?_
      exact ⟨rfl, rfl⟩
    · have hb2i : ¬ (a).toInt = (Int64.ofInt 0).toInt := fun z => hb2 (Int64.toInt_inj.mp z)
      refine me1 (pc' := 37) (L' := [(6, .long (a * b)), (0, .ref 102), (1, .long a), (3, .long b), (5, ii place)]) (S' := [.long (a * b)]) dm_X12_product_35 rfl rfl rfl rfl ?_
      refine me1 (pc' := 38) (L' := [(6, .long (a * b)), (0, .ref 102), (1, .long a), (3, .long b), (5, ii place)]) (S' := [.long a, .long (a * b)]) dm_X12_product_37 rfl rfl rfl rfl ?_
      refine y_ldiv (x := a * b) (y := a) dm_X12_product_38 (pc' := 39) rfl (fun z => by have hz9 := congrArg Int64.toInt z; have e9 : (0 : Int64).toInt = 0 := rfl; omega) ?_
      refine me1 (pc' := 40) (L' := [(6, .long (a * b)), (0, .ref 102), (1, .long a), (3, .long b), (5, ii place)]) (S' := [.long b, .long ((a * b) / a)]) dm_X12_product_39 rfl rfl rfl rfl ?_
      refine y_leq (x := (a * b) / a) (y := b) (t := 48) (pc1 := 41) (pc' := 44) dm_X12_product_40 rfl dm_X12_product_41 rfl rfl (fun hb3 => ?_) (fun hb3 => ?_)
      · have hb3i := congrArg Int64.toInt hb3
        refine me0 (pc' := 49) (S' := [ii 0]) dm_X12_product_48 rfl rfl rfl rfl ?_
        refine me1 (pc' := 51) (L' := [(8, ii 0), (6, .long (a * b)), (0, .ref 102), (1, .long a), (3, .long b), (5, ii place)]) (S' := []) dm_X12_product_49 rfl rfl rfl rfl ?_
        refine me1 (pc' := 53) (L' := [(8, ii 0), (6, .long (a * b)), (0, .ref 102), (1, .long a), (3, .long b), (5, ii place)]) (S' := [ii 0]) dm_X12_product_51 rfl rfl rfl rfl ?_
        refine me_1t (pc' := 68) dm_X12_product_53 rfl (by decide) ?_
        refine me1 (pc' := 70) (L' := [(8, ii 0), (6, .long (a * b)), (0, .ref 102), (1, .long a), (3, .long b), (5, ii place)]) (S' := [.long (a * b)]) dm_X12_product_68 rfl rfl rfl rfl ?_
        refine y_ret (r := some (.long (a * b))) dm_X12_product_70 rfl rfl rfl ?_
        exact ⟨rfl, rfl⟩
      · have hb3i : ¬ ((a * b) / a).toInt = (b).toInt := fun z => hb3 (Int64.toInt_inj.mp z)
        refine me0 (pc' := 45) (S' := [ii 1]) dm_X12_product_44 rfl rfl rfl rfl ?_
        refine me2 (pc' := 49) (S' := [ii 1]) dm_X12_product_45 rfl rfl rfl ?_
        refine me1 (pc' := 51) (L' := [(8, ii 1), (6, .long (a * b)), (0, .ref 102), (1, .long a), (3, .long b), (5, ii place)]) (S' := []) dm_X12_product_49 rfl rfl rfl rfl ?_
        refine me1 (pc' := 53) (L' := [(8, ii 1), (6, .long (a * b)), (0, .ref 102), (1, .long a), (3, .long b), (5, ii place)]) (S' := [ii 1]) dm_X12_product_51 rfl rfl rfl rfl ?_
        refine me_1f (pc' := 56) dm_X12_product_53 rfl (by decide) rfl ?_
        exact absurd (hov.symm.trans (eq_true_of_ne_false (fun z => hb3 ((prod_d hb1 hb2).mpr z)))) (by decide)
  · have hb1i := congrArg Int64.toInt hb1
    refine me1 (pc' := 14) (L' := [(6, .long (a * b)), (0, .ref 102), (1, .long a), (3, .long b), (5, ii place)]) (S' := [.long b]) dm_X12_product_13 rfl rfl rfl rfl ?_
    refine me3 (pc' := 17) (S' := [.long (Int64.ofInt (-9223372036854775808)), .long b]) dm_X12_product_14 rfl rfl rfl rfl ?_
    refine y_lne (x := b) (y := Int64.ofInt (-9223372036854775808)) (t := 25) (pc1 := 18) (pc' := 21) dm_X12_product_17 rfl dm_X12_product_18 rfl rfl (fun hb4 => ?_) (fun hb4 => ?_)
    · have hb4i : ¬ (b).toInt = (Int64.ofInt (-9223372036854775808)).toInt := fun z => hb4 (Int64.toInt_inj.mp z)
      refine me0 (pc' := 26) (S' := [ii 0]) dm_X12_product_25 rfl rfl rfl rfl ?_
      refine me2 (pc' := 49) (S' := [ii 0]) dm_X12_product_26 rfl rfl rfl ?_
      refine me1 (pc' := 51) (L' := [(8, ii 0), (6, .long (a * b)), (0, .ref 102), (1, .long a), (3, .long b), (5, ii place)]) (S' := []) dm_X12_product_49 rfl rfl rfl rfl ?_
      refine me1 (pc' := 53) (L' := [(8, ii 0), (6, .long (a * b)), (0, .ref 102), (1, .long a), (3, .long b), (5, ii place)]) (S' := [ii 0]) dm_X12_product_51 rfl rfl rfl rfl ?_
      refine me_1t (pc' := 68) dm_X12_product_53 rfl (by decide) ?_
      refine me1 (pc' := 70) (L' := [(8, ii 0), (6, .long (a * b)), (0, .ref 102), (1, .long a), (3, .long b), (5, ii place)]) (S' := [.long (a * b)]) dm_X12_product_68 rfl rfl rfl rfl ?_
      refine y_ret (r := some (.long (a * b))) dm_X12_product_70 rfl rfl rfl ?_
      exact ⟨rfl, rfl⟩
    · have hb4i := congrArg Int64.toInt hb4
      refine me0 (pc' := 22) (S' := [ii 1]) dm_X12_product_21 rfl rfl rfl rfl ?_
      refine me2 (pc' := 49) (S' := [ii 1]) dm_X12_product_22 rfl rfl rfl ?_
      refine me1 (pc' := 51) (L' := [(8, ii 1), (6, .long (a * b)), (0, .ref 102), (1, .long a), (3, .long b), (5, ii place)]) (S' := []) dm_X12_product_49 rfl rfl rfl rfl ?_
      refine me1 (pc' := 53) (L' := [(8, ii 1), (6, .long (a * b)), (0, .ref 102), (1, .long a), (3, .long b), (5, ii place)]) (S' := [ii 1]) dm_X12_product_51 rfl rfl rfl rfl ?_
      refine me_1f (pc' := 56) dm_X12_product_53 rfl (by decide) rfl ?_
      exact absurd (hov.symm.trans (prod_m1t hb1 hb4)) (by decide)
theorem dm_X12_product_56 : mj_dec prog_14_method_53_code 56 = some (.aload_n 0, 1) := by decide +kernel
theorem dm_X12_product_57 : mj_dec prog_14_method_53_code 57 = some (.bipush 6, 2) := by decide +kernel
theorem dm_X12_product_59 : mj_dec prog_14_method_53_code 59 = some (.iload 5, 2) := by decide +kernel
theorem dm_X12_product_61 : mj_dec prog_14_method_53_code 61 = some (.invokevirtual 190, 3) := by decide +kernel
theorem dm_X12_product_64 : mj_dec prog_14_method_53_code 64 = some (.i2l, 1) := by decide +kernel
theorem dm_X12_product_65 : mj_dec prog_14_method_53_code 65 = some (.goto 5, 3) := by decide +kernel
theorem r_productF_ {xt : mj_X} {d : Nat} {pre post : mj_H} {s : RS} {a b : Int64} {place : Int} (hm : pre.length = 102) (hd1 : 2 ≤ d) (he0 : s.1 5 = 0) (hca : 0 ≤ s.1 10 ∧ s.1 10 ≤ 100) (hov : ovf (a.toInt * b.toInt) = true) : pgV xt d 274 [.ref 102, .long a, .long b, ii place] (rS pre post s) (fun x h' => x = .long (Int64.ofInt (-1)) ∧ h' = rS pre post (failS s 6 place)) := by
  have h0 : (Int64.ofInt 0).toInt = 0 := by decide
  have hm1 : (Int64.ofInt (-1)).toInt = -1 := by decide
  have h1_ : (Int64.ofInt 1).toInt = 1 := by decide
  have hmx : (Int64.ofInt 9223372036854775807).toInt = 9223372036854775807 := by decide
  have hmn : (Int64.ofInt (-9223372036854775808)).toInt = -9223372036854775808 := by decide
  have r1 := l_rng a
  have r2 := l_rng b
  refine x_enter pm_X12_product (L0 := [(0, .ref 102), (1, .long a), (3, .long b), (5, ii place)]) rfl (Nat.le_of_ble_eq_true rfl) (by omega) ?_
  refine me1 (pc' := 1) (L' := [(0, .ref 102), (1, .long a), (3, .long b), (5, ii place)]) (S' := [.long a]) dm_X12_product_0 rfl rfl rfl rfl ?_
  refine me1 (pc' := 2) (L' := [(0, .ref 102), (1, .long a), (3, .long b), (5, ii place)]) (S' := [.long b, .long a]) dm_X12_product_1 rfl rfl rfl rfl ?_
  refine me0 (pc' := 3) (S' := [.long (a * b)]) dm_X12_product_2 rfl rfl rfl rfl ?_
  refine me1 (pc' := 5) (L' := [(6, .long (a * b)), (0, .ref 102), (1, .long a), (3, .long b), (5, ii place)]) (S' := []) dm_X12_product_3 rfl rfl rfl rfl ?_
  refine me1 (pc' := 6) (L' := [(6, .long (a * b)), (0, .ref 102), (1, .long a), (3, .long b), (5, ii place)]) (S' := [.long a]) dm_X12_product_5 rfl rfl rfl rfl ?_
  refine me3 (pc' := 9) (S' := [.long (Int64.ofInt (-1)), .long a]) dm_X12_product_6 rfl rfl rfl rfl ?_
  refine y_lne (x := a) (y := Int64.ofInt (-1)) (t := 29) (pc1 := 10) (pc' := 13) dm_X12_product_9 rfl dm_X12_product_10 rfl rfl (fun hb1 => ?_) (fun hb1 => ?_)
  · have hb1i : ¬ (a).toInt = (Int64.ofInt (-1)).toInt := fun z => hb1 (Int64.toInt_inj.mp z)
    refine me1 (pc' := 30) (L' := [(6, .long (a * b)), (0, .ref 102), (1, .long a), (3, .long b), (5, ii place)]) (S' := [.long a]) dm_X12_product_29 rfl rfl rfl rfl ?_
    refine me0 (pc' := 31) (S' := [.long (Int64.ofInt 0), .long a]) dm_X12_product_30 rfl rfl rfl rfl ?_
    refine y_leq (x := a) (y := Int64.ofInt 0) (t := 48) (pc1 := 32) (pc' := 35) dm_X12_product_31 rfl dm_X12_product_32 rfl rfl (fun hb2 => ?_) (fun hb2 => ?_)
    · have hb2i := congrArg Int64.toInt hb2
      refine me0 (pc' := 49) (S' := [ii 0]) dm_X12_product_48 rfl rfl rfl rfl ?_
      refine me1 (pc' := 51) (L' := [(8, ii 0), (6, .long (a * b)), (0, .ref 102), (1, .long a), (3, .long b), (5, ii place)]) (S' := []) dm_X12_product_49 rfl rfl rfl rfl ?_
      refine me1 (pc' := 53) (L' := [(8, ii 0), (6, .long (a * b)), (0, .ref 102), (1, .long a), (3, .long b), (5, ii place)]) (S' := [ii 0]) dm_X12_product_51 rfl rfl rfl rfl ?_
      refine me_1t (pc' := 68) dm_X12_product_53 rfl (by decide) ?_
      exact absurd (hov.symm.trans (prod_0 hb2)) (by decide)
    · have hb2i : ¬ (a).toInt = (Int64.ofInt 0).toInt := fun z => hb2 (Int64.toInt_inj.mp z)
      refine me1 (pc' := 37) (L' := [(6, .long (a * b)), (0, .ref 102), (1, .long a), (3, .long b), (5, ii place)]) (S' := [.long (a * b)]) dm_X12_product_35 rfl rfl rfl rfl ?_
      refine me1 (pc' := 38) (L' := [(6, .long (a * b)), (0, .ref 102), (1, .long a), (3, .long b), (5, ii place)]) (S' := [.long a, .long (a * b)]) dm_X12_product_37 rfl rfl rfl rfl ?_
      refine y_ldiv (x := a * b) (y := a) dm_X12_product_38 (pc' := 39) rfl (fun z => by have hz9 := congrArg Int64.toInt z; have e9 : (0 : Int64).toInt = 0 := rfl; omega) ?_
      refine me1 (pc' := 40) (L' := [(6, .long (a * b)), (0, .ref 102), (1, .long a), (3, .long b), (5, ii place)]) (S' := [.long b, .long ((a * b) / a)]) dm_X12_product_39 rfl rfl rfl rfl ?_
      refine y_leq (x := (a * b) / a) (y := b) (t := 48) (pc1 := 41) (pc' := 44) dm_X12_product_40 rfl dm_X12_product_41 rfl rfl (fun hb3 => ?_) (fun hb3 => ?_)
      · have hb3i := congrArg Int64.toInt hb3
        refine me0 (pc' := 49) (S' := [ii 0]) dm_X12_product_48 rfl rfl rfl rfl ?_
        refine me1 (pc' := 51) (L' := [(8, ii 0), (6, .long (a * b)), (0, .ref 102), (1, .long a), (3, .long b), (5, ii place)]) (S' := []) dm_X12_product_49 rfl rfl rfl rfl ?_
        refine me1 (pc' := 53) (L' := [(8, ii 0), (6, .long (a * b)), (0, .ref 102), (1, .long a), (3, .long b), (5, ii place)]) (S' := [ii 0]) dm_X12_product_51 rfl rfl rfl rfl ?_
        refine me_1t (pc' := 68) dm_X12_product_53 rfl (by decide) ?_
        exact absurd (hov.symm.trans ((prod_d hb1 hb2).mp hb3)) (by decide)
      · have hb3i : ¬ ((a * b) / a).toInt = (b).toInt := fun z => hb3 (Int64.toInt_inj.mp z)
        refine me0 (pc' := 45) (S' := [ii 1]) dm_X12_product_44 rfl rfl rfl rfl ?_
        refine me2 (pc' := 49) (S' := [ii 1]) dm_X12_product_45 rfl rfl rfl ?_
        refine me1 (pc' := 51) (L' := [(8, ii 1), (6, .long (a * b)), (0, .ref 102), (1, .long a), (3, .long b), (5, ii place)]) (S' := []) dm_X12_product_49 rfl rfl rfl rfl ?_
        refine me1 (pc' := 53) (L' := [(8, ii 1), (6, .long (a * b)), (0, .ref 102), (1, .long a), (3, .long b), (5, ii place)]) (S' := [ii 1]) dm_X12_product_51 rfl rfl rfl rfl ?_
        refine me_1f (pc' := 56) dm_X12_product_53 rfl (by decide) rfl ?_
        refine me1 (pc' := 57) (L' := [(8, ii 1), (6, .long (a * b)), (0, .ref 102), (1, .long a), (3, .long b), (5, ii place)]) (S' := [.ref 102]) dm_X12_product_56 rfl rfl rfl rfl ?_
        refine me0 (pc' := 59) (S' := [ii 6, .ref 102]) dm_X12_product_57 rfl rfl rfl rfl ?_
        refine me1 (pc' := 61) (L' := [(8, ii 1), (6, .long (a * b)), (0, .ref 102), (1, .long a), (3, .long b), (5, ii place)]) (S' := [ii place, ii 6, .ref 102]) dm_X12_product_59 rfl rfl rfl rfl ?_
        refine x_cv (pc' := 64) (rest := []) dm_X12_product_61 rfl (q_inv (As := [ii 6, ii place]) (S := []) hm rfl rfl rfl) rfl rfl rfl (r_fail_ (s := s) hm (by omega) he0 hca.1 hca.2) ?_
        rintro _ _ ⟨rfl, rfl⟩
        refine y_i2l (a := -1) dm_X12_product_64 (pc' := 65) rfl (by omega) (by omega) ?_
        refine me2 (pc' := 70) (S' := [.long (Int64.ofInt (-1))]) dm_X12_product_65 rfl rfl rfl ?_
        refine y_ret (r := some (.long (Int64.ofInt (-1)))) dm_X12_product_70 rfl rfl rfl ?_
        exact ⟨_, rfl, rfl, rfl⟩
  · have hb1i := congrArg Int64.toInt hb1
    refine me1 (pc' := 14) (L' := [(6, .long (a * b)), (0, .ref 102), (1, .long a), (3, .long b), (5, ii place)]) (S' := [.long b]) dm_X12_product_13 rfl rfl rfl rfl ?_
    refine me3 (pc' := 17) (S' := [.long (Int64.ofInt (-9223372036854775808)), .long b]) dm_X12_product_14 rfl rfl rfl rfl ?_
    refine y_lne (x := b) (y := Int64.ofInt (-9223372036854775808)) (t := 25) (pc1 := 18) (pc' := 21) dm_X12_product_17 rfl dm_X12_product_18 rfl rfl (fun hb4 => ?_) (fun hb4 => ?_)
    · have hb4i : ¬ (b).toInt = (Int64.ofInt (-9223372036854775808)).toInt := fun z => hb4 (Int64.toInt_inj.mp z)
      refine me0 (pc' := 26) (S' := [ii 0]) dm_X12_product_25 rfl rfl rfl rfl ?_
      refine me2 (pc' := 49) (S' := [ii 0]) dm_X12_product_26 rfl rfl rfl ?_
      refine me1 (pc' := 51) (L' := [(8, ii 0), (6, .long (a * b)), (0, .ref 102), (1, .long a), (3, .long b), (5, ii place)]) (S' := []) dm_X12_product_49 rfl rfl rfl rfl ?_
      refine me1 (pc' := 53) (L' := [(8, ii 0), (6, .long (a * b)), (0, .ref 102), (1, .long a), (3, .long b), (5, ii place)]) (S' := [ii 0]) dm_X12_product_51 rfl rfl rfl rfl ?_
      refine me_1t (pc' := 68) dm_X12_product_53 rfl (by decide) ?_
      exact absurd (hov.symm.trans (prod_m1f hb1 hb4)) (by decide)
    · have hb4i := congrArg Int64.toInt hb4
      refine me0 (pc' := 22) (S' := [ii 1]) dm_X12_product_21 rfl rfl rfl rfl ?_
      refine me2 (pc' := 49) (S' := [ii 1]) dm_X12_product_22 rfl rfl rfl ?_
      refine me1 (pc' := 51) (L' := [(8, ii 1), (6, .long (a * b)), (0, .ref 102), (1, .long a), (3, .long b), (5, ii place)]) (S' := []) dm_X12_product_49 rfl rfl rfl rfl ?_
      refine me1 (pc' := 53) (L' := [(8, ii 1), (6, .long (a * b)), (0, .ref 102), (1, .long a), (3, .long b), (5, ii place)]) (S' := [ii 1]) dm_X12_product_51 rfl rfl rfl rfl ?_
      refine me_1f (pc' := 56) dm_X12_product_53 rfl (by decide) rfl ?_
      refine me1 (pc' := 57) (L' := [(8, ii 1), (6, .long (a * b)), (0, .ref 102), (1, .long a), (3, .long b), (5, ii place)]) (S' := [.ref 102]) dm_X12_product_56 rfl rfl rfl rfl ?_
      refine me0 (pc' := 59) (S' := [ii 6, .ref 102]) dm_X12_product_57 rfl rfl rfl rfl ?_
      refine me1 (pc' := 61) (L' := [(8, ii 1), (6, .long (a * b)), (0, .ref 102), (1, .long a), (3, .long b), (5, ii place)]) (S' := [ii place, ii 6, .ref 102]) dm_X12_product_59 rfl rfl rfl rfl ?_
      refine x_cv (pc' := 64) (rest := []) dm_X12_product_61 rfl (q_inv (As := [ii 6, ii place]) (S := []) hm rfl rfl rfl) rfl rfl rfl (r_fail_ (s := s) hm (by omega) he0 hca.1 hca.2) ?_
      rintro _ _ ⟨rfl, rfl⟩
      refine y_i2l (a := -1) dm_X12_product_64 (pc' := 65) rfl (by omega) (by omega) ?_
      refine me2 (pc' := 70) (S' := [.long (Int64.ofInt (-1))]) dm_X12_product_65 rfl rfl rfl ?_
      refine y_ret (r := some (.long (Int64.ofInt (-1)))) dm_X12_product_70 rfl rfl rfl ?_
      exact ⟨_, rfl, rfl, rfl⟩
set_option maxRecDepth 20000 in
theorem pm_X12_worked : mj_mmof pg_ms 278 = some ((⟨"ArrayCalculatorModel", "worked", "(IZJZJI)J"⟩, prog_14_method_51_code, 9, (Option.some Jvm.ClassFile.FieldType.long)), 12, false, mj_dec prog_14_method_51_code) := rfl
theorem dm_X12_worked_0 : mj_dec prog_14_method_51_code 0 = some (.iload_n 1, 1) := by decide +kernel
theorem dm_X12_worked_1 : mj_dec prog_14_method_51_code 1 = some (.invokestatic 333, 3) := by decide +kernel
theorem dm_X12_worked_4 : mj_dec prog_14_method_51_code 4 = some (.ifCond .eq 73, 3) := by decide +kernel
theorem dm_X12_worked_7 : mj_dec prog_14_method_51_code 7 = some (.iload_n 2, 1) := by decide +kernel
theorem dm_X12_worked_8 : mj_dec prog_14_method_51_code 8 = some (.iload 5, 2) := by decide +kernel
theorem dm_X12_worked_10 : mj_dec prog_14_method_51_code 10 = some (.if_icmp .eq 22, 3) := by decide +kernel
theorem dm_X12_worked_13 : mj_dec prog_14_method_51_code 13 = some (.iload_n 1, 1) := by decide +kernel
theorem dm_X12_worked_14 : mj_dec prog_14_method_51_code 14 = some (.bipush 61, 2) := by decide +kernel
theorem dm_X12_worked_16 : mj_dec prog_14_method_51_code 16 = some (.if_icmp .ne 7, 3) := by decide +kernel
theorem dm_X12_worked_19 : mj_dec prog_14_method_51_code 19 = some (.lconst 0, 1) := by decide +kernel
theorem dm_X12_worked_20 : mj_dec prog_14_method_51_code 20 = some (.goto 11, 3) := by decide +kernel
theorem dm_X12_worked_23 : mj_dec prog_14_method_51_code 23 = some (.aload_n 0, 1) := by decide +kernel
theorem dm_X12_worked_24 : mj_dec prog_14_method_51_code 24 = some (.iconst 5, 1) := by decide +kernel
theorem dm_X12_worked_25 : mj_dec prog_14_method_51_code 25 = some (.iload 8, 2) := by decide +kernel
theorem dm_X12_worked_27 : mj_dec prog_14_method_51_code 27 = some (.invokevirtual 190, 3) := by decide +kernel
theorem dm_X12_worked_30 : mj_dec prog_14_method_51_code 30 = some (.i2l, 1) := by decide +kernel
theorem dm_X12_worked_31 : mj_dec prog_14_method_51_code 31 = some (.lreturn, 1) := by decide +kernel
theorem dm_X12_worked_32 : mj_dec prog_14_method_51_code 32 = some (.iload_n 1, 1) := by decide +kernel
theorem dm_X12_worked_33 : mj_dec prog_14_method_51_code 33 = some (.bipush 60, 2) := by decide +kernel
theorem dm_X12_worked_35 : mj_dec prog_14_method_51_code 35 = some (.if_icmp .ne 13, 3) := by decide +kernel
theorem dm_X12_worked_38 : mj_dec prog_14_method_51_code 38 = some (.lload_n 3, 1) := by decide +kernel
theorem dm_X12_worked_39 : mj_dec prog_14_method_51_code 39 = some (.lload 6, 2) := by decide +kernel
theorem dm_X12_worked_41 : mj_dec prog_14_method_51_code 41 = some (.lcmp, 1) := by decide +kernel
theorem dm_X12_worked_42 : mj_dec prog_14_method_51_code 42 = some (.ifCond .ge 33, 3) := by decide +kernel
theorem dm_X12_worked_45 : mj_dec prog_14_method_51_code 45 = some (.goto 26, 3) := by decide +kernel
theorem dm_X12_worked_48 : mj_dec prog_14_method_51_code 48 = some (.iload_n 1, 1) := by decide +kernel
theorem dm_X12_worked_49 : mj_dec prog_14_method_51_code 49 = some (.bipush 62, 2) := by decide +kernel
theorem dm_X12_worked_51 : mj_dec prog_14_method_51_code 51 = some (.if_icmp .ne 13, 3) := by decide +kernel
theorem dm_X12_worked_54 : mj_dec prog_14_method_51_code 54 = some (.lload_n 3, 1) := by decide +kernel
theorem dm_X12_worked_55 : mj_dec prog_14_method_51_code 55 = some (.lload 6, 2) := by decide +kernel
theorem dm_X12_worked_57 : mj_dec prog_14_method_51_code 57 = some (.lcmp, 1) := by decide +kernel
theorem dm_X12_worked_58 : mj_dec prog_14_method_51_code 58 = some (.ifCond .le 17, 3) := by decide +kernel
theorem dm_X12_worked_61 : mj_dec prog_14_method_51_code 61 = some (.goto 10, 3) := by decide +kernel
theorem dm_X12_worked_64 : mj_dec prog_14_method_51_code 64 = some (.lload_n 3, 1) := by decide +kernel
theorem dm_X12_worked_65 : mj_dec prog_14_method_51_code 65 = some (.lload 6, 2) := by decide +kernel
theorem dm_X12_worked_67 : mj_dec prog_14_method_51_code 67 = some (.lcmp, 1) := by decide +kernel
theorem dm_X12_worked_68 : mj_dec prog_14_method_51_code 68 = some (.ifCond .ne 7, 3) := by decide +kernel
theorem dm_X12_worked_71 : mj_dec prog_14_method_51_code 71 = some (.lconst 1, 1) := by decide +kernel
theorem dm_X12_worked_72 : mj_dec prog_14_method_51_code 72 = some (.goto 4, 3) := by decide +kernel
theorem dm_X12_worked_75 : mj_dec prog_14_method_51_code 75 = some (.lconst 0, 1) := by decide +kernel
theorem dm_X12_worked_76 : mj_dec prog_14_method_51_code 76 = some (.lreturn, 1) := by decide +kernel
theorem dm_X12_worked_77 : mj_dec prog_14_method_51_code 77 = some (.iload_n 2, 1) := by decide +kernel
theorem dm_X12_worked_78 : mj_dec prog_14_method_51_code 78 = some (.ifCond .ne 8, 3) := by decide +kernel
theorem dm_X12_worked_81 : mj_dec prog_14_method_51_code 81 = some (.iload 5, 2) := by decide +kernel
theorem dm_X12_worked_83 : mj_dec prog_14_method_51_code 83 = some (.ifCond .eq 12, 3) := by decide +kernel
theorem dm_X12_worked_86 : mj_dec prog_14_method_51_code 86 = some (.aload_n 0, 1) := by decide +kernel
theorem dm_X12_worked_87 : mj_dec prog_14_method_51_code 87 = some (.iconst 5, 1) := by decide +kernel
theorem dm_X12_worked_88 : mj_dec prog_14_method_51_code 88 = some (.iload 8, 2) := by decide +kernel
theorem dm_X12_worked_90 : mj_dec prog_14_method_51_code 90 = some (.invokevirtual 190, 3) := by decide +kernel
theorem dm_X12_worked_93 : mj_dec prog_14_method_51_code 93 = some (.i2l, 1) := by decide +kernel
theorem dm_X12_worked_94 : mj_dec prog_14_method_51_code 94 = some (.lreturn, 1) := by decide +kernel
theorem dm_X12_worked_95 : mj_dec prog_14_method_51_code 95 = some (.iload_n 1, 1) := by decide +kernel
theorem dm_X12_worked_96 : mj_dec prog_14_method_51_code 96 = some (.tableswitch 291 33 45 #[213, 291, 291, 291, 121, 277, 291, 291, 291, 111, 68, 291, 78], 68) := by decide +kernel
theorem dm_X12_worked_164 : mj_dec prog_14_method_51_code 164 = some (.aload_n 0, 1) := by decide +kernel
theorem dm_X12_worked_165 : mj_dec prog_14_method_51_code 165 = some (.lload_n 3, 1) := by decide +kernel
theorem dm_X12_worked_166 : mj_dec prog_14_method_51_code 166 = some (.lload 6, 2) := by decide +kernel
theorem dm_X12_worked_168 : mj_dec prog_14_method_51_code 168 = some (.iload 8, 2) := by decide +kernel
theorem dm_X12_worked_170 : mj_dec prog_14_method_51_code 170 = some (.invokevirtual 340, 3) := by decide +kernel
theorem dm_X12_worked_173 : mj_dec prog_14_method_51_code 173 = some (.lreturn, 1) := by decide +kernel
theorem dm_X12_worked_174 : mj_dec prog_14_method_51_code 174 = some (.lload_n 3, 1) := by decide +kernel
theorem dm_X12_worked_175 : mj_dec prog_14_method_51_code 175 = some (.lload 6, 2) := by decide +kernel
theorem dm_X12_worked_177 : mj_dec prog_14_method_51_code 177 = some (.lxor, 1) := by decide +kernel
theorem dm_X12_worked_178 : mj_dec prog_14_method_51_code 178 = some (.lload_n 3, 1) := by decide +kernel
theorem dm_X12_worked_179 : mj_dec prog_14_method_51_code 179 = some (.lload_n 3, 1) := by decide +kernel
theorem dm_X12_worked_180 : mj_dec prog_14_method_51_code 180 = some (.lload 6, 2) := by decide +kernel
theorem dm_X12_worked_182 : mj_dec prog_14_method_51_code 182 = some (.lsub, 1) := by decide +kernel
theorem dm_X12_worked_183 : mj_dec prog_14_method_51_code 183 = some (.lxor, 1) := by decide +kernel
theorem dm_X12_worked_184 : mj_dec prog_14_method_51_code 184 = some (.land, 1) := by decide +kernel
theorem dm_X12_worked_185 : mj_dec prog_14_method_51_code 185 = some (.lconst 0, 1) := by decide +kernel
theorem dm_X12_worked_186 : mj_dec prog_14_method_51_code 186 = some (.lcmp, 1) := by decide +kernel
theorem dm_X12_worked_187 : mj_dec prog_14_method_51_code 187 = some (.ifCond .ge 15, 3) := by decide +kernel
theorem dm_X12_worked_190 : mj_dec prog_14_method_51_code 190 = some (.aload_n 0, 1) := by decide +kernel
theorem dm_X12_worked_191 : mj_dec prog_14_method_51_code 191 = some (.bipush 6, 2) := by decide +kernel
theorem dm_X12_worked_193 : mj_dec prog_14_method_51_code 193 = some (.iload 8, 2) := by decide +kernel
theorem dm_X12_worked_195 : mj_dec prog_14_method_51_code 195 = some (.invokevirtual 190, 3) := by decide +kernel
theorem dm_X12_worked_198 : mj_dec prog_14_method_51_code 198 = some (.i2l, 1) := by decide +kernel
theorem dm_X12_worked_199 : mj_dec prog_14_method_51_code 199 = some (.goto 7, 3) := by decide +kernel
theorem dm_X12_worked_202 : mj_dec prog_14_method_51_code 202 = some (.lload_n 3, 1) := by decide +kernel
theorem dm_X12_worked_203 : mj_dec prog_14_method_51_code 203 = some (.lload 6, 2) := by decide +kernel
theorem dm_X12_worked_205 : mj_dec prog_14_method_51_code 205 = some (.lsub, 1) := by decide +kernel
theorem dm_X12_worked_206 : mj_dec prog_14_method_51_code 206 = some (.lreturn, 1) := by decide +kernel
theorem dm_X12_worked_207 : mj_dec prog_14_method_51_code 207 = some (.aload_n 0, 1) := by decide +kernel
theorem dm_X12_worked_208 : mj_dec prog_14_method_51_code 208 = some (.lload_n 3, 1) := by decide +kernel
theorem dm_X12_worked_209 : mj_dec prog_14_method_51_code 209 = some (.lload 6, 2) := by decide +kernel
theorem dm_X12_worked_211 : mj_dec prog_14_method_51_code 211 = some (.iload 8, 2) := by decide +kernel
theorem dm_X12_worked_213 : mj_dec prog_14_method_51_code 213 = some (.invokevirtual 344, 3) := by decide +kernel
theorem dm_X12_worked_216 : mj_dec prog_14_method_51_code 216 = some (.lreturn, 1) := by decide +kernel
theorem dm_X12_worked_217 : mj_dec prog_14_method_51_code 217 = some (.lload 6, 2) := by decide +kernel
theorem dm_X12_worked_219 : mj_dec prog_14_method_51_code 219 = some (.lconst 0, 1) := by decide +kernel
theorem dm_X12_worked_220 : mj_dec prog_14_method_51_code 220 = some (.lcmp, 1) := by decide +kernel
theorem dm_X12_worked_221 : mj_dec prog_14_method_51_code 221 = some (.ifCond .ne 12, 3) := by decide +kernel
theorem dm_X12_worked_224 : mj_dec prog_14_method_51_code 224 = some (.aload_n 0, 1) := by decide +kernel
theorem dm_X12_worked_225 : mj_dec prog_14_method_51_code 225 = some (.iconst 5, 1) := by decide +kernel
theorem dm_X12_worked_226 : mj_dec prog_14_method_51_code 226 = some (.iload 8, 2) := by decide +kernel
theorem dm_X12_worked_228 : mj_dec prog_14_method_51_code 228 = some (.invokevirtual 190, 3) := by decide +kernel
theorem dm_X12_worked_231 : mj_dec prog_14_method_51_code 231 = some (.i2l, 1) := by decide +kernel
theorem dm_X12_worked_232 : mj_dec prog_14_method_51_code 232 = some (.lreturn, 1) := by decide +kernel
theorem dm_X12_worked_233 : mj_dec prog_14_method_51_code 233 = some (.lload_n 3, 1) := by decide +kernel
theorem dm_X12_worked_234 : mj_dec prog_14_method_51_code 234 = some (.ldc2_w 262, 3) := by decide +kernel
theorem dm_X12_worked_237 : mj_dec prog_14_method_51_code 237 = some (.lcmp, 1) := by decide +kernel
theorem dm_X12_worked_238 : mj_dec prog_14_method_51_code 238 = some (.ifCond .ne 22, 3) := by decide +kernel
theorem dm_X12_worked_241 : mj_dec prog_14_method_51_code 241 = some (.lload 6, 2) := by decide +kernel
theorem dm_X12_worked_243 : mj_dec prog_14_method_51_code 243 = some (.ldc2_w 253, 3) := by decide +kernel
theorem dm_X12_worked_246 : mj_dec prog_14_method_51_code 246 = some (.lcmp, 1) := by decide +kernel
theorem dm_X12_worked_247 : mj_dec prog_14_method_51_code 247 = some (.ifCond .ne 13, 3) := by decide +kernel
theorem dm_X12_worked_250 : mj_dec prog_14_method_51_code 250 = some (.aload_n 0, 1) := by decide +kernel
theorem dm_X12_worked_251 : mj_dec prog_14_method_51_code 251 = some (.bipush 6, 2) := by decide +kernel
theorem dm_X12_worked_253 : mj_dec prog_14_method_51_code 253 = some (.iload 8, 2) := by decide +kernel
theorem dm_X12_worked_255 : mj_dec prog_14_method_51_code 255 = some (.invokevirtual 190, 3) := by decide +kernel
theorem dm_X12_worked_258 : mj_dec prog_14_method_51_code 258 = some (.i2l, 1) := by decide +kernel
theorem dm_X12_worked_259 : mj_dec prog_14_method_51_code 259 = some (.lreturn, 1) := by decide +kernel
theorem dm_X12_worked_260 : mj_dec prog_14_method_51_code 260 = some (.lload_n 3, 1) := by decide +kernel
theorem dm_X12_worked_261 : mj_dec prog_14_method_51_code 261 = some (.lload 6, 2) := by decide +kernel
theorem dm_X12_worked_263 : mj_dec prog_14_method_51_code 263 = some (.lrem, 1) := by decide +kernel
theorem dm_X12_worked_264 : mj_dec prog_14_method_51_code 264 = some (.lconst 0, 1) := by decide +kernel
theorem dm_X12_worked_265 : mj_dec prog_14_method_51_code 265 = some (.lcmp, 1) := by decide +kernel
theorem dm_X12_worked_266 : mj_dec prog_14_method_51_code 266 = some (.ifCond .eq 38, 3) := by decide +kernel
theorem dm_X12_worked_269 : mj_dec prog_14_method_51_code 269 = some (.lload_n 3, 1) := by decide +kernel
theorem dm_X12_worked_270 : mj_dec prog_14_method_51_code 270 = some (.lconst 0, 1) := by decide +kernel
theorem dm_X12_worked_271 : mj_dec prog_14_method_51_code 271 = some (.lcmp, 1) := by decide +kernel
theorem dm_X12_worked_272 : mj_dec prog_14_method_51_code 272 = some (.ifCond .ge 7, 3) := by decide +kernel
theorem dm_X12_worked_275 : mj_dec prog_14_method_51_code 275 = some (.iconst 1, 1) := by decide +kernel
theorem dm_X12_worked_276 : mj_dec prog_14_method_51_code 276 = some (.goto 4, 3) := by decide +kernel
theorem dm_X12_worked_279 : mj_dec prog_14_method_51_code 279 = some (.iconst 0, 1) := by decide +kernel
theorem dm_X12_worked_280 : mj_dec prog_14_method_51_code 280 = some (.lload 6, 2) := by decide +kernel
theorem dm_X12_worked_282 : mj_dec prog_14_method_51_code 282 = some (.lconst 0, 1) := by decide +kernel
theorem dm_X12_worked_283 : mj_dec prog_14_method_51_code 283 = some (.lcmp, 1) := by decide +kernel
theorem dm_X12_worked_284 : mj_dec prog_14_method_51_code 284 = some (.ifCond .ge 7, 3) := by decide +kernel
theorem dm_X12_worked_287 : mj_dec prog_14_method_51_code 287 = some (.iconst 1, 1) := by decide +kernel
theorem dm_X12_worked_288 : mj_dec prog_14_method_51_code 288 = some (.goto 4, 3) := by decide +kernel
theorem dm_X12_worked_291 : mj_dec prog_14_method_51_code 291 = some (.iconst 0, 1) := by decide +kernel
theorem dm_X12_worked_292 : mj_dec prog_14_method_51_code 292 = some (.if_icmp .eq 12, 3) := by decide +kernel
theorem dm_X12_worked_295 : mj_dec prog_14_method_51_code 295 = some (.lload_n 3, 1) := by decide +kernel
theorem dm_X12_worked_296 : mj_dec prog_14_method_51_code 296 = some (.lload 6, 2) := by decide +kernel
theorem dm_X12_worked_298 : mj_dec prog_14_method_51_code 298 = some (.ldiv, 1) := by decide +kernel
theorem dm_X12_worked_299 : mj_dec prog_14_method_51_code 299 = some (.lconst 1, 1) := by decide +kernel
theorem dm_X12_worked_300 : mj_dec prog_14_method_51_code 300 = some (.lsub, 1) := by decide +kernel
theorem dm_X12_worked_301 : mj_dec prog_14_method_51_code 301 = some (.goto 7, 3) := by decide +kernel
theorem dm_X12_worked_304 : mj_dec prog_14_method_51_code 304 = some (.lload_n 3, 1) := by decide +kernel
theorem dm_X12_worked_305 : mj_dec prog_14_method_51_code 305 = some (.lload 6, 2) := by decide +kernel
theorem dm_X12_worked_307 : mj_dec prog_14_method_51_code 307 = some (.ldiv, 1) := by decide +kernel
theorem dm_X12_worked_308 : mj_dec prog_14_method_51_code 308 = some (.lreturn, 1) := by decide +kernel
theorem dm_X12_worked_309 : mj_dec prog_14_method_51_code 309 = some (.lload_n 3, 1) := by decide +kernel
theorem dm_X12_worked_310 : mj_dec prog_14_method_51_code 310 = some (.lconst 0, 1) := by decide +kernel
theorem dm_X12_worked_311 : mj_dec prog_14_method_51_code 311 = some (.lcmp, 1) := by decide +kernel
theorem dm_X12_worked_312 : mj_dec prog_14_method_51_code 312 = some (.ifCond .ne 12, 3) := by decide +kernel
theorem dm_X12_worked_315 : mj_dec prog_14_method_51_code 315 = some (.aload_n 0, 1) := by decide +kernel
theorem dm_X12_worked_316 : mj_dec prog_14_method_51_code 316 = some (.iconst 5, 1) := by decide +kernel
theorem dm_X12_worked_317 : mj_dec prog_14_method_51_code 317 = some (.iload 8, 2) := by decide +kernel
theorem dm_X12_worked_319 : mj_dec prog_14_method_51_code 319 = some (.invokevirtual 190, 3) := by decide +kernel
theorem dm_X12_worked_322 : mj_dec prog_14_method_51_code 322 = some (.i2l, 1) := by decide +kernel
theorem dm_X12_worked_323 : mj_dec prog_14_method_51_code 323 = some (.lreturn, 1) := by decide +kernel
theorem dm_X12_worked_324 : mj_dec prog_14_method_51_code 324 = some (.lload 6, 2) := by decide +kernel
theorem dm_X12_worked_326 : mj_dec prog_14_method_51_code 326 = some (.lload_n 3, 1) := by decide +kernel
theorem dm_X12_worked_327 : mj_dec prog_14_method_51_code 327 = some (.lrem, 1) := by decide +kernel
theorem dm_X12_worked_328 : mj_dec prog_14_method_51_code 328 = some (.lconst 0, 1) := by decide +kernel
theorem dm_X12_worked_329 : mj_dec prog_14_method_51_code 329 = some (.lcmp, 1) := by decide +kernel
theorem dm_X12_worked_330 : mj_dec prog_14_method_51_code 330 = some (.ifCond .eq 38, 3) := by decide +kernel
theorem dm_X12_worked_333 : mj_dec prog_14_method_51_code 333 = some (.lload 6, 2) := by decide +kernel
theorem dm_X12_worked_335 : mj_dec prog_14_method_51_code 335 = some (.lconst 0, 1) := by decide +kernel
theorem dm_X12_worked_336 : mj_dec prog_14_method_51_code 336 = some (.lcmp, 1) := by decide +kernel
theorem dm_X12_worked_337 : mj_dec prog_14_method_51_code 337 = some (.ifCond .ge 7, 3) := by decide +kernel
theorem dm_X12_worked_340 : mj_dec prog_14_method_51_code 340 = some (.iconst 1, 1) := by decide +kernel
theorem dm_X12_worked_341 : mj_dec prog_14_method_51_code 341 = some (.goto 4, 3) := by decide +kernel
theorem dm_X12_worked_344 : mj_dec prog_14_method_51_code 344 = some (.iconst 0, 1) := by decide +kernel
theorem dm_X12_worked_345 : mj_dec prog_14_method_51_code 345 = some (.lload_n 3, 1) := by decide +kernel
theorem dm_X12_worked_346 : mj_dec prog_14_method_51_code 346 = some (.lconst 0, 1) := by decide +kernel
theorem dm_X12_worked_347 : mj_dec prog_14_method_51_code 347 = some (.lcmp, 1) := by decide +kernel
theorem dm_X12_worked_348 : mj_dec prog_14_method_51_code 348 = some (.ifCond .ge 7, 3) := by decide +kernel
theorem dm_X12_worked_351 : mj_dec prog_14_method_51_code 351 = some (.iconst 1, 1) := by decide +kernel
theorem dm_X12_worked_352 : mj_dec prog_14_method_51_code 352 = some (.goto 4, 3) := by decide +kernel
theorem dm_X12_worked_355 : mj_dec prog_14_method_51_code 355 = some (.iconst 0, 1) := by decide +kernel
theorem dm_X12_worked_356 : mj_dec prog_14_method_51_code 356 = some (.if_icmp .eq 12, 3) := by decide +kernel
theorem dm_X12_worked_359 : mj_dec prog_14_method_51_code 359 = some (.lload 6, 2) := by decide +kernel
theorem dm_X12_worked_361 : mj_dec prog_14_method_51_code 361 = some (.lload_n 3, 1) := by decide +kernel
theorem dm_X12_worked_362 : mj_dec prog_14_method_51_code 362 = some (.lrem, 1) := by decide +kernel
theorem dm_X12_worked_363 : mj_dec prog_14_method_51_code 363 = some (.lload_n 3, 1) := by decide +kernel
theorem dm_X12_worked_364 : mj_dec prog_14_method_51_code 364 = some (.ladd, 1) := by decide +kernel
theorem dm_X12_worked_365 : mj_dec prog_14_method_51_code 365 = some (.goto 7, 3) := by decide +kernel
theorem dm_X12_worked_368 : mj_dec prog_14_method_51_code 368 = some (.lload 6, 2) := by decide +kernel
theorem dm_X12_worked_370 : mj_dec prog_14_method_51_code 370 = some (.lload_n 3, 1) := by decide +kernel
theorem dm_X12_worked_371 : mj_dec prog_14_method_51_code 371 = some (.lrem, 1) := by decide +kernel
theorem dm_X12_worked_372 : mj_dec prog_14_method_51_code 372 = some (.lreturn, 1) := by decide +kernel
theorem dm_X12_worked_373 : mj_dec prog_14_method_51_code 373 = some (.lload_n 3, 1) := by decide +kernel
theorem dm_X12_worked_374 : mj_dec prog_14_method_51_code 374 = some (.lload 6, 2) := by decide +kernel
theorem dm_X12_worked_376 : mj_dec prog_14_method_51_code 376 = some (.lcmp, 1) := by decide +kernel
theorem dm_X12_worked_377 : mj_dec prog_14_method_51_code 377 = some (.ifCond .ge 7, 3) := by decide +kernel
theorem dm_X12_worked_380 : mj_dec prog_14_method_51_code 380 = some (.lload_n 3, 1) := by decide +kernel
theorem dm_X12_worked_381 : mj_dec prog_14_method_51_code 381 = some (.goto 5, 3) := by decide +kernel
theorem dm_X12_worked_384 : mj_dec prog_14_method_51_code 384 = some (.lload 6, 2) := by decide +kernel
theorem dm_X12_worked_386 : mj_dec prog_14_method_51_code 386 = some (.lreturn, 1) := by decide +kernel
theorem dm_X12_worked_387 : mj_dec prog_14_method_51_code 387 = some (.lload_n 3, 1) := by decide +kernel
theorem dm_X12_worked_388 : mj_dec prog_14_method_51_code 388 = some (.lload 6, 2) := by decide +kernel
theorem dm_X12_worked_390 : mj_dec prog_14_method_51_code 390 = some (.lcmp, 1) := by decide +kernel
theorem dm_X12_worked_391 : mj_dec prog_14_method_51_code 391 = some (.ifCond .le 7, 3) := by decide +kernel
theorem dm_X12_worked_394 : mj_dec prog_14_method_51_code 394 = some (.lload_n 3, 1) := by decide +kernel
theorem dm_X12_worked_395 : mj_dec prog_14_method_51_code 395 = some (.goto 5, 3) := by decide +kernel
theorem dm_X12_worked_398 : mj_dec prog_14_method_51_code 398 = some (.lload 6, 2) := by decide +kernel
theorem dm_X12_worked_400 : mj_dec prog_14_method_51_code 400 = some (.lreturn, 1) := by decide +kernel
theorem r_worked_ {xt : mj_X} {d : Nat} {pre post : mj_H} {s : RS} {a b : Int64} {place : Int} (hm : pre.length = 102) (hd1 : 3 ≤ d) (he0 : s.1 5 = 0) (hca : 0 ≤ s.1 10 ∧ s.1 10 ≤ 100) {vb : Int} {k1 k2 : Nat} (hvb : vb = 43 ∨ vb = 45 ∨ vb = 42 ∨ vb = 37 ∨ vb = 38 ∨ vb = 124 ∨ vb = 60 ∨ vb = 62 ∨ vb = 61 ∨ vb = 33) : pgV xt d 278 [.ref 102, ii vb, zz (decide (k1 = 1 ∨ k1 = 3)), .long a, zz (decide (k2 = 1 ∨ k2 = 3)), .long b, ii place] (rS pre post s) (lgR pre post s place (outF vb k1 k2 a b)) := by
  have h0 : (Int64.ofInt 0).toInt = 0 := by decide
  have hm1 : (Int64.ofInt (-1)).toInt = -1 := by decide
  have h1_ : (Int64.ofInt 1).toInt = 1 := by decide
  have hmx : (Int64.ofInt 9223372036854775807).toInt = 9223372036854775807 := by decide
  have hmn : (Int64.ofInt (-9223372036854775808)).toInt = -9223372036854775808 := by decide
  have r1 := l_rng a
  have r2 := l_rng b
  refine x_enter pm_X12_worked (L0 := [(0, .ref 102), (1, ii vb), (2, zz (decide (k1 = 1 ∨ k1 = 3))), (3, .long a), (5, zz (decide (k2 = 1 ∨ k2 = 3))), (6, .long b), (8, ii place)]) rfl (Nat.le_of_ble_eq_true rfl) (by omega) ?_
  refine me1 (pc' := 1) (L' := [(0, .ref 102), (1, ii vb), (2, zz (decide (k1 = 1 ∨ k1 = 3))), (3, .long a), (5, zz (decide (k2 = 1 ∨ k2 = 3))), (6, .long b), (8, ii place)]) (S' := [ii vb]) dm_X12_worked_0 rfl rfl rfl rfl ?_
  refine x_cp (pc' := 4) (v := zz (decide (vb = 60 ∨ vb = 62 ∨ vb = 61))) (rest := []) dm_X12_worked_1 rfl (g_invs (As := [ii vb]) (S := []) rfl rfl rfl) rfl rfl rfl (r_compares_ (by omega) (by omega)) ?_
  refine y_zeq (c := decide (vb = 60 ∨ vb = 62 ∨ vb = 61)) (t := 77) (pc' := 7) dm_X12_worked_4 rfl rfl (fun hb1 => ?_) (fun hb1 => ?_)
  · replace hb1 := dF hb1
    refine me1 (pc' := 78) (L' := [(0, .ref 102), (1, ii vb), (2, zz (decide (k1 = 1 ∨ k1 = 3))), (3, .long a), (5, zz (decide (k2 = 1 ∨ k2 = 3))), (6, .long b), (8, ii place)]) (S' := [zz (decide (k1 = 1 ∨ k1 = 3))]) dm_X12_worked_77 rfl rfl rfl rfl ?_
    refine y_zne (c := decide (k1 = 1 ∨ k1 = 3)) (t := 86) (pc' := 81) dm_X12_worked_78 rfl rfl (fun hb2 => ?_) (fun hb2 => ?_)
    · replace hb2 := dT hb2
      refine me1 (pc' := 87) (L' := [(0, .ref 102), (1, ii vb), (2, zz (decide (k1 = 1 ∨ k1 = 3))), (3, .long a), (5, zz (decide (k2 = 1 ∨ k2 = 3))), (6, .long b), (8, ii place)]) (S' := [.ref 102]) dm_X12_worked_86 rfl rfl rfl rfl ?_
      refine me0 (pc' := 88) (S' := [ii 5, .ref 102]) dm_X12_worked_87 rfl rfl rfl rfl ?_
      refine me1 (pc' := 90) (L' := [(0, .ref 102), (1, ii vb), (2, zz (decide (k1 = 1 ∨ k1 = 3))), (3, .long a), (5, zz (decide (k2 = 1 ∨ k2 = 3))), (6, .long b), (8, ii place)]) (S' := [ii place, ii 5, .ref 102]) dm_X12_worked_88 rfl rfl rfl rfl ?_
      refine x_cv (pc' := 93) (rest := []) dm_X12_worked_90 rfl (q_inv (As := [ii 5, ii place]) (S := []) hm rfl rfl rfl) rfl rfl rfl (r_fail_ (s := s) hm (by omega) he0 hca.1 hca.2) ?_
      rintro _ _ ⟨rfl, rfl⟩
      refine y_i2l (a := -1) dm_X12_worked_93 (pc' := 94) rfl (by omega) (by omega) ?_
      refine y_ret (r := some (.long (Int64.ofInt (-1)))) dm_X12_worked_94 rfl rfl rfl ?_
      exact ⟨_, rfl, lgR_f (c := 5) (v := Int64.ofInt 0) (by unfold outF; (repeat (first | rw [if_pos (by omega)] | rw [if_neg (by omega)]))) (by decide)⟩
    · replace hb2 := dF hb2
      refine me1 (pc' := 83) (L' := [(0, .ref 102), (1, ii vb), (2, zz (decide (k1 = 1 ∨ k1 = 3))), (3, .long a), (5, zz (decide (k2 = 1 ∨ k2 = 3))), (6, .long b), (8, ii place)]) (S' := [zz (decide (k2 = 1 ∨ k2 = 3))]) dm_X12_worked_81 rfl rfl rfl rfl ?_
      refine y_zeq (c := decide (k2 = 1 ∨ k2 = 3)) (t := 95) (pc' := 86) dm_X12_worked_83 rfl rfl (fun hb3 => ?_) (fun hb3 => ?_)
      · replace hb3 := dF hb3
        refine me1 (pc' := 96) (L' := [(0, .ref 102), (1, ii vb), (2, zz (decide (k1 = 1 ∨ k1 = 3))), (3, .long a), (5, zz (decide (k2 = 1 ∨ k2 = 3))), (6, .long b), (8, ii place)]) (S' := [ii vb]) dm_X12_worked_95 rfl rfl rfl rfl ?_
        refine y_sw (a := vb) (33) (t := 309) (i := .tableswitch 291 33 45 #[213, 291, 291, 291, 121, 277, 291, 291, 291, 111, 68, 291, 78]) (len := 68) dm_X12_worked_96 rfl rfl rfl (by omega) (by decide) (fun hb4 => ?_) (fun hb4 => ?_)
        · refine me1 (pc' := 310) (L' := [(0, .ref 102), (1, ii vb), (2, zz (decide (k1 = 1 ∨ k1 = 3))), (3, .long a), (5, zz (decide (k2 = 1 ∨ k2 = 3))), (6, .long b), (8, ii place)]) (S' := [.long a]) dm_X12_worked_309 rfl rfl rfl rfl ?_
          refine me0 (pc' := 311) (S' := [.long (Int64.ofInt 0), .long a]) dm_X12_worked_310 rfl rfl rfl rfl ?_
          refine y_lne (x := a) (y := Int64.ofInt 0) (t := 324) (pc1 := 312) (pc' := 315) dm_X12_worked_311 rfl dm_X12_worked_312 rfl rfl (fun hb5 => ?_) (fun hb5 => ?_)
          · have hb5i : ¬ (a).toInt = (Int64.ofInt 0).toInt := fun z => hb5 (Int64.toInt_inj.mp z)
            refine me1 (pc' := 326) (L' := [(0, .ref 102), (1, ii vb), (2, zz (decide (k1 = 1 ∨ k1 = 3))), (3, .long a), (5, zz (decide (k2 = 1 ∨ k2 = 3))), (6, .long b), (8, ii place)]) (S' := [.long b]) dm_X12_worked_324 rfl rfl rfl rfl ?_
            refine me1 (pc' := 327) (L' := [(0, .ref 102), (1, ii vb), (2, zz (decide (k1 = 1 ∨ k1 = 3))), (3, .long a), (5, zz (decide (k2 = 1 ∨ k2 = 3))), (6, .long b), (8, ii place)]) (S' := [.long a, .long b]) dm_X12_worked_326 rfl rfl rfl rfl ?_
            refine y_lrem (x := b) (y := a) dm_X12_worked_327 (pc' := 328) rfl (fun z => by have hz9 := congrArg Int64.toInt z; have e9 : (0 : Int64).toInt = 0 := rfl; omega) ?_
            refine me0 (pc' := 329) (S' := [.long (Int64.ofInt 0), .long (b - b / a * a)]) dm_X12_worked_328 rfl rfl rfl rfl ?_
            refine y_leq (x := b - b / a * a) (y := Int64.ofInt 0) (t := 368) (pc1 := 330) (pc' := 333) dm_X12_worked_329 rfl dm_X12_worked_330 rfl rfl (fun hb6 => ?_) (fun hb6 => ?_)
            · have hb6i := congrArg Int64.toInt hb6
              refine me1 (pc' := 370) (L' := [(0, .ref 102), (1, ii vb), (2, zz (decide (k1 = 1 ∨ k1 = 3))), (3, .long a), (5, zz (decide (k2 = 1 ∨ k2 = 3))), (6, .long b), (8, ii place)]) (S' := [.long b]) dm_X12_worked_368 rfl rfl rfl rfl ?_
              refine me1 (pc' := 371) (L' := [(0, .ref 102), (1, ii vb), (2, zz (decide (k1 = 1 ∨ k1 = 3))), (3, .long a), (5, zz (decide (k2 = 1 ∨ k2 = 3))), (6, .long b), (8, ii place)]) (S' := [.long a, .long b]) dm_X12_worked_370 rfl rfl rfl rfl ?_
              refine y_lrem (x := b) (y := a) dm_X12_worked_371 (pc' := 372) rfl (fun z => by have hz9 := congrArg Int64.toInt z; have e9 : (0 : Int64).toInt = 0 := rfl; omega) ?_
              refine y_ret (r := some (.long (b - b / a * a))) dm_X12_worked_372 rfl rfl rfl ?_
              have hrm := l_rm (x := b) (y := a)
              have htm := tmod_rng b.toInt a.toInt
              have hqq : rstI b.toInt a.toInt = b.toInt.tmod a.toInt := by unfold rstI; generalize b.toInt.tmod a.toInt = t at *; rw [if_neg (by omega)]
              have hz : rstF b a = (0, b - b / a * a) := by unfold rstF; rw [if_neg (by omega), hqq, ← hrm, Int64.ofInt_toInt]
              first | (exfalso; omega) | exact ⟨_, rfl, lgR_v (by unfold outF; (repeat (first | rw [if_pos (by omega)] | rw [if_neg (by omega)])); exact hz)⟩
            · have hb6i : ¬ (b - b / a * a).toInt = (Int64.ofInt 0).toInt := fun z => hb6 (Int64.toInt_inj.mp z)
              refine me1 (pc' := 335) (L' := [(0, .ref 102), (1, ii vb), (2, zz (decide (k1 = 1 ∨ k1 = 3))), (3, .long a), (5, zz (decide (k2 = 1 ∨ k2 = 3))), (6, .long b), (8, ii place)]) (S' := [.long b]) dm_X12_worked_333 rfl rfl rfl rfl ?_
              refine me0 (pc' := 336) (S' := [.long (Int64.ofInt 0), .long b]) dm_X12_worked_335 rfl rfl rfl rfl ?_
              refine y_lge (x := b) (y := Int64.ofInt 0) (t := 344) (pc1 := 337) (pc' := 340) dm_X12_worked_336 rfl dm_X12_worked_337 rfl rfl (fun hb7 => ?_) (fun hb7 => ?_)
              · rw [h0] at hb7
                refine me0 (pc' := 345) (S' := [ii 0]) dm_X12_worked_344 rfl rfl rfl rfl ?_
                refine me1 (pc' := 346) (L' := [(0, .ref 102), (1, ii vb), (2, zz (decide (k1 = 1 ∨ k1 = 3))), (3, .long a), (5, zz (decide (k2 = 1 ∨ k2 = 3))), (6, .long b), (8, ii place)]) (S' := [.long a, ii 0]) dm_X12_worked_345 rfl rfl rfl rfl ?_
                refine me0 (pc' := 347) (S' := [.long (Int64.ofInt 0), .long a, ii 0]) dm_X12_worked_346 rfl rfl rfl rfl ?_
                refine y_lge (x := a) (y := Int64.ofInt 0) (t := 355) (pc1 := 348) (pc' := 351) dm_X12_worked_347 rfl dm_X12_worked_348 rfl rfl (fun hb8 => ?_) (fun hb8 => ?_)
                · rw [h0] at hb8
                  refine me0 (pc' := 356) (S' := [ii 0, ii 0]) dm_X12_worked_355 rfl rfl rfl rfl ?_
                  refine me_2t (pc' := 368) dm_X12_worked_356 rfl (by decide) ?_
                  refine me1 (pc' := 370) (L' := [(0, .ref 102), (1, ii vb), (2, zz (decide (k1 = 1 ∨ k1 = 3))), (3, .long a), (5, zz (decide (k2 = 1 ∨ k2 = 3))), (6, .long b), (8, ii place)]) (S' := [.long b]) dm_X12_worked_368 rfl rfl rfl rfl ?_
                  refine me1 (pc' := 371) (L' := [(0, .ref 102), (1, ii vb), (2, zz (decide (k1 = 1 ∨ k1 = 3))), (3, .long a), (5, zz (decide (k2 = 1 ∨ k2 = 3))), (6, .long b), (8, ii place)]) (S' := [.long a, .long b]) dm_X12_worked_370 rfl rfl rfl rfl ?_
                  refine y_lrem (x := b) (y := a) dm_X12_worked_371 (pc' := 372) rfl (fun z => by have hz9 := congrArg Int64.toInt z; have e9 : (0 : Int64).toInt = 0 := rfl; omega) ?_
                  refine y_ret (r := some (.long (b - b / a * a))) dm_X12_worked_372 rfl rfl rfl ?_
                  have hrm := l_rm (x := b) (y := a)
                  have htm := tmod_rng b.toInt a.toInt
                  have hqq : rstI b.toInt a.toInt = b.toInt.tmod a.toInt := by unfold rstI; generalize b.toInt.tmod a.toInt = t at *; rw [if_neg (by omega)]
                  have hz : rstF b a = (0, b - b / a * a) := by unfold rstF; rw [if_neg (by omega), hqq, ← hrm, Int64.ofInt_toInt]
                  first | (exfalso; omega) | exact ⟨_, rfl, lgR_v (by unfold outF; (repeat (first | rw [if_pos (by omega)] | rw [if_neg (by omega)])); exact hz)⟩
                · rw [h0] at hb8
                  refine me0 (pc' := 352) (S' := [ii 1, ii 0]) dm_X12_worked_351 rfl rfl rfl rfl ?_
                  refine me2 (pc' := 356) (S' := [ii 1, ii 0]) dm_X12_worked_352 rfl rfl rfl ?_
                  refine me_2f (pc' := 359) dm_X12_worked_356 rfl (by decide) rfl ?_
                  refine me1 (pc' := 361) (L' := [(0, .ref 102), (1, ii vb), (2, zz (decide (k1 = 1 ∨ k1 = 3))), (3, .long a), (5, zz (decide (k2 = 1 ∨ k2 = 3))), (6, .long b), (8, ii place)]) (S' := [.long b]) dm_X12_worked_359 rfl rfl rfl rfl ?_
                  refine me1 (pc' := 362) (L' := [(0, .ref 102), (1, ii vb), (2, zz (decide (k1 = 1 ∨ k1 = 3))), (3, .long a), (5, zz (decide (k2 = 1 ∨ k2 = 3))), (6, .long b), (8, ii place)]) (S' := [.long a, .long b]) dm_X12_worked_361 rfl rfl rfl rfl ?_
                  refine y_lrem (x := b) (y := a) dm_X12_worked_362 (pc' := 363) rfl (fun z => by have hz9 := congrArg Int64.toInt z; have e9 : (0 : Int64).toInt = 0 := rfl; omega) ?_
                  refine me1 (pc' := 364) (L' := [(0, .ref 102), (1, ii vb), (2, zz (decide (k1 = 1 ∨ k1 = 3))), (3, .long a), (5, zz (decide (k2 = 1 ∨ k2 = 3))), (6, .long b), (8, ii place)]) (S' := [.long a, .long (b - b / a * a)]) dm_X12_worked_363 rfl rfl rfl rfl ?_
                  refine me0 (pc' := 365) (S' := [.long ((b - b / a * a) + a)]) dm_X12_worked_364 rfl rfl rfl rfl ?_
                  refine me2 (pc' := 372) (S' := [.long ((b - b / a * a) + a)]) dm_X12_worked_365 rfl rfl rfl ?_
                  refine y_ret (r := some (.long ((b - b / a * a) + a))) dm_X12_worked_372 rfl rfl rfl ?_
                  have hrm := l_rm (x := b) (y := a)
                  have htm := tmod_rng b.toInt a.toInt
                  have hqq : rstI b.toInt a.toInt = b.toInt.tmod a.toInt + a.toInt := by unfold rstI; generalize b.toInt.tmod a.toInt = t at *; rw [if_pos (by omega)]
                  have hz : rstF b a = (0, (b - b / a * a) + a) := by unfold rstF; rw [if_neg (by omega), hqq, ← hrm, l_add]
                  first | (exfalso; omega) | exact ⟨_, rfl, lgR_v (by unfold outF; (repeat (first | rw [if_pos (by omega)] | rw [if_neg (by omega)])); exact hz)⟩
              · rw [h0] at hb7
                refine me0 (pc' := 341) (S' := [ii 1]) dm_X12_worked_340 rfl rfl rfl rfl ?_
                refine me2 (pc' := 345) (S' := [ii 1]) dm_X12_worked_341 rfl rfl rfl ?_
                refine me1 (pc' := 346) (L' := [(0, .ref 102), (1, ii vb), (2, zz (decide (k1 = 1 ∨ k1 = 3))), (3, .long a), (5, zz (decide (k2 = 1 ∨ k2 = 3))), (6, .long b), (8, ii place)]) (S' := [.long a, ii 1]) dm_X12_worked_345 rfl rfl rfl rfl ?_
                refine me0 (pc' := 347) (S' := [.long (Int64.ofInt 0), .long a, ii 1]) dm_X12_worked_346 rfl rfl rfl rfl ?_
                refine y_lge (x := a) (y := Int64.ofInt 0) (t := 355) (pc1 := 348) (pc' := 351) dm_X12_worked_347 rfl dm_X12_worked_348 rfl rfl (fun hb9 => ?_) (fun hb9 => ?_)
                · rw [h0] at hb9
                  refine me0 (pc' := 356) (S' := [ii 0, ii 1]) dm_X12_worked_355 rfl rfl rfl rfl ?_
                  refine me_2f (pc' := 359) dm_X12_worked_356 rfl (by decide) rfl ?_
                  refine me1 (pc' := 361) (L' := [(0, .ref 102), (1, ii vb), (2, zz (decide (k1 = 1 ∨ k1 = 3))), (3, .long a), (5, zz (decide (k2 = 1 ∨ k2 = 3))), (6, .long b), (8, ii place)]) (S' := [.long b]) dm_X12_worked_359 rfl rfl rfl rfl ?_
                  refine me1 (pc' := 362) (L' := [(0, .ref 102), (1, ii vb), (2, zz (decide (k1 = 1 ∨ k1 = 3))), (3, .long a), (5, zz (decide (k2 = 1 ∨ k2 = 3))), (6, .long b), (8, ii place)]) (S' := [.long a, .long b]) dm_X12_worked_361 rfl rfl rfl rfl ?_
                  refine y_lrem (x := b) (y := a) dm_X12_worked_362 (pc' := 363) rfl (fun z => by have hz9 := congrArg Int64.toInt z; have e9 : (0 : Int64).toInt = 0 := rfl; omega) ?_
                  refine me1 (pc' := 364) (L' := [(0, .ref 102), (1, ii vb), (2, zz (decide (k1 = 1 ∨ k1 = 3))), (3, .long a), (5, zz (decide (k2 = 1 ∨ k2 = 3))), (6, .long b), (8, ii place)]) (S' := [.long a, .long (b - b / a * a)]) dm_X12_worked_363 rfl rfl rfl rfl ?_
                  refine me0 (pc' := 365) (S' := [.long ((b - b / a * a) + a)]) dm_X12_worked_364 rfl rfl rfl rfl ?_
                  refine me2 (pc' := 372) (S' := [.long ((b - b / a * a) + a)]) dm_X12_worked_365 rfl rfl rfl ?_
                  refine y_ret (r := some (.long ((b - b / a * a) + a))) dm_X12_worked_372 rfl rfl rfl ?_
                  have hrm := l_rm (x := b) (y := a)
                  have htm := tmod_rng b.toInt a.toInt
                  have hqq : rstI b.toInt a.toInt = b.toInt.tmod a.toInt + a.toInt := by unfold rstI; generalize b.toInt.tmod a.toInt = t at *; rw [if_pos (by omega)]
                  have hz : rstF b a = (0, (b - b / a * a) + a) := by unfold rstF; rw [if_neg (by omega), hqq, ← hrm, l_add]
                  first | (exfalso; omega) | exact ⟨_, rfl, lgR_v (by unfold outF; (repeat (first | rw [if_pos (by omega)] | rw [if_neg (by omega)])); exact hz)⟩
                · rw [h0] at hb9
                  refine me0 (pc' := 352) (S' := [ii 1, ii 1]) dm_X12_worked_351 rfl rfl rfl rfl ?_
                  refine me2 (pc' := 356) (S' := [ii 1, ii 1]) dm_X12_worked_352 rfl rfl rfl ?_
                  refine me_2t (pc' := 368) dm_X12_worked_356 rfl (by decide) ?_
                  refine me1 (pc' := 370) (L' := [(0, .ref 102), (1, ii vb), (2, zz (decide (k1 = 1 ∨ k1 = 3))), (3, .long a), (5, zz (decide (k2 = 1 ∨ k2 = 3))), (6, .long b), (8, ii place)]) (S' := [.long b]) dm_X12_worked_368 rfl rfl rfl rfl ?_
                  refine me1 (pc' := 371) (L' := [(0, .ref 102), (1, ii vb), (2, zz (decide (k1 = 1 ∨ k1 = 3))), (3, .long a), (5, zz (decide (k2 = 1 ∨ k2 = 3))), (6, .long b), (8, ii place)]) (S' := [.long a, .long b]) dm_X12_worked_370 rfl rfl rfl rfl ?_
                  refine y_lrem (x := b) (y := a) dm_X12_worked_371 (pc' := 372) rfl (fun z => by have hz9 := congrArg Int64.toInt z; have e9 : (0 : Int64).toInt = 0 := rfl; omega) ?_
                  refine y_ret (r := some (.long (b - b / a * a))) dm_X12_worked_372 rfl rfl rfl ?_
                  have hrm := l_rm (x := b) (y := a)
                  have htm := tmod_rng b.toInt a.toInt
                  have hqq : rstI b.toInt a.toInt = b.toInt.tmod a.toInt := by unfold rstI; generalize b.toInt.tmod a.toInt = t at *; rw [if_neg (by omega)]
                  have hz : rstF b a = (0, b - b / a * a) := by unfold rstF; rw [if_neg (by omega), hqq, ← hrm, Int64.ofInt_toInt]
                  first | (exfalso; omega) | exact ⟨_, rfl, lgR_v (by unfold outF; (repeat (first | rw [if_pos (by omega)] | rw [if_neg (by omega)])); exact hz)⟩
          · have hb5i := congrArg Int64.toInt hb5
            refine me1 (pc' := 316) (L' := [(0, .ref 102), (1, ii vb), (2, zz (decide (k1 = 1 ∨ k1 = 3))), (3, .long a), (5, zz (decide (k2 = 1 ∨ k2 = 3))), (6, .long b), (8, ii place)]) (S' := [.ref 102]) dm_X12_worked_315 rfl rfl rfl rfl ?_
            refine me0 (pc' := 317) (S' := [ii 5, .ref 102]) dm_X12_worked_316 rfl rfl rfl rfl ?_
            refine me1 (pc' := 319) (L' := [(0, .ref 102), (1, ii vb), (2, zz (decide (k1 = 1 ∨ k1 = 3))), (3, .long a), (5, zz (decide (k2 = 1 ∨ k2 = 3))), (6, .long b), (8, ii place)]) (S' := [ii place, ii 5, .ref 102]) dm_X12_worked_317 rfl rfl rfl rfl ?_
            refine x_cv (pc' := 322) (rest := []) dm_X12_worked_319 rfl (q_inv (As := [ii 5, ii place]) (S := []) hm rfl rfl rfl) rfl rfl rfl (r_fail_ (s := s) hm (by omega) he0 hca.1 hca.2) ?_
            rintro _ _ ⟨rfl, rfl⟩
            refine y_i2l (a := -1) dm_X12_worked_322 (pc' := 323) rfl (by omega) (by omega) ?_
            refine y_ret (r := some (.long (Int64.ofInt (-1)))) dm_X12_worked_323 rfl rfl rfl ?_
            exact ⟨_, rfl, lgR_f (c := 5) (v := Int64.ofInt 0) (by unfold outF; (repeat (first | rw [if_pos (by omega)] | rw [if_neg (by omega)])); unfold rstF; rw [if_pos (by omega)]) (by decide)⟩
        refine y_sw (a := vb) (37) (t := 217) (i := .tableswitch 291 33 45 #[213, 291, 291, 291, 121, 277, 291, 291, 291, 111, 68, 291, 78]) (len := 68) dm_X12_worked_96 rfl rfl rfl (by omega) (by decide) (fun hb10 => ?_) (fun hb10 => ?_)
        · refine me1 (pc' := 219) (L' := [(0, .ref 102), (1, ii vb), (2, zz (decide (k1 = 1 ∨ k1 = 3))), (3, .long a), (5, zz (decide (k2 = 1 ∨ k2 = 3))), (6, .long b), (8, ii place)]) (S' := [.long b]) dm_X12_worked_217 rfl rfl rfl rfl ?_
          refine me0 (pc' := 220) (S' := [.long (Int64.ofInt 0), .long b]) dm_X12_worked_219 rfl rfl rfl rfl ?_
          refine y_lne (x := b) (y := Int64.ofInt 0) (t := 233) (pc1 := 221) (pc' := 224) dm_X12_worked_220 rfl dm_X12_worked_221 rfl rfl (fun hb11 => ?_) (fun hb11 => ?_)
          · have hb11i : ¬ (b).toInt = (Int64.ofInt 0).toInt := fun z => hb11 (Int64.toInt_inj.mp z)
            refine me1 (pc' := 234) (L' := [(0, .ref 102), (1, ii vb), (2, zz (decide (k1 = 1 ∨ k1 = 3))), (3, .long a), (5, zz (decide (k2 = 1 ∨ k2 = 3))), (6, .long b), (8, ii place)]) (S' := [.long a]) dm_X12_worked_233 rfl rfl rfl rfl ?_
            refine me3 (pc' := 237) (S' := [.long (Int64.ofInt (-9223372036854775808)), .long a]) dm_X12_worked_234 rfl rfl rfl rfl ?_
            refine y_lne (x := a) (y := Int64.ofInt (-9223372036854775808)) (t := 260) (pc1 := 238) (pc' := 241) dm_X12_worked_237 rfl dm_X12_worked_238 rfl rfl (fun hb12 => ?_) (fun hb12 => ?_)
            · have hb12i : ¬ (a).toInt = (Int64.ofInt (-9223372036854775808)).toInt := fun z => hb12 (Int64.toInt_inj.mp z)
              refine me1 (pc' := 261) (L' := [(0, .ref 102), (1, ii vb), (2, zz (decide (k1 = 1 ∨ k1 = 3))), (3, .long a), (5, zz (decide (k2 = 1 ∨ k2 = 3))), (6, .long b), (8, ii place)]) (S' := [.long a]) dm_X12_worked_260 rfl rfl rfl rfl ?_
              refine me1 (pc' := 263) (L' := [(0, .ref 102), (1, ii vb), (2, zz (decide (k1 = 1 ∨ k1 = 3))), (3, .long a), (5, zz (decide (k2 = 1 ∨ k2 = 3))), (6, .long b), (8, ii place)]) (S' := [.long b, .long a]) dm_X12_worked_261 rfl rfl rfl rfl ?_
              refine y_lrem (x := a) (y := b) dm_X12_worked_263 (pc' := 264) rfl (fun z => by have hz9 := congrArg Int64.toInt z; have e9 : (0 : Int64).toInt = 0 := rfl; omega) ?_
              refine me0 (pc' := 265) (S' := [.long (Int64.ofInt 0), .long (a - a / b * b)]) dm_X12_worked_264 rfl rfl rfl rfl ?_
              refine y_leq (x := a - a / b * b) (y := Int64.ofInt 0) (t := 304) (pc1 := 266) (pc' := 269) dm_X12_worked_265 rfl dm_X12_worked_266 rfl rfl (fun hb13 => ?_) (fun hb13 => ?_)
              · have hb13i := congrArg Int64.toInt hb13
                refine me1 (pc' := 305) (L' := [(0, .ref 102), (1, ii vb), (2, zz (decide (k1 = 1 ∨ k1 = 3))), (3, .long a), (5, zz (decide (k2 = 1 ∨ k2 = 3))), (6, .long b), (8, ii place)]) (S' := [.long a]) dm_X12_worked_304 rfl rfl rfl rfl ?_
                refine me1 (pc' := 307) (L' := [(0, .ref 102), (1, ii vb), (2, zz (decide (k1 = 1 ∨ k1 = 3))), (3, .long a), (5, zz (decide (k2 = 1 ∨ k2 = 3))), (6, .long b), (8, ii place)]) (S' := [.long b, .long a]) dm_X12_worked_305 rfl rfl rfl rfl ?_
                refine y_ldiv (x := a) (y := b) dm_X12_worked_307 (pc' := 308) rfl (fun z => by have hz9 := congrArg Int64.toInt z; have e9 : (0 : Int64).toInt = 0 := rfl; omega) ?_
                refine y_ret (r := some (.long (a / b))) dm_X12_worked_308 rfl rfl rfl ?_
                have hdm := l_dm (x := a) (y := b) (by omega)
                have hdv := l_div2 (x := a) (y := b) (by omega)
                have hrm := l_rm (x := a) (y := b)
                have hqq : qotI a.toInt b.toInt = a.toInt.tdiv b.toInt := by unfold qotI; generalize a.toInt.tmod b.toInt = t at *; rw [if_neg (by omega)]
                have hz : quoF a b = (0, a / b) := by unfold quoF; rw [if_neg (by omega), if_neg (by omega), hqq, ← hdv, Int64.ofInt_toInt]
                first | (exfalso; omega) | exact ⟨_, rfl, lgR_v (by unfold outF; (repeat (first | rw [if_pos (by omega)] | rw [if_neg (by omega)])); exact hz)⟩
              · have hb13i : ¬ (a - a / b * b).toInt = (Int64.ofInt 0).toInt := fun z => hb13 (Int64.toInt_inj.mp z)
                refine me1 (pc' := 270) (L' := [(0, .ref 102), (1, ii vb), (2, zz (decide (k1 = 1 ∨ k1 = 3))), (3, .long a), (5, zz (decide (k2 = 1 ∨ k2 = 3))), (6, .long b), (8, ii place)]) (S' := [.long a]) dm_X12_worked_269 rfl rfl rfl rfl ?_
                refine me0 (pc' := 271) (S' := [.long (Int64.ofInt 0), .long a]) dm_X12_worked_270 rfl rfl rfl rfl ?_
                refine y_lge (x := a) (y := Int64.ofInt 0) (t := 279) (pc1 := 272) (pc' := 275) dm_X12_worked_271 rfl dm_X12_worked_272 rfl rfl (fun hb14 => ?_) (fun hb14 => ?_)
                · rw [h0] at hb14
                  refine me0 (pc' := 280) (S' := [ii 0]) dm_X12_worked_279 rfl rfl rfl rfl ?_
                  refine me1 (pc' := 282) (L' := [(0, .ref 102), (1, ii vb), (2, zz (decide (k1 = 1 ∨ k1 = 3))), (3, .long a), (5, zz (decide (k2 = 1 ∨ k2 = 3))), (6, .long b), (8, ii place)]) (S' := [.long b, ii 0]) dm_X12_worked_280 rfl rfl rfl rfl ?_
                  refine me0 (pc' := 283) (S' := [.long (Int64.ofInt 0), .long b, ii 0]) dm_X12_worked_282 rfl rfl rfl rfl ?_
                  refine y_lge (x := b) (y := Int64.ofInt 0) (t := 291) (pc1 := 284) (pc' := 287) dm_X12_worked_283 rfl dm_X12_worked_284 rfl rfl (fun hb15 => ?_) (fun hb15 => ?_)
                  · rw [h0] at hb15
                    refine me0 (pc' := 292) (S' := [ii 0, ii 0]) dm_X12_worked_291 rfl rfl rfl rfl ?_
                    refine me_2t (pc' := 304) dm_X12_worked_292 rfl (by decide) ?_
                    refine me1 (pc' := 305) (L' := [(0, .ref 102), (1, ii vb), (2, zz (decide (k1 = 1 ∨ k1 = 3))), (3, .long a), (5, zz (decide (k2 = 1 ∨ k2 = 3))), (6, .long b), (8, ii place)]) (S' := [.long a]) dm_X12_worked_304 rfl rfl rfl rfl ?_
                    refine me1 (pc' := 307) (L' := [(0, .ref 102), (1, ii vb), (2, zz (decide (k1 = 1 ∨ k1 = 3))), (3, .long a), (5, zz (decide (k2 = 1 ∨ k2 = 3))), (6, .long b), (8, ii place)]) (S' := [.long b, .long a]) dm_X12_worked_305 rfl rfl rfl rfl ?_
                    refine y_ldiv (x := a) (y := b) dm_X12_worked_307 (pc' := 308) rfl (fun z => by have hz9 := congrArg Int64.toInt z; have e9 : (0 : Int64).toInt = 0 := rfl; omega) ?_
                    refine y_ret (r := some (.long (a / b))) dm_X12_worked_308 rfl rfl rfl ?_
                    have hdm := l_dm (x := a) (y := b) (by omega)
                    have hdv := l_div2 (x := a) (y := b) (by omega)
                    have hrm := l_rm (x := a) (y := b)
                    have hqq : qotI a.toInt b.toInt = a.toInt.tdiv b.toInt := by unfold qotI; generalize a.toInt.tmod b.toInt = t at *; rw [if_neg (by omega)]
                    have hz : quoF a b = (0, a / b) := by unfold quoF; rw [if_neg (by omega), if_neg (by omega), hqq, ← hdv, Int64.ofInt_toInt]
                    first | (exfalso; omega) | exact ⟨_, rfl, lgR_v (by unfold outF; (repeat (first | rw [if_pos (by omega)] | rw [if_neg (by omega)])); exact hz)⟩
                  · rw [h0] at hb15
                    refine me0 (pc' := 288) (S' := [ii 1, ii 0]) dm_X12_worked_287 rfl rfl rfl rfl ?_
                    refine me2 (pc' := 292) (S' := [ii 1, ii 0]) dm_X12_worked_288 rfl rfl rfl ?_
                    refine me_2f (pc' := 295) dm_X12_worked_292 rfl (by decide) rfl ?_
                    refine me1 (pc' := 296) (L' := [(0, .ref 102), (1, ii vb), (2, zz (decide (k1 = 1 ∨ k1 = 3))), (3, .long a), (5, zz (decide (k2 = 1 ∨ k2 = 3))), (6, .long b), (8, ii place)]) (S' := [.long a]) dm_X12_worked_295 rfl rfl rfl rfl ?_
                    refine me1 (pc' := 298) (L' := [(0, .ref 102), (1, ii vb), (2, zz (decide (k1 = 1 ∨ k1 = 3))), (3, .long a), (5, zz (decide (k2 = 1 ∨ k2 = 3))), (6, .long b), (8, ii place)]) (S' := [.long b, .long a]) dm_X12_worked_296 rfl rfl rfl rfl ?_
                    refine y_ldiv (x := a) (y := b) dm_X12_worked_298 (pc' := 299) rfl (fun z => by have hz9 := congrArg Int64.toInt z; have e9 : (0 : Int64).toInt = 0 := rfl; omega) ?_
                    refine me0 (pc' := 300) (S' := [.long (Int64.ofInt 1), .long (a / b)]) dm_X12_worked_299 rfl rfl rfl rfl ?_
                    refine me0 (pc' := 301) (S' := [.long ((a / b) - (Int64.ofInt 1))]) dm_X12_worked_300 rfl rfl rfl rfl ?_
                    refine me2 (pc' := 308) (S' := [.long ((a / b) - (Int64.ofInt 1))]) dm_X12_worked_301 rfl rfl rfl ?_
                    refine y_ret (r := some (.long ((a / b) - (Int64.ofInt 1)))) dm_X12_worked_308 rfl rfl rfl ?_
                    have hdm := l_dm (x := a) (y := b) (by omega)
                    have hdv := l_div2 (x := a) (y := b) (by omega)
                    have hrm := l_rm (x := a) (y := b)
                    have hqq : qotI a.toInt b.toInt = a.toInt.tdiv b.toInt - 1 := by unfold qotI; generalize a.toInt.tmod b.toInt = t at *; rw [if_pos (by omega)]
                    have hz : quoF a b = (0, (a / b) - (Int64.ofInt 1)) := by unfold quoF; rw [if_neg (by omega), if_neg (by omega), hqq, ← hdv, l_sub, h1_]
                    first | (exfalso; omega) | exact ⟨_, rfl, lgR_v (by unfold outF; (repeat (first | rw [if_pos (by omega)] | rw [if_neg (by omega)])); exact hz)⟩
                · rw [h0] at hb14
                  refine me0 (pc' := 276) (S' := [ii 1]) dm_X12_worked_275 rfl rfl rfl rfl ?_
                  refine me2 (pc' := 280) (S' := [ii 1]) dm_X12_worked_276 rfl rfl rfl ?_
                  refine me1 (pc' := 282) (L' := [(0, .ref 102), (1, ii vb), (2, zz (decide (k1 = 1 ∨ k1 = 3))), (3, .long a), (5, zz (decide (k2 = 1 ∨ k2 = 3))), (6, .long b), (8, ii place)]) (S' := [.long b, ii 1]) dm_X12_worked_280 rfl rfl rfl rfl ?_
                  refine me0 (pc' := 283) (S' := [.long (Int64.ofInt 0), .long b, ii 1]) dm_X12_worked_282 rfl rfl rfl rfl ?_
                  refine y_lge (x := b) (y := Int64.ofInt 0) (t := 291) (pc1 := 284) (pc' := 287) dm_X12_worked_283 rfl dm_X12_worked_284 rfl rfl (fun hb16 => ?_) (fun hb16 => ?_)
                  · rw [h0] at hb16
                    refine me0 (pc' := 292) (S' := [ii 0, ii 1]) dm_X12_worked_291 rfl rfl rfl rfl ?_
                    refine me_2f (pc' := 295) dm_X12_worked_292 rfl (by decide) rfl ?_
                    refine me1 (pc' := 296) (L' := [(0, .ref 102), (1, ii vb), (2, zz (decide (k1 = 1 ∨ k1 = 3))), (3, .long a), (5, zz (decide (k2 = 1 ∨ k2 = 3))), (6, .long b), (8, ii place)]) (S' := [.long a]) dm_X12_worked_295 rfl rfl rfl rfl ?_
                    refine me1 (pc' := 298) (L' := [(0, .ref 102), (1, ii vb), (2, zz (decide (k1 = 1 ∨ k1 = 3))), (3, .long a), (5, zz (decide (k2 = 1 ∨ k2 = 3))), (6, .long b), (8, ii place)]) (S' := [.long b, .long a]) dm_X12_worked_296 rfl rfl rfl rfl ?_
                    refine y_ldiv (x := a) (y := b) dm_X12_worked_298 (pc' := 299) rfl (fun z => by have hz9 := congrArg Int64.toInt z; have e9 : (0 : Int64).toInt = 0 := rfl; omega) ?_
                    refine me0 (pc' := 300) (S' := [.long (Int64.ofInt 1), .long (a / b)]) dm_X12_worked_299 rfl rfl rfl rfl ?_
                    refine me0 (pc' := 301) (S' := [.long ((a / b) - (Int64.ofInt 1))]) dm_X12_worked_300 rfl rfl rfl rfl ?_
                    refine me2 (pc' := 308) (S' := [.long ((a / b) - (Int64.ofInt 1))]) dm_X12_worked_301 rfl rfl rfl ?_
                    refine y_ret (r := some (.long ((a / b) - (Int64.ofInt 1)))) dm_X12_worked_308 rfl rfl rfl ?_
                    have hdm := l_dm (x := a) (y := b) (by omega)
                    have hdv := l_div2 (x := a) (y := b) (by omega)
                    have hrm := l_rm (x := a) (y := b)
                    have hqq : qotI a.toInt b.toInt = a.toInt.tdiv b.toInt - 1 := by unfold qotI; generalize a.toInt.tmod b.toInt = t at *; rw [if_pos (by omega)]
                    have hz : quoF a b = (0, (a / b) - (Int64.ofInt 1)) := by unfold quoF; rw [if_neg (by omega), if_neg (by omega), hqq, ← hdv, l_sub, h1_]
                    first | (exfalso; omega) | exact ⟨_, rfl, lgR_v (by unfold outF; (repeat (first | rw [if_pos (by omega)] | rw [if_neg (by omega)])); exact hz)⟩
                  · rw [h0] at hb16
                    refine me0 (pc' := 288) (S' := [ii 1, ii 1]) dm_X12_worked_287 rfl rfl rfl rfl ?_
                    refine me2 (pc' := 292) (S' := [ii 1, ii 1]) dm_X12_worked_288 rfl rfl rfl ?_
                    refine me_2t (pc' := 304) dm_X12_worked_292 rfl (by decide) ?_
                    refine me1 (pc' := 305) (L' := [(0, .ref 102), (1, ii vb), (2, zz (decide (k1 = 1 ∨ k1 = 3))), (3, .long a), (5, zz (decide (k2 = 1 ∨ k2 = 3))), (6, .long b), (8, ii place)]) (S' := [.long a]) dm_X12_worked_304 rfl rfl rfl rfl ?_
                    refine me1 (pc' := 307) (L' := [(0, .ref 102), (1, ii vb), (2, zz (decide (k1 = 1 ∨ k1 = 3))), (3, .long a), (5, zz (decide (k2 = 1 ∨ k2 = 3))), (6, .long b), (8, ii place)]) (S' := [.long b, .long a]) dm_X12_worked_305 rfl rfl rfl rfl ?_
                    refine y_ldiv (x := a) (y := b) dm_X12_worked_307 (pc' := 308) rfl (fun z => by have hz9 := congrArg Int64.toInt z; have e9 : (0 : Int64).toInt = 0 := rfl; omega) ?_
                    refine y_ret (r := some (.long (a / b))) dm_X12_worked_308 rfl rfl rfl ?_
                    have hdm := l_dm (x := a) (y := b) (by omega)
                    have hdv := l_div2 (x := a) (y := b) (by omega)
                    have hrm := l_rm (x := a) (y := b)
                    have hqq : qotI a.toInt b.toInt = a.toInt.tdiv b.toInt := by unfold qotI; generalize a.toInt.tmod b.toInt = t at *; rw [if_neg (by omega)]
                    have hz : quoF a b = (0, a / b) := by unfold quoF; rw [if_neg (by omega), if_neg (by omega), hqq, ← hdv, Int64.ofInt_toInt]
                    first | (exfalso; omega) | exact ⟨_, rfl, lgR_v (by unfold outF; (repeat (first | rw [if_pos (by omega)] | rw [if_neg (by omega)])); exact hz)⟩
            · have hb12i := congrArg Int64.toInt hb12
              refine me1 (pc' := 243) (L' := [(0, .ref 102), (1, ii vb), (2, zz (decide (k1 = 1 ∨ k1 = 3))), (3, .long a), (5, zz (decide (k2 = 1 ∨ k2 = 3))), (6, .long b), (8, ii place)]) (S' := [.long b]) dm_X12_worked_241 rfl rfl rfl rfl ?_
              refine me3 (pc' := 246) (S' := [.long (Int64.ofInt (-1)), .long b]) dm_X12_worked_243 rfl rfl rfl rfl ?_
              refine y_lne (x := b) (y := Int64.ofInt (-1)) (t := 260) (pc1 := 247) (pc' := 250) dm_X12_worked_246 rfl dm_X12_worked_247 rfl rfl (fun hb17 => ?_) (fun hb17 => ?_)
              · have hb17i : ¬ (b).toInt = (Int64.ofInt (-1)).toInt := fun z => hb17 (Int64.toInt_inj.mp z)
                refine me1 (pc' := 261) (L' := [(0, .ref 102), (1, ii vb), (2, zz (decide (k1 = 1 ∨ k1 = 3))), (3, .long a), (5, zz (decide (k2 = 1 ∨ k2 = 3))), (6, .long b), (8, ii place)]) (S' := [.long a]) dm_X12_worked_260 rfl rfl rfl rfl ?_
                refine me1 (pc' := 263) (L' := [(0, .ref 102), (1, ii vb), (2, zz (decide (k1 = 1 ∨ k1 = 3))), (3, .long a), (5, zz (decide (k2 = 1 ∨ k2 = 3))), (6, .long b), (8, ii place)]) (S' := [.long b, .long a]) dm_X12_worked_261 rfl rfl rfl rfl ?_
                refine y_lrem (x := a) (y := b) dm_X12_worked_263 (pc' := 264) rfl (fun z => by have hz9 := congrArg Int64.toInt z; have e9 : (0 : Int64).toInt = 0 := rfl; omega) ?_
                refine me0 (pc' := 265) (S' := [.long (Int64.ofInt 0), .long (a - a / b * b)]) dm_X12_worked_264 rfl rfl rfl rfl ?_
                refine y_leq (x := a - a / b * b) (y := Int64.ofInt 0) (t := 304) (pc1 := 266) (pc' := 269) dm_X12_worked_265 rfl dm_X12_worked_266 rfl rfl (fun hb18 => ?_) (fun hb18 => ?_)
                · have hb18i := congrArg Int64.toInt hb18
                  refine me1 (pc' := 305) (L' := [(0, .ref 102), (1, ii vb), (2, zz (decide (k1 = 1 ∨ k1 = 3))), (3, .long a), (5, zz (decide (k2 = 1 ∨ k2 = 3))), (6, .long b), (8, ii place)]) (S' := [.long a]) dm_X12_worked_304 rfl rfl rfl rfl ?_
                  refine me1 (pc' := 307) (L' := [(0, .ref 102), (1, ii vb), (2, zz (decide (k1 = 1 ∨ k1 = 3))), (3, .long a), (5, zz (decide (k2 = 1 ∨ k2 = 3))), (6, .long b), (8, ii place)]) (S' := [.long b, .long a]) dm_X12_worked_305 rfl rfl rfl rfl ?_
                  refine y_ldiv (x := a) (y := b) dm_X12_worked_307 (pc' := 308) rfl (fun z => by have hz9 := congrArg Int64.toInt z; have e9 : (0 : Int64).toInt = 0 := rfl; omega) ?_
                  refine y_ret (r := some (.long (a / b))) dm_X12_worked_308 rfl rfl rfl ?_
                  have hdm := l_dm (x := a) (y := b) (by omega)
                  have hdv := l_div2 (x := a) (y := b) (by omega)
                  have hrm := l_rm (x := a) (y := b)
                  have hqq : qotI a.toInt b.toInt = a.toInt.tdiv b.toInt := by unfold qotI; generalize a.toInt.tmod b.toInt = t at *; rw [if_neg (by omega)]
                  have hz : quoF a b = (0, a / b) := by unfold quoF; rw [if_neg (by omega), if_neg (by omega), hqq, ← hdv, Int64.ofInt_toInt]
                  first | (exfalso; omega) | exact ⟨_, rfl, lgR_v (by unfold outF; (repeat (first | rw [if_pos (by omega)] | rw [if_neg (by omega)])); exact hz)⟩
                · have hb18i : ¬ (a - a / b * b).toInt = (Int64.ofInt 0).toInt := fun z => hb18 (Int64.toInt_inj.mp z)
                  refine me1 (pc' := 270) (L' := [(0, .ref 102), (1, ii vb), (2, zz (decide (k1 = 1 ∨ k1 = 3))), (3, .long a), (5, zz (decide (k2 = 1 ∨ k2 = 3))), (6, .long b), (8, ii place)]) (S' := [.long a]) dm_X12_worked_269 rfl rfl rfl rfl ?_
                  refine me0 (pc' := 271) (S' := [.long (Int64.ofInt 0), .long a]) dm_X12_worked_270 rfl rfl rfl rfl ?_
                  refine y_lge (x := a) (y := Int64.ofInt 0) (t := 279) (pc1 := 272) (pc' := 275) dm_X12_worked_271 rfl dm_X12_worked_272 rfl rfl (fun hb19 => ?_) (fun hb19 => ?_)
                  · rw [h0] at hb19
                    refine me0 (pc' := 280) (S' := [ii 0]) dm_X12_worked_279 rfl rfl rfl rfl ?_
                    refine me1 (pc' := 282) (L' := [(0, .ref 102), (1, ii vb), (2, zz (decide (k1 = 1 ∨ k1 = 3))), (3, .long a), (5, zz (decide (k2 = 1 ∨ k2 = 3))), (6, .long b), (8, ii place)]) (S' := [.long b, ii 0]) dm_X12_worked_280 rfl rfl rfl rfl ?_
                    refine me0 (pc' := 283) (S' := [.long (Int64.ofInt 0), .long b, ii 0]) dm_X12_worked_282 rfl rfl rfl rfl ?_
                    refine y_lge (x := b) (y := Int64.ofInt 0) (t := 291) (pc1 := 284) (pc' := 287) dm_X12_worked_283 rfl dm_X12_worked_284 rfl rfl (fun hb20 => ?_) (fun hb20 => ?_)
                    · rw [h0] at hb20
                      refine me0 (pc' := 292) (S' := [ii 0, ii 0]) dm_X12_worked_291 rfl rfl rfl rfl ?_
                      refine me_2t (pc' := 304) dm_X12_worked_292 rfl (by decide) ?_
                      refine me1 (pc' := 305) (L' := [(0, .ref 102), (1, ii vb), (2, zz (decide (k1 = 1 ∨ k1 = 3))), (3, .long a), (5, zz (decide (k2 = 1 ∨ k2 = 3))), (6, .long b), (8, ii place)]) (S' := [.long a]) dm_X12_worked_304 rfl rfl rfl rfl ?_
                      refine me1 (pc' := 307) (L' := [(0, .ref 102), (1, ii vb), (2, zz (decide (k1 = 1 ∨ k1 = 3))), (3, .long a), (5, zz (decide (k2 = 1 ∨ k2 = 3))), (6, .long b), (8, ii place)]) (S' := [.long b, .long a]) dm_X12_worked_305 rfl rfl rfl rfl ?_
                      refine y_ldiv (x := a) (y := b) dm_X12_worked_307 (pc' := 308) rfl (fun z => by have hz9 := congrArg Int64.toInt z; have e9 : (0 : Int64).toInt = 0 := rfl; omega) ?_
                      refine y_ret (r := some (.long (a / b))) dm_X12_worked_308 rfl rfl rfl ?_
                      have hdm := l_dm (x := a) (y := b) (by omega)
                      have hdv := l_div2 (x := a) (y := b) (by omega)
                      have hrm := l_rm (x := a) (y := b)
                      have hqq : qotI a.toInt b.toInt = a.toInt.tdiv b.toInt := by unfold qotI; generalize a.toInt.tmod b.toInt = t at *; rw [if_neg (by omega)]
                      have hz : quoF a b = (0, a / b) := by unfold quoF; rw [if_neg (by omega), if_neg (by omega), hqq, ← hdv, Int64.ofInt_toInt]
                      first | (exfalso; omega) | exact ⟨_, rfl, lgR_v (by unfold outF; (repeat (first | rw [if_pos (by omega)] | rw [if_neg (by omega)])); exact hz)⟩
                    · rw [h0] at hb20
                      refine me0 (pc' := 288) (S' := [ii 1, ii 0]) dm_X12_worked_287 rfl rfl rfl rfl ?_
                      refine me2 (pc' := 292) (S' := [ii 1, ii 0]) dm_X12_worked_288 rfl rfl rfl ?_
                      refine me_2f (pc' := 295) dm_X12_worked_292 rfl (by decide) rfl ?_
                      refine me1 (pc' := 296) (L' := [(0, .ref 102), (1, ii vb), (2, zz (decide (k1 = 1 ∨ k1 = 3))), (3, .long a), (5, zz (decide (k2 = 1 ∨ k2 = 3))), (6, .long b), (8, ii place)]) (S' := [.long a]) dm_X12_worked_295 rfl rfl rfl rfl ?_
                      refine me1 (pc' := 298) (L' := [(0, .ref 102), (1, ii vb), (2, zz (decide (k1 = 1 ∨ k1 = 3))), (3, .long a), (5, zz (decide (k2 = 1 ∨ k2 = 3))), (6, .long b), (8, ii place)]) (S' := [.long b, .long a]) dm_X12_worked_296 rfl rfl rfl rfl ?_
                      refine y_ldiv (x := a) (y := b) dm_X12_worked_298 (pc' := 299) rfl (fun z => by have hz9 := congrArg Int64.toInt z; have e9 : (0 : Int64).toInt = 0 := rfl; omega) ?_
                      refine me0 (pc' := 300) (S' := [.long (Int64.ofInt 1), .long (a / b)]) dm_X12_worked_299 rfl rfl rfl rfl ?_
                      refine me0 (pc' := 301) (S' := [.long ((a / b) - (Int64.ofInt 1))]) dm_X12_worked_300 rfl rfl rfl rfl ?_
                      refine me2 (pc' := 308) (S' := [.long ((a / b) - (Int64.ofInt 1))]) dm_X12_worked_301 rfl rfl rfl ?_
                      refine y_ret (r := some (.long ((a / b) - (Int64.ofInt 1)))) dm_X12_worked_308 rfl rfl rfl ?_
                      have hdm := l_dm (x := a) (y := b) (by omega)
                      have hdv := l_div2 (x := a) (y := b) (by omega)
                      have hrm := l_rm (x := a) (y := b)
                      have hqq : qotI a.toInt b.toInt = a.toInt.tdiv b.toInt - 1 := by unfold qotI; generalize a.toInt.tmod b.toInt = t at *; rw [if_pos (by omega)]
                      have hz : quoF a b = (0, (a / b) - (Int64.ofInt 1)) := by unfold quoF; rw [if_neg (by omega), if_neg (by omega), hqq, ← hdv, l_sub, h1_]
                      first | (exfalso; omega) | exact ⟨_, rfl, lgR_v (by unfold outF; (repeat (first | rw [if_pos (by omega)] | rw [if_neg (by omega)])); exact hz)⟩
                  · rw [h0] at hb19
                    refine me0 (pc' := 276) (S' := [ii 1]) dm_X12_worked_275 rfl rfl rfl rfl ?_
                    refine me2 (pc' := 280) (S' := [ii 1]) dm_X12_worked_276 rfl rfl rfl ?_
                    refine me1 (pc' := 282) (L' := [(0, .ref 102), (1, ii vb), (2, zz (decide (k1 = 1 ∨ k1 = 3))), (3, .long a), (5, zz (decide (k2 = 1 ∨ k2 = 3))), (6, .long b), (8, ii place)]) (S' := [.long b, ii 1]) dm_X12_worked_280 rfl rfl rfl rfl ?_
                    refine me0 (pc' := 283) (S' := [.long (Int64.ofInt 0), .long b, ii 1]) dm_X12_worked_282 rfl rfl rfl rfl ?_
                    refine y_lge (x := b) (y := Int64.ofInt 0) (t := 291) (pc1 := 284) (pc' := 287) dm_X12_worked_283 rfl dm_X12_worked_284 rfl rfl (fun hb21 => ?_) (fun hb21 => ?_)
                    · rw [h0] at hb21
                      refine me0 (pc' := 292) (S' := [ii 0, ii 1]) dm_X12_worked_291 rfl rfl rfl rfl ?_
                      refine me_2f (pc' := 295) dm_X12_worked_292 rfl (by decide) rfl ?_
                      refine me1 (pc' := 296) (L' := [(0, .ref 102), (1, ii vb), (2, zz (decide (k1 = 1 ∨ k1 = 3))), (3, .long a), (5, zz (decide (k2 = 1 ∨ k2 = 3))), (6, .long b), (8, ii place)]) (S' := [.long a]) dm_X12_worked_295 rfl rfl rfl rfl ?_
                      refine me1 (pc' := 298) (L' := [(0, .ref 102), (1, ii vb), (2, zz (decide (k1 = 1 ∨ k1 = 3))), (3, .long a), (5, zz (decide (k2 = 1 ∨ k2 = 3))), (6, .long b), (8, ii place)]) (S' := [.long b, .long a]) dm_X12_worked_296 rfl rfl rfl rfl ?_
                      refine y_ldiv (x := a) (y := b) dm_X12_worked_298 (pc' := 299) rfl (fun z => by have hz9 := congrArg Int64.toInt z; have e9 : (0 : Int64).toInt = 0 := rfl; omega) ?_
                      refine me0 (pc' := 300) (S' := [.long (Int64.ofInt 1), .long (a / b)]) dm_X12_worked_299 rfl rfl rfl rfl ?_
                      refine me0 (pc' := 301) (S' := [.long ((a / b) - (Int64.ofInt 1))]) dm_X12_worked_300 rfl rfl rfl rfl ?_
                      refine me2 (pc' := 308) (S' := [.long ((a / b) - (Int64.ofInt 1))]) dm_X12_worked_301 rfl rfl rfl ?_
                      refine y_ret (r := some (.long ((a / b) - (Int64.ofInt 1)))) dm_X12_worked_308 rfl rfl rfl ?_
                      have hdm := l_dm (x := a) (y := b) (by omega)
                      have hdv := l_div2 (x := a) (y := b) (by omega)
                      have hrm := l_rm (x := a) (y := b)
                      have hqq : qotI a.toInt b.toInt = a.toInt.tdiv b.toInt - 1 := by unfold qotI; generalize a.toInt.tmod b.toInt = t at *; rw [if_pos (by omega)]
                      have hz : quoF a b = (0, (a / b) - (Int64.ofInt 1)) := by unfold quoF; rw [if_neg (by omega), if_neg (by omega), hqq, ← hdv, l_sub, h1_]
                      first | (exfalso; omega) | exact ⟨_, rfl, lgR_v (by unfold outF; (repeat (first | rw [if_pos (by omega)] | rw [if_neg (by omega)])); exact hz)⟩
                    · rw [h0] at hb21
                      refine me0 (pc' := 288) (S' := [ii 1, ii 1]) dm_X12_worked_287 rfl rfl rfl rfl ?_
                      refine me2 (pc' := 292) (S' := [ii 1, ii 1]) dm_X12_worked_288 rfl rfl rfl ?_
                      refine me_2t (pc' := 304) dm_X12_worked_292 rfl (by decide) ?_
                      refine me1 (pc' := 305) (L' := [(0, .ref 102), (1, ii vb), (2, zz (decide (k1 = 1 ∨ k1 = 3))), (3, .long a), (5, zz (decide (k2 = 1 ∨ k2 = 3))), (6, .long b), (8, ii place)]) (S' := [.long a]) dm_X12_worked_304 rfl rfl rfl rfl ?_
                      refine me1 (pc' := 307) (L' := [(0, .ref 102), (1, ii vb), (2, zz (decide (k1 = 1 ∨ k1 = 3))), (3, .long a), (5, zz (decide (k2 = 1 ∨ k2 = 3))), (6, .long b), (8, ii place)]) (S' := [.long b, .long a]) dm_X12_worked_305 rfl rfl rfl rfl ?_
                      refine y_ldiv (x := a) (y := b) dm_X12_worked_307 (pc' := 308) rfl (fun z => by have hz9 := congrArg Int64.toInt z; have e9 : (0 : Int64).toInt = 0 := rfl; omega) ?_
                      refine y_ret (r := some (.long (a / b))) dm_X12_worked_308 rfl rfl rfl ?_
                      have hdm := l_dm (x := a) (y := b) (by omega)
                      have hdv := l_div2 (x := a) (y := b) (by omega)
                      have hrm := l_rm (x := a) (y := b)
                      have hqq : qotI a.toInt b.toInt = a.toInt.tdiv b.toInt := by unfold qotI; generalize a.toInt.tmod b.toInt = t at *; rw [if_neg (by omega)]
                      have hz : quoF a b = (0, a / b) := by unfold quoF; rw [if_neg (by omega), if_neg (by omega), hqq, ← hdv, Int64.ofInt_toInt]
                      first | (exfalso; omega) | exact ⟨_, rfl, lgR_v (by unfold outF; (repeat (first | rw [if_pos (by omega)] | rw [if_neg (by omega)])); exact hz)⟩
              · have hb17i := congrArg Int64.toInt hb17
                refine me1 (pc' := 251) (L' := [(0, .ref 102), (1, ii vb), (2, zz (decide (k1 = 1 ∨ k1 = 3))), (3, .long a), (5, zz (decide (k2 = 1 ∨ k2 = 3))), (6, .long b), (8, ii place)]) (S' := [.ref 102]) dm_X12_worked_250 rfl rfl rfl rfl ?_
                refine me0 (pc' := 253) (S' := [ii 6, .ref 102]) dm_X12_worked_251 rfl rfl rfl rfl ?_
                refine me1 (pc' := 255) (L' := [(0, .ref 102), (1, ii vb), (2, zz (decide (k1 = 1 ∨ k1 = 3))), (3, .long a), (5, zz (decide (k2 = 1 ∨ k2 = 3))), (6, .long b), (8, ii place)]) (S' := [ii place, ii 6, .ref 102]) dm_X12_worked_253 rfl rfl rfl rfl ?_
                refine x_cv (pc' := 258) (rest := []) dm_X12_worked_255 rfl (q_inv (As := [ii 6, ii place]) (S := []) hm rfl rfl rfl) rfl rfl rfl (r_fail_ (s := s) hm (by omega) he0 hca.1 hca.2) ?_
                rintro _ _ ⟨rfl, rfl⟩
                refine y_i2l (a := -1) dm_X12_worked_258 (pc' := 259) rfl (by omega) (by omega) ?_
                refine y_ret (r := some (.long (Int64.ofInt (-1)))) dm_X12_worked_259 rfl rfl rfl ?_
                exact ⟨_, rfl, lgR_f (c := 6) (v := Int64.ofInt 0) (by unfold outF; (repeat (first | rw [if_pos (by omega)] | rw [if_neg (by omega)])); unfold quoF; rw [if_neg (by omega), if_pos (by omega)]) (by decide)⟩
          · have hb11i := congrArg Int64.toInt hb11
            refine me1 (pc' := 225) (L' := [(0, .ref 102), (1, ii vb), (2, zz (decide (k1 = 1 ∨ k1 = 3))), (3, .long a), (5, zz (decide (k2 = 1 ∨ k2 = 3))), (6, .long b), (8, ii place)]) (S' := [.ref 102]) dm_X12_worked_224 rfl rfl rfl rfl ?_
            refine me0 (pc' := 226) (S' := [ii 5, .ref 102]) dm_X12_worked_225 rfl rfl rfl rfl ?_
            refine me1 (pc' := 228) (L' := [(0, .ref 102), (1, ii vb), (2, zz (decide (k1 = 1 ∨ k1 = 3))), (3, .long a), (5, zz (decide (k2 = 1 ∨ k2 = 3))), (6, .long b), (8, ii place)]) (S' := [ii place, ii 5, .ref 102]) dm_X12_worked_226 rfl rfl rfl rfl ?_
            refine x_cv (pc' := 231) (rest := []) dm_X12_worked_228 rfl (q_inv (As := [ii 5, ii place]) (S := []) hm rfl rfl rfl) rfl rfl rfl (r_fail_ (s := s) hm (by omega) he0 hca.1 hca.2) ?_
            rintro _ _ ⟨rfl, rfl⟩
            refine y_i2l (a := -1) dm_X12_worked_231 (pc' := 232) rfl (by omega) (by omega) ?_
            refine y_ret (r := some (.long (Int64.ofInt (-1)))) dm_X12_worked_232 rfl rfl rfl ?_
            exact ⟨_, rfl, lgR_f (c := 5) (v := Int64.ofInt 0) (by unfold outF; (repeat (first | rw [if_pos (by omega)] | rw [if_neg (by omega)])); unfold quoF; rw [if_pos (by omega)]) (by decide)⟩
        refine y_sw (a := vb) (38) (t := 373) (i := .tableswitch 291 33 45 #[213, 291, 291, 291, 121, 277, 291, 291, 291, 111, 68, 291, 78]) (len := 68) dm_X12_worked_96 rfl rfl rfl (by omega) (by decide) (fun hb22 => ?_) (fun hb22 => ?_)
        · refine me1 (pc' := 374) (L' := [(0, .ref 102), (1, ii vb), (2, zz (decide (k1 = 1 ∨ k1 = 3))), (3, .long a), (5, zz (decide (k2 = 1 ∨ k2 = 3))), (6, .long b), (8, ii place)]) (S' := [.long a]) dm_X12_worked_373 rfl rfl rfl rfl ?_
          refine me1 (pc' := 376) (L' := [(0, .ref 102), (1, ii vb), (2, zz (decide (k1 = 1 ∨ k1 = 3))), (3, .long a), (5, zz (decide (k2 = 1 ∨ k2 = 3))), (6, .long b), (8, ii place)]) (S' := [.long b, .long a]) dm_X12_worked_374 rfl rfl rfl rfl ?_
          refine y_lge (x := a) (y := b) (t := 384) (pc1 := 377) (pc' := 380) dm_X12_worked_376 rfl dm_X12_worked_377 rfl rfl (fun hb23 => ?_) (fun hb23 => ?_)
          · refine me1 (pc' := 386) (L' := [(0, .ref 102), (1, ii vb), (2, zz (decide (k1 = 1 ∨ k1 = 3))), (3, .long a), (5, zz (decide (k2 = 1 ∨ k2 = 3))), (6, .long b), (8, ii place)]) (S' := [.long b]) dm_X12_worked_384 rfl rfl rfl rfl ?_
            refine y_ret (r := some (.long b)) dm_X12_worked_386 rfl rfl rfl ?_
            have hz : lmn a b = b := Int64.toInt_inj.mp (by rw [lmn_i]; omega)
            exact ⟨_, rfl, lgR_v (by unfold outF; (repeat (first | rw [if_pos (by omega)] | rw [if_neg (by omega)])); first | done | rw [hz])⟩
          · refine me1 (pc' := 381) (L' := [(0, .ref 102), (1, ii vb), (2, zz (decide (k1 = 1 ∨ k1 = 3))), (3, .long a), (5, zz (decide (k2 = 1 ∨ k2 = 3))), (6, .long b), (8, ii place)]) (S' := [.long a]) dm_X12_worked_380 rfl rfl rfl rfl ?_
            refine me2 (pc' := 386) (S' := [.long a]) dm_X12_worked_381 rfl rfl rfl ?_
            refine y_ret (r := some (.long a)) dm_X12_worked_386 rfl rfl rfl ?_
            have hz : lmn a b = a := Int64.toInt_inj.mp (by rw [lmn_i]; omega)
            exact ⟨_, rfl, lgR_v (by unfold outF; (repeat (first | rw [if_pos (by omega)] | rw [if_neg (by omega)])); first | done | rw [hz])⟩
        refine y_sw (a := vb) (42) (t := 207) (i := .tableswitch 291 33 45 #[213, 291, 291, 291, 121, 277, 291, 291, 291, 111, 68, 291, 78]) (len := 68) dm_X12_worked_96 rfl rfl rfl (by omega) (by decide) (fun hb24 => ?_) (fun hb24 => ?_)
        · by_cases hov : ovf (a.toInt * b.toInt) = true
          · refine me1 (pc' := 208) (L' := [(0, .ref 102), (1, ii vb), (2, zz (decide (k1 = 1 ∨ k1 = 3))), (3, .long a), (5, zz (decide (k2 = 1 ∨ k2 = 3))), (6, .long b), (8, ii place)]) (S' := [.ref 102]) dm_X12_worked_207 rfl rfl rfl rfl ?_
            refine me1 (pc' := 209) (L' := [(0, .ref 102), (1, ii vb), (2, zz (decide (k1 = 1 ∨ k1 = 3))), (3, .long a), (5, zz (decide (k2 = 1 ∨ k2 = 3))), (6, .long b), (8, ii place)]) (S' := [.long a, .ref 102]) dm_X12_worked_208 rfl rfl rfl rfl ?_
            refine me1 (pc' := 211) (L' := [(0, .ref 102), (1, ii vb), (2, zz (decide (k1 = 1 ∨ k1 = 3))), (3, .long a), (5, zz (decide (k2 = 1 ∨ k2 = 3))), (6, .long b), (8, ii place)]) (S' := [.long b, .long a, .ref 102]) dm_X12_worked_209 rfl rfl rfl rfl ?_
            refine me1 (pc' := 213) (L' := [(0, .ref 102), (1, ii vb), (2, zz (decide (k1 = 1 ∨ k1 = 3))), (3, .long a), (5, zz (decide (k2 = 1 ∨ k2 = 3))), (6, .long b), (8, ii place)]) (S' := [ii place, .long b, .long a, .ref 102]) dm_X12_worked_211 rfl rfl rfl rfl ?_
            refine x_cv (pc' := 216) (rest := []) dm_X12_worked_213 rfl (q_inv (As := [.long a, .long b, ii place]) (S := []) hm rfl rfl rfl) rfl rfl rfl (r_productF_ hm (by omega) he0 hca hov) ?_
            rintro _ _ ⟨rfl, rfl⟩
            refine y_ret (r := some (.long (Int64.ofInt (-1)))) dm_X12_worked_216 rfl rfl rfl ?_
            exact ⟨_, rfl, lgR_f (c := 6) (v := a * b) (by unfold outF; (repeat (first | rw [if_pos (by omega)] | rw [if_neg (by omega)])); first | done | rw [if_pos hov]) (by decide)⟩
          · refine me1 (pc' := 208) (L' := [(0, .ref 102), (1, ii vb), (2, zz (decide (k1 = 1 ∨ k1 = 3))), (3, .long a), (5, zz (decide (k2 = 1 ∨ k2 = 3))), (6, .long b), (8, ii place)]) (S' := [.ref 102]) dm_X12_worked_207 rfl rfl rfl rfl ?_
            refine me1 (pc' := 209) (L' := [(0, .ref 102), (1, ii vb), (2, zz (decide (k1 = 1 ∨ k1 = 3))), (3, .long a), (5, zz (decide (k2 = 1 ∨ k2 = 3))), (6, .long b), (8, ii place)]) (S' := [.long a, .ref 102]) dm_X12_worked_208 rfl rfl rfl rfl ?_
            refine me1 (pc' := 211) (L' := [(0, .ref 102), (1, ii vb), (2, zz (decide (k1 = 1 ∨ k1 = 3))), (3, .long a), (5, zz (decide (k2 = 1 ∨ k2 = 3))), (6, .long b), (8, ii place)]) (S' := [.long b, .long a, .ref 102]) dm_X12_worked_209 rfl rfl rfl rfl ?_
            refine me1 (pc' := 213) (L' := [(0, .ref 102), (1, ii vb), (2, zz (decide (k1 = 1 ∨ k1 = 3))), (3, .long a), (5, zz (decide (k2 = 1 ∨ k2 = 3))), (6, .long b), (8, ii place)]) (S' := [ii place, .long b, .long a, .ref 102]) dm_X12_worked_211 rfl rfl rfl rfl ?_
            refine x_cp (pc' := 216) (v := .long (a * b)) (rest := []) dm_X12_worked_213 rfl (q_inv (As := [.long a, .long b, ii place]) (S := []) hm rfl rfl rfl) rfl rfl rfl (r_product_ hm (by omega) he0 hca (eq_false_of_ne_true hov)) ?_
            refine y_ret (r := some (.long (a * b))) dm_X12_worked_216 rfl rfl rfl ?_
            exact ⟨_, rfl, lgR_v (by unfold outF; (repeat (first | rw [if_pos (by omega)] | rw [if_neg (by omega)])); first | done | rw [if_neg hov])⟩
        refine y_sw (a := vb) (43) (t := 164) (i := .tableswitch 291 33 45 #[213, 291, 291, 291, 121, 277, 291, 291, 291, 111, 68, 291, 78]) (len := 68) dm_X12_worked_96 rfl rfl rfl (by omega) (by decide) (fun hb25 => ?_) (fun hb25 => ?_)
        · by_cases hov : ovf (a.toInt + b.toInt) = true
          · refine me1 (pc' := 165) (L' := [(0, .ref 102), (1, ii vb), (2, zz (decide (k1 = 1 ∨ k1 = 3))), (3, .long a), (5, zz (decide (k2 = 1 ∨ k2 = 3))), (6, .long b), (8, ii place)]) (S' := [.ref 102]) dm_X12_worked_164 rfl rfl rfl rfl ?_
            refine me1 (pc' := 166) (L' := [(0, .ref 102), (1, ii vb), (2, zz (decide (k1 = 1 ∨ k1 = 3))), (3, .long a), (5, zz (decide (k2 = 1 ∨ k2 = 3))), (6, .long b), (8, ii place)]) (S' := [.long a, .ref 102]) dm_X12_worked_165 rfl rfl rfl rfl ?_
            refine me1 (pc' := 168) (L' := [(0, .ref 102), (1, ii vb), (2, zz (decide (k1 = 1 ∨ k1 = 3))), (3, .long a), (5, zz (decide (k2 = 1 ∨ k2 = 3))), (6, .long b), (8, ii place)]) (S' := [.long b, .long a, .ref 102]) dm_X12_worked_166 rfl rfl rfl rfl ?_
            refine me1 (pc' := 170) (L' := [(0, .ref 102), (1, ii vb), (2, zz (decide (k1 = 1 ∨ k1 = 3))), (3, .long a), (5, zz (decide (k2 = 1 ∨ k2 = 3))), (6, .long b), (8, ii place)]) (S' := [ii place, .long b, .long a, .ref 102]) dm_X12_worked_168 rfl rfl rfl rfl ?_
            refine x_cv (pc' := 173) (rest := []) dm_X12_worked_170 rfl (q_inv (As := [.long a, .long b, ii place]) (S := []) hm rfl rfl rfl) rfl rfl rfl (r_sumF_ hm (by omega) he0 hca hov) ?_
            rintro _ _ ⟨rfl, rfl⟩
            refine y_ret (r := some (.long (Int64.ofInt (-1)))) dm_X12_worked_173 rfl rfl rfl ?_
            exact ⟨_, rfl, lgR_f (c := 6) (v := a + b) (by unfold outF; (repeat (first | rw [if_pos (by omega)] | rw [if_neg (by omega)])); first | done | rw [if_pos hov]) (by decide)⟩
          · refine me1 (pc' := 165) (L' := [(0, .ref 102), (1, ii vb), (2, zz (decide (k1 = 1 ∨ k1 = 3))), (3, .long a), (5, zz (decide (k2 = 1 ∨ k2 = 3))), (6, .long b), (8, ii place)]) (S' := [.ref 102]) dm_X12_worked_164 rfl rfl rfl rfl ?_
            refine me1 (pc' := 166) (L' := [(0, .ref 102), (1, ii vb), (2, zz (decide (k1 = 1 ∨ k1 = 3))), (3, .long a), (5, zz (decide (k2 = 1 ∨ k2 = 3))), (6, .long b), (8, ii place)]) (S' := [.long a, .ref 102]) dm_X12_worked_165 rfl rfl rfl rfl ?_
            refine me1 (pc' := 168) (L' := [(0, .ref 102), (1, ii vb), (2, zz (decide (k1 = 1 ∨ k1 = 3))), (3, .long a), (5, zz (decide (k2 = 1 ∨ k2 = 3))), (6, .long b), (8, ii place)]) (S' := [.long b, .long a, .ref 102]) dm_X12_worked_166 rfl rfl rfl rfl ?_
            refine me1 (pc' := 170) (L' := [(0, .ref 102), (1, ii vb), (2, zz (decide (k1 = 1 ∨ k1 = 3))), (3, .long a), (5, zz (decide (k2 = 1 ∨ k2 = 3))), (6, .long b), (8, ii place)]) (S' := [ii place, .long b, .long a, .ref 102]) dm_X12_worked_168 rfl rfl rfl rfl ?_
            refine x_cp (pc' := 173) (v := .long (a + b)) (rest := []) dm_X12_worked_170 rfl (q_inv (As := [.long a, .long b, ii place]) (S := []) hm rfl rfl rfl) rfl rfl rfl (r_sum_ hm (by omega) he0 hca (eq_false_of_ne_true hov)) ?_
            refine y_ret (r := some (.long (a + b))) dm_X12_worked_173 rfl rfl rfl ?_
            exact ⟨_, rfl, lgR_v (by unfold outF; (repeat (first | rw [if_pos (by omega)] | rw [if_neg (by omega)])); first | done | rw [if_neg hov])⟩
        refine y_sw (a := vb) (45) (t := 174) (i := .tableswitch 291 33 45 #[213, 291, 291, 291, 121, 277, 291, 291, 291, 111, 68, 291, 78]) (len := 68) dm_X12_worked_96 rfl rfl rfl (by omega) (by decide) (fun hb26 => ?_) (fun hb26 => ?_)
        · refine me1 (pc' := 175) (L' := [(0, .ref 102), (1, ii vb), (2, zz (decide (k1 = 1 ∨ k1 = 3))), (3, .long a), (5, zz (decide (k2 = 1 ∨ k2 = 3))), (6, .long b), (8, ii place)]) (S' := [.long a]) dm_X12_worked_174 rfl rfl rfl rfl ?_
          refine me1 (pc' := 177) (L' := [(0, .ref 102), (1, ii vb), (2, zz (decide (k1 = 1 ∨ k1 = 3))), (3, .long a), (5, zz (decide (k2 = 1 ∨ k2 = 3))), (6, .long b), (8, ii place)]) (S' := [.long b, .long a]) dm_X12_worked_175 rfl rfl rfl rfl ?_
          refine me0 (pc' := 178) (S' := [.long (a ^^^ b)]) dm_X12_worked_177 rfl rfl rfl rfl ?_
          refine me1 (pc' := 179) (L' := [(0, .ref 102), (1, ii vb), (2, zz (decide (k1 = 1 ∨ k1 = 3))), (3, .long a), (5, zz (decide (k2 = 1 ∨ k2 = 3))), (6, .long b), (8, ii place)]) (S' := [.long a, .long (a ^^^ b)]) dm_X12_worked_178 rfl rfl rfl rfl ?_
          refine me1 (pc' := 180) (L' := [(0, .ref 102), (1, ii vb), (2, zz (decide (k1 = 1 ∨ k1 = 3))), (3, .long a), (5, zz (decide (k2 = 1 ∨ k2 = 3))), (6, .long b), (8, ii place)]) (S' := [.long a, .long a, .long (a ^^^ b)]) dm_X12_worked_179 rfl rfl rfl rfl ?_
          refine me1 (pc' := 182) (L' := [(0, .ref 102), (1, ii vb), (2, zz (decide (k1 = 1 ∨ k1 = 3))), (3, .long a), (5, zz (decide (k2 = 1 ∨ k2 = 3))), (6, .long b), (8, ii place)]) (S' := [.long b, .long a, .long a, .long (a ^^^ b)]) dm_X12_worked_180 rfl rfl rfl rfl ?_
          refine me0 (pc' := 183) (S' := [.long (a - b), .long a, .long (a ^^^ b)]) dm_X12_worked_182 rfl rfl rfl rfl ?_
          refine me0 (pc' := 184) (S' := [.long (a ^^^ (a - b)), .long (a ^^^ b)]) dm_X12_worked_183 rfl rfl rfl rfl ?_
          refine me0 (pc' := 185) (S' := [.long ((a ^^^ b) &&& (a ^^^ (a - b)))]) dm_X12_worked_184 rfl rfl rfl rfl ?_
          refine me0 (pc' := 186) (S' := [.long (Int64.ofInt 0), .long ((a ^^^ b) &&& (a ^^^ (a - b)))]) dm_X12_worked_185 rfl rfl rfl rfl ?_
          refine y_lge (x := (a ^^^ b) &&& (a ^^^ (a - b))) (y := Int64.ofInt 0) (t := 202) (pc1 := 187) (pc' := 190) dm_X12_worked_186 rfl dm_X12_worked_187 rfl rfl (fun hb27 => ?_) (fun hb27 => ?_)
          · rw [h0] at hb27
            have hov : ¬ ovf (a.toInt - b.toInt) = true := fun z => by have := (l_ovd a b).mpr z; omega
            refine me1 (pc' := 203) (L' := [(0, .ref 102), (1, ii vb), (2, zz (decide (k1 = 1 ∨ k1 = 3))), (3, .long a), (5, zz (decide (k2 = 1 ∨ k2 = 3))), (6, .long b), (8, ii place)]) (S' := [.long a]) dm_X12_worked_202 rfl rfl rfl rfl ?_
            refine me1 (pc' := 205) (L' := [(0, .ref 102), (1, ii vb), (2, zz (decide (k1 = 1 ∨ k1 = 3))), (3, .long a), (5, zz (decide (k2 = 1 ∨ k2 = 3))), (6, .long b), (8, ii place)]) (S' := [.long b, .long a]) dm_X12_worked_203 rfl rfl rfl rfl ?_
            refine me0 (pc' := 206) (S' := [.long (a - b)]) dm_X12_worked_205 rfl rfl rfl rfl ?_
            refine y_ret (r := some (.long (a - b))) dm_X12_worked_206 rfl rfl rfl ?_
            exact ⟨_, rfl, lgR_v (by unfold outF; (repeat (first | rw [if_pos (by omega)] | rw [if_neg (by omega)])); first | done | rw [if_neg hov])⟩
          · rw [h0] at hb27
            have hov :  ovf (a.toInt - b.toInt) = true := (l_ovd a b).mp (by omega)
            refine me1 (pc' := 191) (L' := [(0, .ref 102), (1, ii vb), (2, zz (decide (k1 = 1 ∨ k1 = 3))), (3, .long a), (5, zz (decide (k2 = 1 ∨ k2 = 3))), (6, .long b), (8, ii place)]) (S' := [.ref 102]) dm_X12_worked_190 rfl rfl rfl rfl ?_
            refine me0 (pc' := 193) (S' := [ii 6, .ref 102]) dm_X12_worked_191 rfl rfl rfl rfl ?_
            refine me1 (pc' := 195) (L' := [(0, .ref 102), (1, ii vb), (2, zz (decide (k1 = 1 ∨ k1 = 3))), (3, .long a), (5, zz (decide (k2 = 1 ∨ k2 = 3))), (6, .long b), (8, ii place)]) (S' := [ii place, ii 6, .ref 102]) dm_X12_worked_193 rfl rfl rfl rfl ?_
            refine x_cv (pc' := 198) (rest := []) dm_X12_worked_195 rfl (q_inv (As := [ii 6, ii place]) (S := []) hm rfl rfl rfl) rfl rfl rfl (r_fail_ (s := s) hm (by omega) he0 hca.1 hca.2) ?_
            rintro _ _ ⟨rfl, rfl⟩
            refine y_i2l (a := -1) dm_X12_worked_198 (pc' := 199) rfl (by omega) (by omega) ?_
            refine me2 (pc' := 206) (S' := [.long (Int64.ofInt (-1))]) dm_X12_worked_199 rfl rfl rfl ?_
            refine y_ret (r := some (.long (Int64.ofInt (-1)))) dm_X12_worked_206 rfl rfl rfl ?_
            exact ⟨_, rfl, lgR_f (c := 6) (v := a - b) (by unfold outF; (repeat (first | rw [if_pos (by omega)] | rw [if_neg (by omega)])); first | done | rw [if_pos hov]) (by decide)⟩
        refine me2 (pc' := 387) (S' := []) dm_X12_worked_96 (sw_tdef [Int32.ofInt 33, Int32.ofInt 37, Int32.ofInt 38, Int32.ofInt 42, Int32.ofInt 43, Int32.ofInt 45] rfl rfl rfl ⟨y_no (by omega) (by decide) hb4, y_no (by omega) (by decide) hb10, y_no (by omega) (by decide) hb22, y_no (by omega) (by decide) hb24, y_no (by omega) (by decide) hb25, y_no (by omega) (by decide) hb26, trivial⟩) rfl rfl ?_
        refine me1 (pc' := 388) (L' := [(0, .ref 102), (1, ii vb), (2, zz (decide (k1 = 1 ∨ k1 = 3))), (3, .long a), (5, zz (decide (k2 = 1 ∨ k2 = 3))), (6, .long b), (8, ii place)]) (S' := [.long a]) dm_X12_worked_387 rfl rfl rfl rfl ?_
        refine me1 (pc' := 390) (L' := [(0, .ref 102), (1, ii vb), (2, zz (decide (k1 = 1 ∨ k1 = 3))), (3, .long a), (5, zz (decide (k2 = 1 ∨ k2 = 3))), (6, .long b), (8, ii place)]) (S' := [.long b, .long a]) dm_X12_worked_388 rfl rfl rfl rfl ?_
        refine y_lle (x := a) (y := b) (t := 398) (pc1 := 391) (pc' := 394) dm_X12_worked_390 rfl dm_X12_worked_391 rfl rfl (fun hb28 => ?_) (fun hb28 => ?_)
        · refine me1 (pc' := 400) (L' := [(0, .ref 102), (1, ii vb), (2, zz (decide (k1 = 1 ∨ k1 = 3))), (3, .long a), (5, zz (decide (k2 = 1 ∨ k2 = 3))), (6, .long b), (8, ii place)]) (S' := [.long b]) dm_X12_worked_398 rfl rfl rfl rfl ?_
          refine y_ret (r := some (.long b)) dm_X12_worked_400 rfl rfl rfl ?_
          have hz : lmx a b = b := Int64.toInt_inj.mp (by rw [lmx_i]; omega)
          exact ⟨_, rfl, lgR_v (by unfold outF; (repeat (first | rw [if_pos (by omega)] | rw [if_neg (by omega)])); first | done | rw [hz])⟩
        · refine me1 (pc' := 395) (L' := [(0, .ref 102), (1, ii vb), (2, zz (decide (k1 = 1 ∨ k1 = 3))), (3, .long a), (5, zz (decide (k2 = 1 ∨ k2 = 3))), (6, .long b), (8, ii place)]) (S' := [.long a]) dm_X12_worked_394 rfl rfl rfl rfl ?_
          refine me2 (pc' := 400) (S' := [.long a]) dm_X12_worked_395 rfl rfl rfl ?_
          refine y_ret (r := some (.long a)) dm_X12_worked_400 rfl rfl rfl ?_
          have hz : lmx a b = a := Int64.toInt_inj.mp (by rw [lmx_i]; omega)
          exact ⟨_, rfl, lgR_v (by unfold outF; (repeat (first | rw [if_pos (by omega)] | rw [if_neg (by omega)])); first | done | rw [hz])⟩
      · replace hb3 := dT hb3
        refine me1 (pc' := 87) (L' := [(0, .ref 102), (1, ii vb), (2, zz (decide (k1 = 1 ∨ k1 = 3))), (3, .long a), (5, zz (decide (k2 = 1 ∨ k2 = 3))), (6, .long b), (8, ii place)]) (S' := [.ref 102]) dm_X12_worked_86 rfl rfl rfl rfl ?_
        refine me0 (pc' := 88) (S' := [ii 5, .ref 102]) dm_X12_worked_87 rfl rfl rfl rfl ?_
        refine me1 (pc' := 90) (L' := [(0, .ref 102), (1, ii vb), (2, zz (decide (k1 = 1 ∨ k1 = 3))), (3, .long a), (5, zz (decide (k2 = 1 ∨ k2 = 3))), (6, .long b), (8, ii place)]) (S' := [ii place, ii 5, .ref 102]) dm_X12_worked_88 rfl rfl rfl rfl ?_
        refine x_cv (pc' := 93) (rest := []) dm_X12_worked_90 rfl (q_inv (As := [ii 5, ii place]) (S := []) hm rfl rfl rfl) rfl rfl rfl (r_fail_ (s := s) hm (by omega) he0 hca.1 hca.2) ?_
        rintro _ _ ⟨rfl, rfl⟩
        refine y_i2l (a := -1) dm_X12_worked_93 (pc' := 94) rfl (by omega) (by omega) ?_
        refine y_ret (r := some (.long (Int64.ofInt (-1)))) dm_X12_worked_94 rfl rfl rfl ?_
        exact ⟨_, rfl, lgR_f (c := 5) (v := Int64.ofInt 0) (by unfold outF; (repeat (first | rw [if_pos (by omega)] | rw [if_neg (by omega)]))) (by decide)⟩
  · replace hb1 := dT hb1
    refine me1 (pc' := 8) (L' := [(0, .ref 102), (1, ii vb), (2, zz (decide (k1 = 1 ∨ k1 = 3))), (3, .long a), (5, zz (decide (k2 = 1 ∨ k2 = 3))), (6, .long b), (8, ii place)]) (S' := [zz (decide (k1 = 1 ∨ k1 = 3))]) dm_X12_worked_7 rfl rfl rfl rfl ?_
    refine me1 (pc' := 10) (L' := [(0, .ref 102), (1, ii vb), (2, zz (decide (k1 = 1 ∨ k1 = 3))), (3, .long a), (5, zz (decide (k2 = 1 ∨ k2 = 3))), (6, .long b), (8, ii place)]) (S' := [zz (decide (k2 = 1 ∨ k2 = 3)), zz (decide (k1 = 1 ∨ k1 = 3))]) dm_X12_worked_8 rfl rfl rfl rfl ?_
    refine y_z2eq (c := decide (k1 = 1 ∨ k1 = 3)) (e := decide (k2 = 1 ∨ k2 = 3)) (t := 32) (pc' := 13) dm_X12_worked_10 rfl rfl (fun hb29 => ?_) (fun hb29 => ?_)
    · replace hb29 := dEq hb29
      refine me1 (pc' := 33) (L' := [(0, .ref 102), (1, ii vb), (2, zz (decide (k1 = 1 ∨ k1 = 3))), (3, .long a), (5, zz (decide (k2 = 1 ∨ k2 = 3))), (6, .long b), (8, ii place)]) (S' := [ii vb]) dm_X12_worked_32 rfl rfl rfl rfl ?_
      refine me0 (pc' := 35) (S' := [ii 60, ii vb]) dm_X12_worked_33 rfl rfl rfl rfl ?_
      refine y_2ne (a := vb) (b := 60) (t := 48) (pc' := 38) dm_X12_worked_35 rfl rfl (by omega) (fun hb30 => ?_) (fun hb30 => ?_)
      · refine me1 (pc' := 49) (L' := [(0, .ref 102), (1, ii vb), (2, zz (decide (k1 = 1 ∨ k1 = 3))), (3, .long a), (5, zz (decide (k2 = 1 ∨ k2 = 3))), (6, .long b), (8, ii place)]) (S' := [ii vb]) dm_X12_worked_48 rfl rfl rfl rfl ?_
        refine me0 (pc' := 51) (S' := [ii 62, ii vb]) dm_X12_worked_49 rfl rfl rfl rfl ?_
        refine y_2ne (a := vb) (b := 62) (t := 64) (pc' := 54) dm_X12_worked_51 rfl rfl (by omega) (fun hb31 => ?_) (fun hb31 => ?_)
        · refine me1 (pc' := 65) (L' := [(0, .ref 102), (1, ii vb), (2, zz (decide (k1 = 1 ∨ k1 = 3))), (3, .long a), (5, zz (decide (k2 = 1 ∨ k2 = 3))), (6, .long b), (8, ii place)]) (S' := [.long a]) dm_X12_worked_64 rfl rfl rfl rfl ?_
          refine me1 (pc' := 67) (L' := [(0, .ref 102), (1, ii vb), (2, zz (decide (k1 = 1 ∨ k1 = 3))), (3, .long a), (5, zz (decide (k2 = 1 ∨ k2 = 3))), (6, .long b), (8, ii place)]) (S' := [.long b, .long a]) dm_X12_worked_65 rfl rfl rfl rfl ?_
          refine y_lne (x := a) (y := b) (t := 75) (pc1 := 68) (pc' := 71) dm_X12_worked_67 rfl dm_X12_worked_68 rfl rfl (fun hb32 => ?_) (fun hb32 => ?_)
          · have hb32i : ¬ (a).toInt = (b).toInt := fun z => hb32 (Int64.toInt_inj.mp z)
            refine me0 (pc' := 76) (S' := [.long (Int64.ofInt 0)]) dm_X12_worked_75 rfl rfl rfl rfl ?_
            refine y_ret (r := some (.long (Int64.ofInt 0))) dm_X12_worked_76 rfl rfl rfl ?_
            exact ⟨_, rfl, lgR_v (by unfold outF; (repeat (first | rw [if_pos (by omega)] | rw [if_neg (by omega)])))⟩
          · have hb32i := congrArg Int64.toInt hb32
            refine me0 (pc' := 72) (S' := [.long (Int64.ofInt 1)]) dm_X12_worked_71 rfl rfl rfl rfl ?_
            refine me2 (pc' := 76) (S' := [.long (Int64.ofInt 1)]) dm_X12_worked_72 rfl rfl rfl ?_
            refine y_ret (r := some (.long (Int64.ofInt 1))) dm_X12_worked_76 rfl rfl rfl ?_
            exact ⟨_, rfl, lgR_v (by unfold outF; (repeat (first | rw [if_pos (by omega)] | rw [if_neg (by omega)])))⟩
        · refine me1 (pc' := 55) (L' := [(0, .ref 102), (1, ii vb), (2, zz (decide (k1 = 1 ∨ k1 = 3))), (3, .long a), (5, zz (decide (k2 = 1 ∨ k2 = 3))), (6, .long b), (8, ii place)]) (S' := [.long a]) dm_X12_worked_54 rfl rfl rfl rfl ?_
          refine me1 (pc' := 57) (L' := [(0, .ref 102), (1, ii vb), (2, zz (decide (k1 = 1 ∨ k1 = 3))), (3, .long a), (5, zz (decide (k2 = 1 ∨ k2 = 3))), (6, .long b), (8, ii place)]) (S' := [.long b, .long a]) dm_X12_worked_55 rfl rfl rfl rfl ?_
          refine y_lle (x := a) (y := b) (t := 75) (pc1 := 58) (pc' := 61) dm_X12_worked_57 rfl dm_X12_worked_58 rfl rfl (fun hb33 => ?_) (fun hb33 => ?_)
          · refine me0 (pc' := 76) (S' := [.long (Int64.ofInt 0)]) dm_X12_worked_75 rfl rfl rfl rfl ?_
            refine y_ret (r := some (.long (Int64.ofInt 0))) dm_X12_worked_76 rfl rfl rfl ?_
            exact ⟨_, rfl, lgR_v (by unfold outF; (repeat (first | rw [if_pos (by omega)] | rw [if_neg (by omega)])))⟩
          · refine me2 (pc' := 71) (S' := []) dm_X12_worked_61 rfl rfl rfl ?_
            refine me0 (pc' := 72) (S' := [.long (Int64.ofInt 1)]) dm_X12_worked_71 rfl rfl rfl rfl ?_
            refine me2 (pc' := 76) (S' := [.long (Int64.ofInt 1)]) dm_X12_worked_72 rfl rfl rfl ?_
            refine y_ret (r := some (.long (Int64.ofInt 1))) dm_X12_worked_76 rfl rfl rfl ?_
            exact ⟨_, rfl, lgR_v (by unfold outF; (repeat (first | rw [if_pos (by omega)] | rw [if_neg (by omega)])))⟩
      · refine me1 (pc' := 39) (L' := [(0, .ref 102), (1, ii vb), (2, zz (decide (k1 = 1 ∨ k1 = 3))), (3, .long a), (5, zz (decide (k2 = 1 ∨ k2 = 3))), (6, .long b), (8, ii place)]) (S' := [.long a]) dm_X12_worked_38 rfl rfl rfl rfl ?_
        refine me1 (pc' := 41) (L' := [(0, .ref 102), (1, ii vb), (2, zz (decide (k1 = 1 ∨ k1 = 3))), (3, .long a), (5, zz (decide (k2 = 1 ∨ k2 = 3))), (6, .long b), (8, ii place)]) (S' := [.long b, .long a]) dm_X12_worked_39 rfl rfl rfl rfl ?_
        refine y_lge (x := a) (y := b) (t := 75) (pc1 := 42) (pc' := 45) dm_X12_worked_41 rfl dm_X12_worked_42 rfl rfl (fun hb34 => ?_) (fun hb34 => ?_)
        · refine me0 (pc' := 76) (S' := [.long (Int64.ofInt 0)]) dm_X12_worked_75 rfl rfl rfl rfl ?_
          refine y_ret (r := some (.long (Int64.ofInt 0))) dm_X12_worked_76 rfl rfl rfl ?_
          exact ⟨_, rfl, lgR_v (by unfold outF; (repeat (first | rw [if_pos (by omega)] | rw [if_neg (by omega)])))⟩
        · refine me2 (pc' := 71) (S' := []) dm_X12_worked_45 rfl rfl rfl ?_
          refine me0 (pc' := 72) (S' := [.long (Int64.ofInt 1)]) dm_X12_worked_71 rfl rfl rfl rfl ?_
          refine me2 (pc' := 76) (S' := [.long (Int64.ofInt 1)]) dm_X12_worked_72 rfl rfl rfl ?_
          refine y_ret (r := some (.long (Int64.ofInt 1))) dm_X12_worked_76 rfl rfl rfl ?_
          exact ⟨_, rfl, lgR_v (by unfold outF; (repeat (first | rw [if_pos (by omega)] | rw [if_neg (by omega)])))⟩
    · replace hb29 := dNe hb29
      refine me1 (pc' := 14) (L' := [(0, .ref 102), (1, ii vb), (2, zz (decide (k1 = 1 ∨ k1 = 3))), (3, .long a), (5, zz (decide (k2 = 1 ∨ k2 = 3))), (6, .long b), (8, ii place)]) (S' := [ii vb]) dm_X12_worked_13 rfl rfl rfl rfl ?_
      refine me0 (pc' := 16) (S' := [ii 61, ii vb]) dm_X12_worked_14 rfl rfl rfl rfl ?_
      refine y_2ne (a := vb) (b := 61) (t := 23) (pc' := 19) dm_X12_worked_16 rfl rfl (by omega) (fun hb35 => ?_) (fun hb35 => ?_)
      · refine me1 (pc' := 24) (L' := [(0, .ref 102), (1, ii vb), (2, zz (decide (k1 = 1 ∨ k1 = 3))), (3, .long a), (5, zz (decide (k2 = 1 ∨ k2 = 3))), (6, .long b), (8, ii place)]) (S' := [.ref 102]) dm_X12_worked_23 rfl rfl rfl rfl ?_
        refine me0 (pc' := 25) (S' := [ii 5, .ref 102]) dm_X12_worked_24 rfl rfl rfl rfl ?_
        refine me1 (pc' := 27) (L' := [(0, .ref 102), (1, ii vb), (2, zz (decide (k1 = 1 ∨ k1 = 3))), (3, .long a), (5, zz (decide (k2 = 1 ∨ k2 = 3))), (6, .long b), (8, ii place)]) (S' := [ii place, ii 5, .ref 102]) dm_X12_worked_25 rfl rfl rfl rfl ?_
        refine x_cv (pc' := 30) (rest := []) dm_X12_worked_27 rfl (q_inv (As := [ii 5, ii place]) (S := []) hm rfl rfl rfl) rfl rfl rfl (r_fail_ (s := s) hm (by omega) he0 hca.1 hca.2) ?_
        rintro _ _ ⟨rfl, rfl⟩
        refine y_i2l (a := -1) dm_X12_worked_30 (pc' := 31) rfl (by omega) (by omega) ?_
        refine y_ret (r := some (.long (Int64.ofInt (-1)))) dm_X12_worked_31 rfl rfl rfl ?_
        exact ⟨_, rfl, lgR_f (c := 5) (v := Int64.ofInt 0) (by unfold outF; (repeat (first | rw [if_pos (by omega)] | rw [if_neg (by omega)]))) (by decide)⟩
      · refine me0 (pc' := 20) (S' := [.long (Int64.ofInt 0)]) dm_X12_worked_19 rfl rfl rfl rfl ?_
        refine me2 (pc' := 31) (S' := [.long (Int64.ofInt 0)]) dm_X12_worked_20 rfl rfl rfl ?_
        refine y_ret (r := some (.long (Int64.ofInt 0))) dm_X12_worked_31 rfl rfl rfl ?_
        exact ⟨_, rfl, lgR_v (by unfold outF; (repeat (first | rw [if_pos (by omega)] | rw [if_neg (by omega)])))⟩
