/-! letter -/
theorem n_ushrL {a : Int} {k : Nat} (hk : k < 63) (h0 : 0 ≤ a) (h1 : a ≤ 9223372036854775807) : ((Int64.ofInt a).toUInt64 >>> ((Int32.ofInt (k : Int)).toInt64.toUInt64 &&& Int64.toUInt64 63)).toInt64 = Int64.ofInt (a / 2 ^ k) := by
  obtain ⟨n, rfl⟩ : ∃ n : Nat, a = (n : Int) := ⟨a.toNat, by omega⟩
  have e1 : ∀ k : Fin 63, ((Int32.ofInt (k.val : Int)).toInt64.toUInt64 &&& Int64.toUInt64 63).toNat = k.val := by decide +kernel
  have e1k := e1 ⟨k, hk⟩
  apply Int64.toBitVec_inj.mp
  apply BitVec.eq_of_toNat_eq
  show (((Int64.ofInt (n : Int)).toUInt64 >>> ((Int32.ofInt (k : Int)).toInt64.toUInt64 &&& Int64.toUInt64 63)) : UInt64).toNat = _
  have e3 : (Int64.ofInt (n : Int)).toUInt64.toNat = n := by
    show (BitVec.ofInt 64 (n : Int)).toNat = n
    rw [BitVec.ofInt_natCast, BitVec.toNat_ofNat]
    exact Nat.mod_eq_of_lt (by omega)
  rw [UInt64.toNat_shiftRight, e3, e1k, Nat.mod_eq_of_lt (a := k) (by omega), Nat.shiftRight_eq_div_pow, Int64.toBitVec_ofInt]
  have e5 : (2 : Int) ^ k = ((2 ^ k : Nat) : Int) := by norm_cast
  have e6 := Nat.div_le_self n (2 ^ k)
  rw [e5, ← Int.natCast_ediv, BitVec.ofInt_natCast, BitVec.toNat_ofNat, Nat.mod_eq_of_lt (by omega)]
theorem y_lushr {xt : mj_X} {d own nL : Nat} {ini : Bool} {ret : Option FieldType} {cf : Nat → Option (Instr × Nat)} {pc pc' : Nat} {L : mj_L} {S : List Value} {h : mj_H} {P : Option Value → mj_H → Prop} {a n : Int} {k : Nat} (hc : cf pc = some (.lushr, 1)) (hp : pc + 1 = pc') (hn : n = (k : Int)) (hk : k < 63) (h0 : 0 ≤ a) (h1 : a ≤ 9223372036854775807) (q : pgE xt d own nL ini ret cf pc' L (.long (Int64.ofInt (a / 2 ^ k)) :: S) h P) : pgE xt d own nL ini ret cf pc L (ii n :: .long (Int64.ofInt a) :: S) h P := by
  subst hn
  exact me0 hc (show mj_alu .lushr (ii (k : Int) :: .long (Int64.ofInt a) :: S) = some (.long (Int64.ofInt (a / 2 ^ k)) :: S) from congrArg (fun z => some (Value.long z :: S)) (n_ushrL hk h0 h1)) rfl rfl hp q
theorem n_and31g (a : Int) : Int32.ofInt a &&& 31 = Int32.ofInt (a % 32) := by
  apply Int32.toBitVec_inj.mp
  rw [Int32.toBitVec_and, Int32.toBitVec_ofInt, Int32.toBitVec_ofInt]
  apply BitVec.eq_of_toNat_eq
  rw [BitVec.toNat_and, show (Int32.toBitVec 31).toNat = 2 ^ 5 - 1 from rfl, Nat.and_two_pow_sub_one_eq_mod, BitVec.toNat_ofInt, BitVec.toNat_ofInt]
  have h1 : ((2 ^ 32 : Nat) : Int) = 4294967296 := rfl
  rw [h1]
  omega
theorem y_and31g {xt : mj_X} {d own nL : Nat} {ini : Bool} {ret : Option FieldType} {cf : Nat → Option (Instr × Nat)} {pc pc' : Nat} {L : mj_L} {S : List Value} {h : mj_H} {P : Option Value → mj_H → Prop} {a : Int} (hc : cf pc = some (.iand, 1)) (hp : pc + 1 = pc') (k : pgE xt d own nL ini ret cf pc' L (ii (a % 32) :: S) h P) : pgE xt d own nL ini ret cf pc L (ii 31 :: ii a :: S) h P :=
  me0 hc (show mj_alu .iand (ii 31 :: ii a :: S) = some (ii (a % 32) :: S) from congrArg (fun z => some (Value.int z :: S)) (n_and31g a)) rfl rfl hp k
/-- what the class's letter answers, of a key c -/
def ltC (c : Int) (k : Int) : Int := if 0 ≤ k ∧ k < 8 ∧ c / 2 ^ (5 * k.toNat) % 32 ≠ 0 then 96 + c / 2 ^ (5 * k.toNat) % 32 else -1
theorem ck_dig {f : Nat → Int} {i j : Nat} : ∀ n : Nat, (∀ k, k < n → isLtI (f (i + k))) → ckI f i n / 32 ^ j % 32 = if j < n then f (i + j) - 96 else 0 := by
  intro n
  induction n with
  | zero => intro _; rw [if_neg (by omega)]; show (0 : Int) / 32 ^ j % 32 = 0; rw [Int.zero_ediv]; rfl
  | succ n ih =>
    intro hd
    have hr := ck_r (f := f) (i := i) n (fun q hq => hd q (by omega))
    have hk := hd n (by omega)
    have p1 : (0 : Int) < 32 ^ j := Int.pow_pos (by decide)
    by_cases z : j = n
    · subst z
      rw [if_pos (by omega)]
      show (ckI f i j + (f (i + j) - 96) * 32 ^ j) / 32 ^ j % 32 = _
      rw [Int.add_mul_ediv_right _ _ (by omega), Int.ediv_eq_zero_of_lt hr.1 hr.2]
      omega
    · by_cases y : j < n
      · rw [if_pos (by omega)]
        have ih2 := ih (fun q hq => hd q (by omega))
        rw [if_pos y] at ih2
        obtain ⟨m, hm⟩ : ∃ m, n = j + 1 + m := ⟨n - j - 1, by omega⟩
        have e : (32 : Int) ^ n = 32 ^ m * 32 * 32 ^ j := by
          rw [hm, show j + 1 + m = m + 1 + j by omega, Int.pow_add, Int.pow_add]; rfl
        show (ckI f i n + (f (i + n) - 96) * 32 ^ n) / 32 ^ j % 32 = _
        rw [e, show (f (i + n) - 96) * (32 ^ m * 32 * 32 ^ j) = ((f (i + n) - 96) * 32 ^ m * 32) * 32 ^ j by rw [← Int.mul_assoc, ← Int.mul_assoc], Int.add_mul_ediv_right _ _ (by omega), Int.add_mul_emod_self_right]
        exact ih2
      · rw [if_neg (by omega)]
        have hr2 := ck_r (f := f) (i := i) (n + 1) hd
        obtain ⟨m, hm⟩ : ∃ m, j = n + 1 + m := ⟨j - n - 1, by omega⟩
        have e : (32 : Int) ^ j = 32 ^ (n + 1) * 32 ^ m := by rw [hm, Int.pow_add]
        have p2 : (1 : Int) ≤ 32 ^ m := Int.pow_pos (by decide)
        have p3 : (0 : Int) < 32 ^ (n + 1) := Int.pow_pos (by decide)
        have p4 : (32 : Int) ^ (n + 1) * 1 ≤ 32 ^ (n + 1) * 32 ^ m := Int.mul_le_mul_of_nonneg_left p2 (by omega)
        rw [Int.ediv_eq_zero_of_lt hr2.1 (by rw [e]; omega)]
        rfl
theorem p32b : ∀ k : Nat, k < 8 → (2 : Int) ^ (5 * k) = 32 ^ k := by decide +kernel
theorem ltC_0 (k : Int) : ltC 0 k = -1 := by
  unfold ltC
  rw [Int.zero_ediv]
  exact if_neg (fun z => z.2.2 rfl)
theorem ltC_v {f : Nat → Int} {i n : Nat} (h1 : 1 ≤ n) (h8 : n ≤ 8) (h : ∀ k, k < n → isLtI (f (i + k))) (k : Int) : ltC (ckI f i n) k = if 0 ≤ k ∧ k < (n : Int) then f (i + k.toNat) else -1 := by
  unfold ltC
  by_cases z : 0 ≤ k ∧ k < 8
  · have d := ck_dig (j := k.toNat) n h
    rw [← p32b k.toNat (by omega)] at d
    rw [d]
    by_cases y : k.toNat < n
    · have hl := h k.toNat y
      rw [if_pos y, if_pos (by omega), if_pos (by omega)]
      omega
    · rw [if_neg y, if_neg (by omega), if_neg (by omega)]
  · rw [if_neg (by omega), if_neg (by omega)]
theorem rk_div {f : Nat → Int} {i L : Nat} (h8 : L ≤ 8) (h : ∀ k, k < L → isLtI (f (i + k))) : ∀ n, n ≤ L → rkI f i L / 2 ^ (8 * n) = rkI f i (L - n) := by
  have p : ∀ k : Nat, k < 9 → (2 : Int) ^ (8 * k) = 256 ^ k := by decide +kernel
  have key : ∀ m n : Nat, m + n ≤ L → ∃ R : Int, rkI f i (m + n) = R + rkI f i m * 256 ^ n ∧ 0 ≤ R ∧ R < 256 ^ n := by
    intro m n
    induction n with
    | zero => intro _; exact ⟨0, by rw [Int.pow_zero]; show rkI f i m = _; omega, by omega, by rw [Int.pow_zero]; omega⟩
    | succ n ih =>
      intro hn
      obtain ⟨R, e, r0, r1⟩ := ih (by omega)
      have hl := h (m + n) (by omega)
      refine ⟨R * 256 + f (i + (m + n)), ?_, by omega, ?_⟩
      · show rkI f i (m + n) * 256 + f (i + (m + n)) = _
        rw [e, Int.pow_succ, ← Int.mul_assoc]
        omega
      · rw [Int.pow_succ]
        omega
  intro n hn
  obtain ⟨R, e, r0, r1⟩ := key (L - n) n (by omega)
  have p1 : (0 : Int) < 256 ^ n := Int.pow_pos (by decide)
  rw [show L - n + n = L by omega] at e
  rw [e, p n (by omega), Int.add_mul_ediv_right _ _ (by omega), Int.ediv_eq_zero_of_lt r0 r1, Int.zero_add]
set_option maxRecDepth 20000 in
theorem pm_X11_letter : mj_mmof pg_ms 193 = some ((⟨"ArrayCalculator", "letter", "(III)I"⟩, prog_1_method_18_code, 5, (Option.some Jvm.ClassFile.FieldType.int)), 11, false, mj_dec prog_1_method_18_code) := rfl
theorem dm_X11_letter_0 : mj_dec prog_1_method_18_code 0 = some (.iload_n 3, 1) := by decide +kernel
theorem dm_X11_letter_1 : mj_dec prog_1_method_18_code 1 = some (.ifCond .lt 9, 3) := by decide +kernel
theorem dm_X11_letter_4 : mj_dec prog_1_method_18_code 4 = some (.iload_n 3, 1) := by decide +kernel
theorem dm_X11_letter_5 : mj_dec prog_1_method_18_code 5 = some (.bipush 8, 2) := by decide +kernel
theorem dm_X11_letter_7 : mj_dec prog_1_method_18_code 7 = some (.if_icmp .lt 5, 3) := by decide +kernel
theorem dm_X11_letter_10 : mj_dec prog_1_method_18_code 10 = some (.iconst (-1), 1) := by decide +kernel
theorem dm_X11_letter_11 : mj_dec prog_1_method_18_code 11 = some (.ireturn, 1) := by decide +kernel
theorem a_letN {xt : mj_X} {d qr qp : Nat} {h : mj_H} {fd le lp lw : Int} (hd : 4 ≤ d) (h2 : h[2]? = some (acC fd qr qp le lp lw)) {c4 : List Value} (h4 : h[4]? = some (cO 2 c4)) {what i : Int} {k c : Int} (hk : -2147483648 ≤ k ∧ k ≤ 2147483647) (hno : k < 0 ∨ 8 ≤ k) : pgP xt d 193 [.ref 2, ii what, ii i, ii k] h (ii (ltC c k)) := by
  refine x_enter pm_X11_letter (L0 := [(0, .ref 2), (1, ii what), (2, ii i), (3, ii k)]) rfl (Nat.le_of_ble_eq_true rfl) (by omega) ?_
  refine me1 (pc' := 1) (L' := [(0, .ref 2), (1, ii what), (2, ii i), (3, ii k)]) (S' := [ii k]) dm_X11_letter_0 rfl rfl rfl rfl ?_
  refine y_1lt (a := k) (t := 10) (pc' := 4) dm_X11_letter_1 rfl rfl (by omega) (fun hb1 => ?_) (fun hb1 => ?_)
  · refine me0 (pc' := 11) (S' := [ii (-1)]) dm_X11_letter_10 rfl rfl rfl rfl ?_
    refine y_ret (r := some (ii (-1))) dm_X11_letter_11 rfl rfl rfl ?_
    exact ⟨congrArg (fun z => some (ii z)) (if_neg (by omega)).symm, rfl⟩
  · refine me1 (pc' := 5) (L' := [(0, .ref 2), (1, ii what), (2, ii i), (3, ii k)]) (S' := [ii k]) dm_X11_letter_4 rfl rfl rfl rfl ?_
    refine me0 (pc' := 7) (S' := [ii 8, ii k]) dm_X11_letter_5 rfl rfl rfl rfl ?_
    refine y_2lt (a := k) (b := 8) (t := 12) (pc' := 10) dm_X11_letter_7 rfl rfl (by omega) (fun hb2 => ?_) (fun hb2 => ?_)
    · exfalso; omega
    · refine me0 (pc' := 11) (S' := [ii (-1)]) dm_X11_letter_10 rfl rfl rfl rfl ?_
      refine y_ret (r := some (ii (-1))) dm_X11_letter_11 rfl rfl rfl ?_
      exact ⟨congrArg (fun z => some (ii z)) (if_neg (by omega)).symm, rfl⟩
theorem dm_X11_letter_12 : mj_dec prog_1_method_18_code 12 = some (.aload_n 0, 1) := by decide +kernel
theorem dm_X11_letter_13 : mj_dec prog_1_method_18_code 13 = some (.getfield 16, 3) := by decide +kernel
theorem dm_X11_letter_16 : mj_dec prog_1_method_18_code 16 = some (.iload_n 1, 1) := by decide +kernel
theorem dm_X11_letter_17 : mj_dec prog_1_method_18_code 17 = some (.iload_n 2, 1) := by decide +kernel
theorem dm_X11_letter_18 : mj_dec prog_1_method_18_code 18 = some (.invokevirtual 202, 3) := by decide +kernel
theorem dm_X11_letter_21 : mj_dec prog_1_method_18_code 21 = some (.iload_n 3, 1) := by decide +kernel
theorem dm_X11_letter_22 : mj_dec prog_1_method_18_code 22 = some (.iconst 5, 1) := by decide +kernel
theorem dm_X11_letter_23 : mj_dec prog_1_method_18_code 23 = some (.imul, 1) := by decide +kernel
theorem dm_X11_letter_24 : mj_dec prog_1_method_18_code 24 = some (.lushr, 1) := by decide +kernel
theorem dm_X11_letter_25 : mj_dec prog_1_method_18_code 25 = some (.l2i, 1) := by decide +kernel
theorem dm_X11_letter_26 : mj_dec prog_1_method_18_code 26 = some (.bipush 31, 2) := by decide +kernel
theorem dm_X11_letter_28 : mj_dec prog_1_method_18_code 28 = some (.iand, 1) := by decide +kernel
theorem dm_X11_letter_29 : mj_dec prog_1_method_18_code 29 = some (.istore 4, 2) := by decide +kernel
theorem dm_X11_letter_31 : mj_dec prog_1_method_18_code 31 = some (.iload 4, 2) := by decide +kernel
theorem dm_X11_letter_33 : mj_dec prog_1_method_18_code 33 = some (.ifCond .ne 7, 3) := by decide +kernel
theorem dm_X11_letter_36 : mj_dec prog_1_method_18_code 36 = some (.iconst (-1), 1) := by decide +kernel
theorem dm_X11_letter_37 : mj_dec prog_1_method_18_code 37 = some (.goto 8, 3) := by decide +kernel
theorem dm_X11_letter_40 : mj_dec prog_1_method_18_code 40 = some (.bipush 96, 2) := by decide +kernel
theorem dm_X11_letter_42 : mj_dec prog_1_method_18_code 42 = some (.iload 4, 2) := by decide +kernel
theorem dm_X11_letter_44 : mj_dec prog_1_method_18_code 44 = some (.iadd, 1) := by decide +kernel
theorem dm_X11_letter_45 : mj_dec prog_1_method_18_code 45 = some (.ireturn, 1) := by decide +kernel
theorem a_letY {xt : mj_X} {d qr qp : Nat} {h : mj_H} {fd le lp lw : Int} (hd : 4 ≤ d) (h2 : h[2]? = some (acC fd qr qp le lp lw)) {c4 : List Value} (h4 : h[4]? = some (cO 2 c4)) {what i : Int} {k : Nat} {c : Int} (hk : k < 8) (hc0 : 0 ≤ c) (hc1 : c ≤ 9223372036854775807) (hkey : pgP xt (d - 1) 194 [.ref 4, ii what, ii i] h (.long (Int64.ofInt c))) : pgP xt d 193 [.ref 2, ii what, ii i, ii (k : Int)] h (ii (ltC c (k : Int))) := by
  obtain ⟨X, hX⟩ : ∃ X : Int, X = c / 2 ^ (5 * k) := ⟨_, rfl⟩
  refine x_enter pm_X11_letter (L0 := [(0, .ref 2), (1, ii what), (2, ii i), (3, ii (k : Int))]) rfl (Nat.le_of_ble_eq_true rfl) (by omega) ?_
  refine me1 (pc' := 1) (L' := [(0, .ref 2), (1, ii what), (2, ii i), (3, ii (k : Int))]) (S' := [ii (k : Int)]) dm_X11_letter_0 rfl rfl rfl rfl ?_
  refine y_1lt (a := (k : Int)) (t := 10) (pc' := 4) dm_X11_letter_1 rfl rfl (by omega) (fun hb1 => ?_) (fun hb1 => ?_)
  · exfalso; omega
  · refine me1 (pc' := 5) (L' := [(0, .ref 2), (1, ii what), (2, ii i), (3, ii (k : Int))]) (S' := [ii (k : Int)]) dm_X11_letter_4 rfl rfl rfl rfl ?_
    refine me0 (pc' := 7) (S' := [ii 8, ii (k : Int)]) dm_X11_letter_5 rfl rfl rfl rfl ?_
    refine y_2lt (a := (k : Int)) (b := 8) (t := 12) (pc' := 10) dm_X11_letter_7 rfl rfl (by omega) (fun hb2 => ?_) (fun hb2 => ?_)
    · refine me1 (pc' := 13) (L' := [(0, .ref 2), (1, ii what), (2, ii i), (3, ii (k : Int))]) (S' := [.ref 2]) dm_X11_letter_12 rfl rfl rfl rfl ?_
      refine me3 (pc' := 16) (S' := [.ref 4]) dm_X11_letter_13 (g_get (v := .ref 4) h2 rfl rfl (by decide)) rfl rfl rfl ?_
      refine me1 (pc' := 17) (L' := [(0, .ref 2), (1, ii what), (2, ii i), (3, ii (k : Int))]) (S' := [ii what, .ref 4]) dm_X11_letter_16 rfl rfl rfl rfl ?_
      refine me1 (pc' := 18) (L' := [(0, .ref 2), (1, ii what), (2, ii i), (3, ii (k : Int))]) (S' := [ii i, ii what, .ref 4]) dm_X11_letter_17 rfl rfl rfl rfl ?_
      refine x_cp (pc' := 21) (v := .long (Int64.ofInt c)) (rest := []) dm_X11_letter_18 rfl (g_inv (As := [ii what, ii i]) (S := []) h4 rfl rfl rfl (by decide)) rfl rfl rfl (hkey) ?_
      refine me1 (pc' := 22) (L' := [(0, .ref 2), (1, ii what), (2, ii i), (3, ii (k : Int))]) (S' := [ii (k : Int), .long (Int64.ofInt c)]) dm_X11_letter_21 rfl rfl rfl rfl ?_
      refine me0 (pc' := 23) (S' := [ii 5, ii (k : Int), .long (Int64.ofInt c)]) dm_X11_letter_22 rfl rfl rfl rfl ?_
      refine y_imul (a := (k : Int)) (b := 5) dm_X11_letter_23 (pc' := 24) rfl ?_
      refine y_lushr (a := c) (n := (k : Int) * 5) (k := 5 * k) dm_X11_letter_24 (pc' := 25) rfl (by omega) (by omega) (hc0) (hc1) ?_
      refine y_l2i (a := X) dm_X11_letter_25 (pc' := 26) rfl ((by rw [Int64.toInt32_ofInt, hX])) ?_
      refine me0 (pc' := 28) (S' := [ii 31, ii X]) dm_X11_letter_26 rfl rfl rfl rfl ?_
      refine y_and31g (a := X) dm_X11_letter_28 (pc' := 29) rfl ?_
      refine me1 (pc' := 31) (L' := [(4, ii (X % 32)), (0, .ref 2), (1, ii what), (2, ii i), (3, ii (k : Int))]) (S' := []) dm_X11_letter_29 rfl rfl rfl rfl ?_
      refine me1 (pc' := 33) (L' := [(4, ii (X % 32)), (0, .ref 2), (1, ii what), (2, ii i), (3, ii (k : Int))]) (S' := [ii (X % 32)]) dm_X11_letter_31 rfl rfl rfl rfl ?_
      refine y_1ne (a := X % 32) (t := 40) (pc' := 36) dm_X11_letter_33 rfl rfl (by omega) (fun hb3 => ?_) (fun hb3 => ?_)
      · refine me0 (pc' := 42) (S' := [ii 96]) dm_X11_letter_40 rfl rfl rfl rfl ?_
        refine me1 (pc' := 44) (L' := [(4, ii (X % 32)), (0, .ref 2), (1, ii what), (2, ii i), (3, ii (k : Int))]) (S' := [ii (X % 32), ii 96]) dm_X11_letter_42 rfl rfl rfl rfl ?_
        refine y_iadd (a := 96) (b := X % 32) dm_X11_letter_44 (pc' := 45) rfl ?_
        refine y_ret (r := some (ii (96 + (X % 32)))) dm_X11_letter_45 rfl rfl rfl ?_
        refine ⟨congrArg (fun z => some (ii z)) ?_, rfl⟩
        unfold ltC
        rw [show ((k : Int)).toNat = k from rfl, ← hX]
        first | (rw [if_pos (by omega)]; done) | (rw [if_neg (by omega)]; done)
      · refine me0 (pc' := 37) (S' := [ii (-1)]) dm_X11_letter_36 rfl rfl rfl rfl ?_
        refine me2 (pc' := 45) (S' := [ii (-1)]) dm_X11_letter_37 rfl rfl rfl ?_
        refine y_ret (r := some (ii (-1))) dm_X11_letter_45 rfl rfl rfl ?_
        refine ⟨congrArg (fun z => some (ii z)) ?_, rfl⟩
        unfold ltC
        rw [show ((k : Int)).toNat = k from rfl, ← hX]
        first | (rw [if_pos (by omega)]; done) | (rw [if_neg (by omega)]; done)
    · exfalso; omega
set_option maxRecDepth 20000 in
theorem pm_X12_letter : mj_mmof pg_ms 315 = some ((⟨"ArrayCalculatorModel", "letter", "(III)I"⟩, prog_14_method_122_code, 7, (Option.some Jvm.ClassFile.FieldType.int)), 12, false, mj_dec prog_14_method_122_code) := rfl
theorem dm_X12_letter_0 : mj_dec prog_14_method_122_code 0 = some (.iload_n 1, 1) := by decide +kernel
theorem dm_X12_letter_1 : mj_dec prog_14_method_122_code 1 = some (.ifCond .lt 35, 3) := by decide +kernel
theorem dm_X12_letter_4 : mj_dec prog_14_method_122_code 4 = some (.iload_n 1, 1) := by decide +kernel
theorem dm_X12_letter_5 : mj_dec prog_14_method_122_code 5 = some (.iconst 1, 1) := by decide +kernel
theorem dm_X12_letter_6 : mj_dec prog_14_method_122_code 6 = some (.if_icmp .gt 30, 3) := by decide +kernel
theorem dm_X12_letter_9 : mj_dec prog_14_method_122_code 9 = some (.iload_n 2, 1) := by decide +kernel
theorem dm_X12_letter_10 : mj_dec prog_14_method_122_code 10 = some (.ifCond .lt 26, 3) := by decide +kernel
theorem dm_X12_letter_13 : mj_dec prog_14_method_122_code 13 = some (.iload_n 2, 1) := by decide +kernel
theorem dm_X12_letter_14 : mj_dec prog_14_method_122_code 14 = some (.iload_n 1, 1) := by decide +kernel
theorem dm_X12_letter_15 : mj_dec prog_14_method_122_code 15 = some (.ifCond .ne 10, 3) := by decide +kernel
theorem dm_X12_letter_18 : mj_dec prog_14_method_122_code 18 = some (.aload_n 0, 1) := by decide +kernel
theorem dm_X12_letter_19 : mj_dec prog_14_method_122_code 19 = some (.getfield 357, 3) := by decide +kernel
theorem dm_X12_letter_22 : mj_dec prog_14_method_122_code 22 = some (.goto 7, 3) := by decide +kernel
theorem dm_X12_letter_25 : mj_dec prog_14_method_122_code 25 = some (.aload_n 0, 1) := by decide +kernel
theorem dm_X12_letter_26 : mj_dec prog_14_method_122_code 26 = some (.getfield 360, 3) := by decide +kernel
theorem dm_X12_letter_29 : mj_dec prog_14_method_122_code 29 = some (.if_icmp .ge 7, 3) := by decide +kernel
theorem dm_X12_letter_32 : mj_dec prog_14_method_122_code 32 = some (.iload_n 3, 1) := by decide +kernel
theorem dm_X12_letter_33 : mj_dec prog_14_method_122_code 33 = some (.ifCond .ge 5, 3) := by decide +kernel
theorem dm_X12_letter_36 : mj_dec prog_14_method_122_code 36 = some (.iconst (-1), 1) := by decide +kernel
theorem dm_X12_letter_37 : mj_dec prog_14_method_122_code 37 = some (.ireturn, 1) := by decide +kernel
theorem r_letN {xt : mj_X} {d n m : Nat} {pre post : mj_H} {s : RS} (hm : pre.length = 102) (hd : 1 ≤ d) (h23 : s.1 23 = (n : Int)) (h24 : s.1 24 = (m : Int)) (hn4 : n ≤ 40) (hm4 : m ≤ 40) {what k : Int} (hk : -2147483648 ≤ k ∧ k ≤ 2147483647) {i : Int} (hwh : -2147483648 ≤ what ∧ what ≤ 2147483647) (hi : -2147483648 ≤ i ∧ i ≤ 2147483647) (hno : what < 0 ∨ 1 < what ∨ i < 0 ∨ (what = 0 ∧ (n : Int) ≤ i) ∨ (what = 1 ∧ (m : Int) ≤ i) ∨ k < 0) : pgP xt d 315 [.ref 102, ii what, ii i, ii k] (rS pre post s) (ii (-1)) := by
  refine x_enter pm_X12_letter (L0 := [(0, .ref 102), (1, ii what), (2, ii i), (3, ii k)]) rfl (Nat.le_of_ble_eq_true rfl) (by omega) ?_
  refine me1 (pc' := 1) (L' := [(0, .ref 102), (1, ii what), (2, ii i), (3, ii k)]) (S' := [ii what]) dm_X12_letter_0 rfl rfl rfl rfl ?_
  refine y_1lt (a := what) (t := 36) (pc' := 4) dm_X12_letter_1 rfl rfl (by omega) (fun hb1 => ?_) (fun hb1 => ?_)
  · refine me0 (pc' := 37) (S' := [ii (-1)]) dm_X12_letter_36 rfl rfl rfl rfl ?_
    refine y_ret (r := some (ii (-1))) dm_X12_letter_37 rfl rfl rfl ?_
    exact ⟨rfl, rfl⟩
  · refine me1 (pc' := 5) (L' := [(0, .ref 102), (1, ii what), (2, ii i), (3, ii k)]) (S' := [ii what]) dm_X12_letter_4 rfl rfl rfl rfl ?_
    refine me0 (pc' := 6) (S' := [ii 1, ii what]) dm_X12_letter_5 rfl rfl rfl rfl ?_
    refine y_2gt (a := what) (b := 1) (t := 36) (pc' := 9) dm_X12_letter_6 rfl rfl (by omega) (fun hb2 => ?_) (fun hb2 => ?_)
    · refine me0 (pc' := 37) (S' := [ii (-1)]) dm_X12_letter_36 rfl rfl rfl rfl ?_
      refine y_ret (r := some (ii (-1))) dm_X12_letter_37 rfl rfl rfl ?_
      exact ⟨rfl, rfl⟩
    · refine me1 (pc' := 10) (L' := [(0, .ref 102), (1, ii what), (2, ii i), (3, ii k)]) (S' := [ii i]) dm_X12_letter_9 rfl rfl rfl rfl ?_
      refine y_1lt (a := i) (t := 36) (pc' := 13) dm_X12_letter_10 rfl rfl (by omega) (fun hb3 => ?_) (fun hb3 => ?_)
      · refine me0 (pc' := 37) (S' := [ii (-1)]) dm_X12_letter_36 rfl rfl rfl rfl ?_
        refine y_ret (r := some (ii (-1))) dm_X12_letter_37 rfl rfl rfl ?_
        exact ⟨rfl, rfl⟩
      · refine me1 (pc' := 14) (L' := [(0, .ref 102), (1, ii what), (2, ii i), (3, ii k)]) (S' := [ii i]) dm_X12_letter_13 rfl rfl rfl rfl ?_
        refine me1 (pc' := 15) (L' := [(0, .ref 102), (1, ii what), (2, ii i), (3, ii k)]) (S' := [ii what, ii i]) dm_X12_letter_14 rfl rfl rfl rfl ?_
        refine y_1ne (a := what) (t := 25) (pc' := 18) dm_X12_letter_15 rfl rfl (by omega) (fun hb4 => ?_) (fun hb4 => ?_)
        · refine me1 (pc' := 26) (L' := [(0, .ref 102), (1, ii what), (2, ii i), (3, ii k)]) (S' := [.ref 102, ii i]) dm_X12_letter_25 rfl rfl rfl rfl ?_
          refine me3 (pc' := 29) (S' := [ii (s.1 24), ii i]) dm_X12_letter_26 (q_geti (v := s.1 24) hm rfl (fun m i l => rg_24 m i l) rfl) rfl rfl rfl ?_
          refine pg_st0 (S' := [ii (m : Int), ii i]) (congrArg (fun z => ii z :: [ii i]) (h24)) ?_
          refine y_2ge (a := i) (b := (m : Int)) (t := 36) (pc' := 32) dm_X12_letter_29 rfl rfl (by omega) (fun hb5 => ?_) (fun hb5 => ?_)
          · refine me0 (pc' := 37) (S' := [ii (-1)]) dm_X12_letter_36 rfl rfl rfl rfl ?_
            refine y_ret (r := some (ii (-1))) dm_X12_letter_37 rfl rfl rfl ?_
            exact ⟨rfl, rfl⟩
          · refine me1 (pc' := 33) (L' := [(0, .ref 102), (1, ii what), (2, ii i), (3, ii k)]) (S' := [ii k]) dm_X12_letter_32 rfl rfl rfl rfl ?_
            refine y_1ge (a := k) (t := 38) (pc' := 36) dm_X12_letter_33 rfl rfl (by omega) (fun hb6 => ?_) (fun hb6 => ?_)
            · exfalso; omega
            · refine me0 (pc' := 37) (S' := [ii (-1)]) dm_X12_letter_36 rfl rfl rfl rfl ?_
              refine y_ret (r := some (ii (-1))) dm_X12_letter_37 rfl rfl rfl ?_
              exact ⟨rfl, rfl⟩
        · refine me1 (pc' := 19) (L' := [(0, .ref 102), (1, ii what), (2, ii i), (3, ii k)]) (S' := [.ref 102, ii i]) dm_X12_letter_18 rfl rfl rfl rfl ?_
          refine me3 (pc' := 22) (S' := [ii (s.1 23), ii i]) dm_X12_letter_19 (q_geti (v := s.1 23) hm rfl (fun m i l => rg_23 m i l) rfl) rfl rfl rfl ?_
          refine pg_st0 (S' := [ii (n : Int), ii i]) (congrArg (fun z => ii z :: [ii i]) (h23)) ?_
          refine me2 (pc' := 29) (S' := [ii (n : Int), ii i]) dm_X12_letter_22 rfl rfl rfl ?_
          refine y_2ge (a := i) (b := (n : Int)) (t := 36) (pc' := 32) dm_X12_letter_29 rfl rfl (by omega) (fun hb7 => ?_) (fun hb7 => ?_)
          · refine me0 (pc' := 37) (S' := [ii (-1)]) dm_X12_letter_36 rfl rfl rfl rfl ?_
            refine y_ret (r := some (ii (-1))) dm_X12_letter_37 rfl rfl rfl ?_
            exact ⟨rfl, rfl⟩
          · refine me1 (pc' := 33) (L' := [(0, .ref 102), (1, ii what), (2, ii i), (3, ii k)]) (S' := [ii k]) dm_X12_letter_32 rfl rfl rfl rfl ?_
            refine y_1ge (a := k) (t := 38) (pc' := 36) dm_X12_letter_33 rfl rfl (by omega) (fun hb8 => ?_) (fun hb8 => ?_)
            · exfalso; omega
            · refine me0 (pc' := 37) (S' := [ii (-1)]) dm_X12_letter_36 rfl rfl rfl rfl ?_
              refine y_ret (r := some (ii (-1))) dm_X12_letter_37 rfl rfl rfl ?_
              exact ⟨rfl, rfl⟩
theorem dm_X12_letter_38 : mj_dec prog_14_method_122_code 38 = some (.iload_n 1, 1) := by decide +kernel
theorem dm_X12_letter_39 : mj_dec prog_14_method_122_code 39 = some (.ifCond .ne 12, 3) := by decide +kernel
theorem dm_X12_letter_42 : mj_dec prog_14_method_122_code 42 = some (.aload_n 0, 1) := by decide +kernel
theorem dm_X12_letter_43 : mj_dec prog_14_method_122_code 43 = some (.getfield 43, 3) := by decide +kernel
theorem dm_X12_letter_46 : mj_dec prog_14_method_122_code 46 = some (.iload_n 2, 1) := by decide +kernel
theorem dm_X12_letter_47 : mj_dec prog_14_method_122_code 47 = some (.laload, 1) := by decide +kernel
theorem dm_X12_letter_48 : mj_dec prog_14_method_122_code 48 = some (.goto 9, 3) := by decide +kernel
theorem dm_X12_letter_57 : mj_dec prog_14_method_122_code 57 = some (.lstore 4, 2) := by decide +kernel
theorem dm_X12_letter_59 : mj_dec prog_14_method_122_code 59 = some (.iconst 0, 1) := by decide +kernel
theorem dm_X12_letter_60 : mj_dec prog_14_method_122_code 60 = some (.istore 6, 2) := by decide +kernel
theorem dm_X12_letter_62 : mj_dec prog_14_method_122_code 62 = some (.iload 6, 2) := by decide +kernel
theorem dm_X12_letter_64 : mj_dec prog_14_method_122_code 64 = some (.bipush 8, 2) := by decide +kernel
theorem dm_X12_letter_66 : mj_dec prog_14_method_122_code 66 = some (.if_icmp .ge 22, 3) := by decide +kernel
theorem dm_X12_letter_69 : mj_dec prog_14_method_122_code 69 = some (.lload 4, 2) := by decide +kernel
theorem dm_X12_letter_71 : mj_dec prog_14_method_122_code 71 = some (.bipush 8, 2) := by decide +kernel
theorem dm_X12_letter_73 : mj_dec prog_14_method_122_code 73 = some (.iload 6, 2) := by decide +kernel
theorem dm_X12_letter_75 : mj_dec prog_14_method_122_code 75 = some (.imul, 1) := by decide +kernel
theorem dm_X12_letter_76 : mj_dec prog_14_method_122_code 76 = some (.lushr, 1) := by decide +kernel
theorem dm_X12_letter_77 : mj_dec prog_14_method_122_code 77 = some (.lconst 0, 1) := by decide +kernel
theorem dm_X12_letter_78 : mj_dec prog_14_method_122_code 78 = some (.lcmp, 1) := by decide +kernel
theorem dm_X12_letter_79 : mj_dec prog_14_method_122_code 79 = some (.ifCond .eq 9, 3) := by decide +kernel
theorem dm_X12_letter_82 : mj_dec prog_14_method_122_code 82 = some (.iinc 6 1, 3) := by decide +kernel
theorem dm_X12_letter_85 : mj_dec prog_14_method_122_code 85 = some (.goto (-23), 3) := by decide +kernel
theorem dm_X12_letter_88 : mj_dec prog_14_method_122_code 88 = some (.iload_n 3, 1) := by decide +kernel
theorem dm_X12_letter_89 : mj_dec prog_14_method_122_code 89 = some (.iload 6, 2) := by decide +kernel
theorem dm_X12_letter_91 : mj_dec prog_14_method_122_code 91 = some (.if_icmp .lt 7, 3) := by decide +kernel
theorem dm_X12_letter_94 : mj_dec prog_14_method_122_code 94 = some (.iconst (-1), 1) := by decide +kernel
theorem dm_X12_letter_95 : mj_dec prog_14_method_122_code 95 = some (.goto 20, 3) := by decide +kernel
theorem dm_X12_letter_98 : mj_dec prog_14_method_122_code 98 = some (.lload 4, 2) := by decide +kernel
theorem dm_X12_letter_100 : mj_dec prog_14_method_122_code 100 = some (.bipush 8, 2) := by decide +kernel
theorem dm_X12_letter_102 : mj_dec prog_14_method_122_code 102 = some (.iload 6, 2) := by decide +kernel
theorem dm_X12_letter_104 : mj_dec prog_14_method_122_code 104 = some (.iconst 1, 1) := by decide +kernel
theorem dm_X12_letter_105 : mj_dec prog_14_method_122_code 105 = some (.isub, 1) := by decide +kernel
theorem dm_X12_letter_106 : mj_dec prog_14_method_122_code 106 = some (.iload_n 3, 1) := by decide +kernel
theorem dm_X12_letter_107 : mj_dec prog_14_method_122_code 107 = some (.isub, 1) := by decide +kernel
theorem dm_X12_letter_108 : mj_dec prog_14_method_122_code 108 = some (.imul, 1) := by decide +kernel
theorem dm_X12_letter_109 : mj_dec prog_14_method_122_code 109 = some (.lushr, 1) := by decide +kernel
theorem dm_X12_letter_110 : mj_dec prog_14_method_122_code 110 = some (.l2i, 1) := by decide +kernel
theorem dm_X12_letter_111 : mj_dec prog_14_method_122_code 111 = some (.sipush 255, 3) := by decide +kernel
theorem dm_X12_letter_114 : mj_dec prog_14_method_122_code 114 = some (.iand, 1) := by decide +kernel
theorem dm_X12_letter_115 : mj_dec prog_14_method_122_code 115 = some (.ireturn, 1) := by decide +kernel
theorem r_letV {xt : mj_X} {d n m : Nat} {pre post : mj_H} {s : RS} (hm : pre.length = 102) (hd : 1 ≤ d) (h23 : s.1 23 = (n : Int)) (h24 : s.1 24 = (m : Int)) (hn4 : n ≤ 40) (hm4 : m ≤ 40) {what k : Int} (hk : -2147483648 ≤ k ∧ k ≤ 2147483647) {i ln q : Nat} {f : Nat → Int} {r : Int} (h1 : 1 ≤ ln) (h8 : ln ≤ 8) (hf : ∀ k, k < ln → isLtI (f (q + k))) (hr : r = rkI f q ln) (hwh : what = 0) (hi : i < n) (hkey : s.2.2.2 19 i = Int64.ofInt r) (hk0 : 0 ≤ k) : pgP xt d 315 [.ref 102, ii what, ii (i : Int), ii k] (rS pre post s) (ii (if 0 ≤ k ∧ k < (ln : Int) then f (q + k.toNat) else -1)) := by
  have hrr : 97 ≤ r ∧ r < 9223372036854775808 := by rw [hr]; exact rk_r8 h1 h8 hf
  have e0 : (Int64.ofInt 0).toInt = 0 := by decide
  refine x_enter pm_X12_letter (L0 := [(0, .ref 102), (1, ii what), (2, ii (i : Int)), (3, ii k)]) rfl (Nat.le_of_ble_eq_true rfl) (by omega) ?_
  refine me1 (pc' := 1) (L' := [(0, .ref 102), (1, ii what), (2, ii (i : Int)), (3, ii k)]) (S' := [ii what]) dm_X12_letter_0 rfl rfl rfl rfl ?_
  refine y_1lt (a := what) (t := 36) (pc' := 4) dm_X12_letter_1 rfl rfl (by omega) (fun hb1 => ?_) (fun hb1 => ?_)
  · exfalso; omega
  · refine me1 (pc' := 5) (L' := [(0, .ref 102), (1, ii what), (2, ii (i : Int)), (3, ii k)]) (S' := [ii what]) dm_X12_letter_4 rfl rfl rfl rfl ?_
    refine me0 (pc' := 6) (S' := [ii 1, ii what]) dm_X12_letter_5 rfl rfl rfl rfl ?_
    refine y_2gt (a := what) (b := 1) (t := 36) (pc' := 9) dm_X12_letter_6 rfl rfl (by omega) (fun hb2 => ?_) (fun hb2 => ?_)
    · exfalso; omega
    · refine me1 (pc' := 10) (L' := [(0, .ref 102), (1, ii what), (2, ii (i : Int)), (3, ii k)]) (S' := [ii (i : Int)]) dm_X12_letter_9 rfl rfl rfl rfl ?_
      refine y_1lt (a := (i : Int)) (t := 36) (pc' := 13) dm_X12_letter_10 rfl rfl (by omega) (fun hb3 => ?_) (fun hb3 => ?_)
      · exfalso; omega
      · refine me1 (pc' := 14) (L' := [(0, .ref 102), (1, ii what), (2, ii (i : Int)), (3, ii k)]) (S' := [ii (i : Int)]) dm_X12_letter_13 rfl rfl rfl rfl ?_
        refine me1 (pc' := 15) (L' := [(0, .ref 102), (1, ii what), (2, ii (i : Int)), (3, ii k)]) (S' := [ii what, ii (i : Int)]) dm_X12_letter_14 rfl rfl rfl rfl ?_
        refine y_1ne (a := what) (t := 25) (pc' := 18) dm_X12_letter_15 rfl rfl (by omega) (fun hb4 => ?_) (fun hb4 => ?_)
        · exfalso; omega
        · refine me1 (pc' := 19) (L' := [(0, .ref 102), (1, ii what), (2, ii (i : Int)), (3, ii k)]) (S' := [.ref 102, ii (i : Int)]) dm_X12_letter_18 rfl rfl rfl rfl ?_
          refine me3 (pc' := 22) (S' := [ii (s.1 23), ii (i : Int)]) dm_X12_letter_19 (q_geti (v := s.1 23) hm rfl (fun m i l => rg_23 m i l) rfl) rfl rfl rfl ?_
          refine pg_st0 (S' := [ii (n : Int), ii (i : Int)]) (congrArg (fun z => ii z :: [ii (i : Int)]) (h23)) ?_
          refine me2 (pc' := 29) (S' := [ii (n : Int), ii (i : Int)]) dm_X12_letter_22 rfl rfl rfl ?_
          refine y_2ge (a := (i : Int)) (b := (n : Int)) (t := 36) (pc' := 32) dm_X12_letter_29 rfl rfl (by omega) (fun hb5 => ?_) (fun hb5 => ?_)
          · exfalso; omega
          · refine me1 (pc' := 33) (L' := [(0, .ref 102), (1, ii what), (2, ii (i : Int)), (3, ii k)]) (S' := [ii k]) dm_X12_letter_32 rfl rfl rfl rfl ?_
            refine y_1ge (a := k) (t := 38) (pc' := 36) dm_X12_letter_33 rfl rfl (by omega) (fun hb6 => ?_) (fun hb6 => ?_)
            · refine me1 (pc' := 39) (L' := [(0, .ref 102), (1, ii what), (2, ii (i : Int)), (3, ii k)]) (S' := [ii what]) dm_X12_letter_38 rfl rfl rfl rfl ?_
              refine y_1ne (a := what) (t := 51) (pc' := 42) dm_X12_letter_39 rfl rfl (by omega) (fun hb7 => ?_) (fun hb7 => ?_)
              · exfalso; omega
              · refine me1 (pc' := 43) (L' := [(0, .ref 102), (1, ii what), (2, ii (i : Int)), (3, ii k)]) (S' := [.ref 102]) dm_X12_letter_42 rfl rfl rfl rfl ?_
                refine me3 (pc' := 46) (S' := [.ref (102 + 8)]) dm_X12_letter_43 (q_getr hm rfl (fun m i l => rg_19 m i l)) rfl rfl rfl ?_
                refine me1 (pc' := 47) (L' := [(0, .ref 102), (1, ii what), (2, ii (i : Int)), (3, ii k)]) (S' := [ii (i : Int), .ref (102 + 8)]) dm_X12_letter_46 rfl rfl rfl rfl ?_
                refine me3 (pc' := 48) (S' := [.long ((s.2.2.2 19) i)]) dm_X12_letter_47 (q_lald (v := (s.2.2.2 19) i) (k := 19) (n := 40) hm (fun m i l I J => rc_19 m i l I J) (by omega) (by omega) (by decide) rfl) rfl rfl rfl ?_
                refine me2 (pc' := 57) (S' := [.long ((s.2.2.2 19) i)]) dm_X12_letter_48 rfl rfl rfl ?_
                refine pg_st0 (S' := [.long (Int64.ofInt r)]) (congrArg (fun z => [Value.long z]) hkey) ?_
                refine me1 (pc' := 59) (L' := [(4, .long (Int64.ofInt r)), (0, .ref 102), (1, ii what), (2, ii (i : Int)), (3, ii k)]) (S' := []) dm_X12_letter_57 rfl rfl rfl rfl ?_
                refine me0 (pc' := 60) (S' := [ii 0]) dm_X12_letter_59 rfl rfl rfl rfl ?_
                refine me1 (pc' := 62) (L' := [(6, ii 0), (4, .long (Int64.ofInt r)), (0, .ref 102), (1, ii what), (2, ii (i : Int)), (3, ii k)]) (S' := []) dm_X12_letter_60 rfl rfl rfl rfl ?_
                have lp62 : ∀ (n62 : Nat) (j : Nat), ln - j = n62 → (j ≤ ln) → pgE xt (d - 1) 12 7 false (Option.some Jvm.ClassFile.FieldType.int) (mj_dec prog_14_method_122_code) 62 [(0, .ref 102), (1, ii what), (2, ii (i : Int)), (3, ii k), (4, .long (Int64.ofInt r)), (6, ii ((j : Nat) : Int))] [] (rI pre post s.1 s.2.1 s.2.2.1 s.2.2.2) (fun r h' => r = some (ii (if 0 ≤ k ∧ k < (ln : Int) then f (q + k.toNat) else -1)) ∧ h' = rS pre post s) := by
                  intro n62
                  induction n62 using Nat.strongRecOn with
                  | ind n62 ih62 =>
                    intro j hm62 hj
                    have hdv := rk_div h8 hf j hj
                    obtain ⟨Y, hY⟩ : ∃ Y : Int, Y = rkI f q (ln - j) := ⟨_, rfl⟩
                    have hYr : (j = ln ∧ Y = 0) ∨ (j < ln ∧ 97 ≤ Y ∧ Y < 9223372036854775808) := by by_cases z : j = ln; (exact Or.inl ⟨z, by rw [hY, z, Nat.sub_self]; rfl⟩); (refine Or.inr ⟨by omega, ?_⟩; rw [hY]; exact rk_r8 (by omega) (by omega) (fun k hk => hf k (by omega)))
                    refine me1 (pc' := 64) (L' := [(0, .ref 102), (1, ii what), (2, ii (i : Int)), (3, ii k), (4, .long (Int64.ofInt r)), (6, ii ((j : Nat) : Int))]) (S' := [ii ((j : Nat) : Int)]) dm_X12_letter_62 rfl rfl rfl rfl ?_
                    refine me0 (pc' := 66) (S' := [ii 8, ii ((j : Nat) : Int)]) dm_X12_letter_64 rfl rfl rfl rfl ?_
                    refine y_2ge (a := ((j : Nat) : Int)) (b := 8) (t := 88) (pc' := 69) dm_X12_letter_66 rfl rfl (by omega) (fun hb8 => ?_) (fun hb8 => ?_)
                    · have hjl : j = ln := by omega
                      refine me1 (pc' := 89) (L' := [(0, .ref 102), (1, ii what), (2, ii (i : Int)), (3, ii k), (4, .long (Int64.ofInt r)), (6, ii ((j : Nat) : Int))]) (S' := [ii k]) dm_X12_letter_88 rfl rfl rfl rfl ?_
                      refine me1 (pc' := 91) (L' := [(0, .ref 102), (1, ii what), (2, ii (i : Int)), (3, ii k), (4, .long (Int64.ofInt r)), (6, ii ((j : Nat) : Int))]) (S' := [ii ((j : Nat) : Int), ii k]) dm_X12_letter_89 rfl rfl rfl rfl ?_
                      refine y_2lt (a := k) (b := ((j : Nat) : Int)) (t := 98) (pc' := 94) dm_X12_letter_91 rfl rfl (by omega) (fun hb9 => ?_) (fun hb9 => ?_)
                      · obtain ⟨Z9, hZ⟩ : ∃ Z9 : Int, Z9 = r / 2 ^ (8 * (j - 1 - k.toNat)) := ⟨_, rfl⟩
                        refine me1 (pc' := 100) (L' := [(0, .ref 102), (1, ii what), (2, ii (i : Int)), (3, ii k), (4, .long (Int64.ofInt r)), (6, ii ((j : Nat) : Int))]) (S' := [.long (Int64.ofInt r)]) dm_X12_letter_98 rfl rfl rfl rfl ?_
                        refine me0 (pc' := 102) (S' := [ii 8, .long (Int64.ofInt r)]) dm_X12_letter_100 rfl rfl rfl rfl ?_
                        refine me1 (pc' := 104) (L' := [(0, .ref 102), (1, ii what), (2, ii (i : Int)), (3, ii k), (4, .long (Int64.ofInt r)), (6, ii ((j : Nat) : Int))]) (S' := [ii ((j : Nat) : Int), ii 8, .long (Int64.ofInt r)]) dm_X12_letter_102 rfl rfl rfl rfl ?_
                        refine me0 (pc' := 105) (S' := [ii 1, ii ((j : Nat) : Int), ii 8, .long (Int64.ofInt r)]) dm_X12_letter_104 rfl rfl rfl rfl ?_
                        refine y_isub (a := ((j : Nat) : Int)) (b := 1) dm_X12_letter_105 (pc' := 106) rfl ?_
                        refine me1 (pc' := 107) (L' := [(0, .ref 102), (1, ii what), (2, ii (i : Int)), (3, ii k), (4, .long (Int64.ofInt r)), (6, ii ((j : Nat) : Int))]) (S' := [ii k, ii (((j : Nat) : Int) - 1), ii 8, .long (Int64.ofInt r)]) dm_X12_letter_106 rfl rfl rfl rfl ?_
                        refine y_isub (a := ((j : Nat) : Int) - 1) (b := k) dm_X12_letter_107 (pc' := 108) rfl ?_
                        refine y_imul (a := 8) (b := (((j : Nat) : Int) - 1) - k) dm_X12_letter_108 (pc' := 109) rfl ?_
                        refine y_lushr (a := r) (n := 8 * ((((j : Nat) : Int) - 1) - k)) (k := 8 * (j - 1 - k.toNat)) dm_X12_letter_109 (pc' := 110) rfl (by omega) (by omega) (by omega) (by omega) ?_
                        refine y_l2i (a := Z9) dm_X12_letter_110 (pc' := 111) rfl ((by rw [Int64.toInt32_ofInt, hZ])) ?_
                        refine me0 (pc' := 114) (S' := [ii 255, ii Z9]) dm_X12_letter_111 rfl rfl rfl rfl ?_
                        refine y_and255g (a := Z9) dm_X12_letter_114 (pc' := 115) rfl ?_
                        refine y_ret (r := some (ii (Z9 % 256))) dm_X12_letter_115 rfl rfl rfl ?_
                        refine ⟨congrArg (fun z => some (ii z)) ?_, rfl⟩
                        rw [if_pos (by omega), hZ, hr, rk_div h8 hf (j - 1 - k.toNat) (by omega), show ln - (j - 1 - k.toNat) = k.toNat + 1 by omega]
                        show (rkI f q k.toNat * 256 + f (q + k.toNat)) % 256 = _
                        have := hf k.toNat (by omega)
                        omega
                      · refine me0 (pc' := 95) (S' := [ii (-1)]) dm_X12_letter_94 rfl rfl rfl rfl ?_
                        refine me2 (pc' := 115) (S' := [ii (-1)]) dm_X12_letter_95 rfl rfl rfl ?_
                        refine y_ret (r := some (ii (-1))) dm_X12_letter_115 rfl rfl rfl ?_
                        refine ⟨congrArg (fun z => some (ii z)) ?_, rfl⟩
                        rw [if_neg (by omega)]
                    · refine me1 (pc' := 71) (L' := [(0, .ref 102), (1, ii what), (2, ii (i : Int)), (3, ii k), (4, .long (Int64.ofInt r)), (6, ii ((j : Nat) : Int))]) (S' := [.long (Int64.ofInt r)]) dm_X12_letter_69 rfl rfl rfl rfl ?_
                      refine me0 (pc' := 73) (S' := [ii 8, .long (Int64.ofInt r)]) dm_X12_letter_71 rfl rfl rfl rfl ?_
                      refine me1 (pc' := 75) (L' := [(0, .ref 102), (1, ii what), (2, ii (i : Int)), (3, ii k), (4, .long (Int64.ofInt r)), (6, ii ((j : Nat) : Int))]) (S' := [ii ((j : Nat) : Int), ii 8, .long (Int64.ofInt r)]) dm_X12_letter_73 rfl rfl rfl rfl ?_
                      refine y_imul (a := 8) (b := ((j : Nat) : Int)) dm_X12_letter_75 (pc' := 76) rfl ?_
                      refine y_lushr (a := r) (n := 8 * ((j : Nat) : Int)) (k := 8 * j) dm_X12_letter_76 (pc' := 77) rfl (by omega) (by omega) (by omega) (by omega) ?_
                      refine pg_st0 (S' := [.long (Int64.ofInt Y)]) (congrArg (fun z => [Value.long (Int64.ofInt z)]) (by rw [hY, hr]; exact hdv)) ?_
                      refine me0 (pc' := 78) (S' := [.long (Int64.ofInt 0), .long (Int64.ofInt Y)]) dm_X12_letter_77 rfl rfl rfl rfl ?_
                      refine y_leq (x := Int64.ofInt Y) (y := Int64.ofInt 0) (t := 88) (pc1 := 79) (pc' := 82) dm_X12_letter_78 rfl dm_X12_letter_79 rfl rfl (fun hb10 => ?_) (fun hb10 => ?_)
                      · have hb10i := congrArg Int64.toInt hb10
                        rw [n_toL (by omega) (by omega), e0] at hb10i
                        have hjl : j = ln := by omega
                        refine me1 (pc' := 89) (L' := [(0, .ref 102), (1, ii what), (2, ii (i : Int)), (3, ii k), (4, .long (Int64.ofInt r)), (6, ii ((j : Nat) : Int))]) (S' := [ii k]) dm_X12_letter_88 rfl rfl rfl rfl ?_
                        refine me1 (pc' := 91) (L' := [(0, .ref 102), (1, ii what), (2, ii (i : Int)), (3, ii k), (4, .long (Int64.ofInt r)), (6, ii ((j : Nat) : Int))]) (S' := [ii ((j : Nat) : Int), ii k]) dm_X12_letter_89 rfl rfl rfl rfl ?_
                        refine y_2lt (a := k) (b := ((j : Nat) : Int)) (t := 98) (pc' := 94) dm_X12_letter_91 rfl rfl (by omega) (fun hb11 => ?_) (fun hb11 => ?_)
                        · obtain ⟨Z9, hZ⟩ : ∃ Z9 : Int, Z9 = r / 2 ^ (8 * (j - 1 - k.toNat)) := ⟨_, rfl⟩
                          refine me1 (pc' := 100) (L' := [(0, .ref 102), (1, ii what), (2, ii (i : Int)), (3, ii k), (4, .long (Int64.ofInt r)), (6, ii ((j : Nat) : Int))]) (S' := [.long (Int64.ofInt r)]) dm_X12_letter_98 rfl rfl rfl rfl ?_
                          refine me0 (pc' := 102) (S' := [ii 8, .long (Int64.ofInt r)]) dm_X12_letter_100 rfl rfl rfl rfl ?_
                          refine me1 (pc' := 104) (L' := [(0, .ref 102), (1, ii what), (2, ii (i : Int)), (3, ii k), (4, .long (Int64.ofInt r)), (6, ii ((j : Nat) : Int))]) (S' := [ii ((j : Nat) : Int), ii 8, .long (Int64.ofInt r)]) dm_X12_letter_102 rfl rfl rfl rfl ?_
                          refine me0 (pc' := 105) (S' := [ii 1, ii ((j : Nat) : Int), ii 8, .long (Int64.ofInt r)]) dm_X12_letter_104 rfl rfl rfl rfl ?_
                          refine y_isub (a := ((j : Nat) : Int)) (b := 1) dm_X12_letter_105 (pc' := 106) rfl ?_
                          refine me1 (pc' := 107) (L' := [(0, .ref 102), (1, ii what), (2, ii (i : Int)), (3, ii k), (4, .long (Int64.ofInt r)), (6, ii ((j : Nat) : Int))]) (S' := [ii k, ii (((j : Nat) : Int) - 1), ii 8, .long (Int64.ofInt r)]) dm_X12_letter_106 rfl rfl rfl rfl ?_
                          refine y_isub (a := ((j : Nat) : Int) - 1) (b := k) dm_X12_letter_107 (pc' := 108) rfl ?_
                          refine y_imul (a := 8) (b := (((j : Nat) : Int) - 1) - k) dm_X12_letter_108 (pc' := 109) rfl ?_
                          refine y_lushr (a := r) (n := 8 * ((((j : Nat) : Int) - 1) - k)) (k := 8 * (j - 1 - k.toNat)) dm_X12_letter_109 (pc' := 110) rfl (by omega) (by omega) (by omega) (by omega) ?_
                          refine y_l2i (a := Z9) dm_X12_letter_110 (pc' := 111) rfl ((by rw [Int64.toInt32_ofInt, hZ])) ?_
                          refine me0 (pc' := 114) (S' := [ii 255, ii Z9]) dm_X12_letter_111 rfl rfl rfl rfl ?_
                          refine y_and255g (a := Z9) dm_X12_letter_114 (pc' := 115) rfl ?_
                          refine y_ret (r := some (ii (Z9 % 256))) dm_X12_letter_115 rfl rfl rfl ?_
                          refine ⟨congrArg (fun z => some (ii z)) ?_, rfl⟩
                          rw [if_pos (by omega), hZ, hr, rk_div h8 hf (j - 1 - k.toNat) (by omega), show ln - (j - 1 - k.toNat) = k.toNat + 1 by omega]
                          show (rkI f q k.toNat * 256 + f (q + k.toNat)) % 256 = _
                          have := hf k.toNat (by omega)
                          omega
                        · refine me0 (pc' := 95) (S' := [ii (-1)]) dm_X12_letter_94 rfl rfl rfl rfl ?_
                          refine me2 (pc' := 115) (S' := [ii (-1)]) dm_X12_letter_95 rfl rfl rfl ?_
                          refine y_ret (r := some (ii (-1))) dm_X12_letter_115 rfl rfl rfl ?_
                          refine ⟨congrArg (fun z => some (ii z)) ?_, rfl⟩
                          rw [if_neg (by omega)]
                      · have hb10i : ¬ (Int64.ofInt Y).toInt = (Int64.ofInt 0).toInt := fun z => hb10 (Int64.toInt_inj.mp z)
                        rw [n_toL (by omega) (by omega), e0] at hb10i
                        refine y_iinc (pc' := 85) (L' := [(6, ii (((j : Nat) : Int) + 1)), (0, .ref 102), (1, ii what), (2, ii (i : Int)), (3, ii k), (4, .long (Int64.ofInt r))]) dm_X12_letter_82 (y_incp (a := ((j : Nat) : Int)) (c := 1) rfl rfl (by decide)) rfl ?_
                        refine me2 (pc' := 62) (S' := []) dm_X12_letter_85 rfl rfl rfl ?_
                        exact pg_sub (L := [(0, .ref 102), (1, ii what), (2, ii (i : Int)), (3, ii k), (4, .long (Int64.ofInt r)), (6, ii (((j + 1) : Nat) : Int))]) rfl rfl rfl (ih62 (ln - (j + 1)) (by omega) (j + 1) rfl (by omega))
                exact pg_sub (L := [(0, .ref 102), (1, ii what), (2, ii (i : Int)), (3, ii k), (4, .long (Int64.ofInt r)), (6, ii ((0 : Nat) : Int))]) rfl rfl rfl (lp62 _ 0 rfl (Nat.zero_le _))
            · exfalso; omega
theorem dm_X12_letter_51 : mj_dec prog_14_method_122_code 51 = some (.aload_n 0, 1) := by decide +kernel
theorem dm_X12_letter_52 : mj_dec prog_14_method_122_code 52 = some (.getfield 46, 3) := by decide +kernel
theorem dm_X12_letter_55 : mj_dec prog_14_method_122_code 55 = some (.iload_n 2, 1) := by decide +kernel
theorem dm_X12_letter_56 : mj_dec prog_14_method_122_code 56 = some (.laload, 1) := by decide +kernel
theorem r_letF {xt : mj_X} {d n m : Nat} {pre post : mj_H} {s : RS} (hm : pre.length = 102) (hd : 1 ≤ d) (h23 : s.1 23 = (n : Int)) (h24 : s.1 24 = (m : Int)) (hn4 : n ≤ 40) (hm4 : m ≤ 40) {what k : Int} (hk : -2147483648 ≤ k ∧ k ≤ 2147483647) {i ln q : Nat} {f : Nat → Int} {r : Int} (h1 : 1 ≤ ln) (h8 : ln ≤ 8) (hf : ∀ k, k < ln → isLtI (f (q + k))) (hr : r = rkI f q ln) (hwh : what = 1) (hi : i < m) (hkey : s.2.2.2 20 i = Int64.ofInt r) (hk0 : 0 ≤ k) : pgP xt d 315 [.ref 102, ii what, ii (i : Int), ii k] (rS pre post s) (ii (if 0 ≤ k ∧ k < (ln : Int) then f (q + k.toNat) else -1)) := by
  have hrr : 97 ≤ r ∧ r < 9223372036854775808 := by rw [hr]; exact rk_r8 h1 h8 hf
  have e0 : (Int64.ofInt 0).toInt = 0 := by decide
  refine x_enter pm_X12_letter (L0 := [(0, .ref 102), (1, ii what), (2, ii (i : Int)), (3, ii k)]) rfl (Nat.le_of_ble_eq_true rfl) (by omega) ?_
  refine me1 (pc' := 1) (L' := [(0, .ref 102), (1, ii what), (2, ii (i : Int)), (3, ii k)]) (S' := [ii what]) dm_X12_letter_0 rfl rfl rfl rfl ?_
  refine y_1lt (a := what) (t := 36) (pc' := 4) dm_X12_letter_1 rfl rfl (by omega) (fun hb12 => ?_) (fun hb12 => ?_)
  · exfalso; omega
  · refine me1 (pc' := 5) (L' := [(0, .ref 102), (1, ii what), (2, ii (i : Int)), (3, ii k)]) (S' := [ii what]) dm_X12_letter_4 rfl rfl rfl rfl ?_
    refine me0 (pc' := 6) (S' := [ii 1, ii what]) dm_X12_letter_5 rfl rfl rfl rfl ?_
    refine y_2gt (a := what) (b := 1) (t := 36) (pc' := 9) dm_X12_letter_6 rfl rfl (by omega) (fun hb13 => ?_) (fun hb13 => ?_)
    · exfalso; omega
    · refine me1 (pc' := 10) (L' := [(0, .ref 102), (1, ii what), (2, ii (i : Int)), (3, ii k)]) (S' := [ii (i : Int)]) dm_X12_letter_9 rfl rfl rfl rfl ?_
      refine y_1lt (a := (i : Int)) (t := 36) (pc' := 13) dm_X12_letter_10 rfl rfl (by omega) (fun hb14 => ?_) (fun hb14 => ?_)
      · exfalso; omega
      · refine me1 (pc' := 14) (L' := [(0, .ref 102), (1, ii what), (2, ii (i : Int)), (3, ii k)]) (S' := [ii (i : Int)]) dm_X12_letter_13 rfl rfl rfl rfl ?_
        refine me1 (pc' := 15) (L' := [(0, .ref 102), (1, ii what), (2, ii (i : Int)), (3, ii k)]) (S' := [ii what, ii (i : Int)]) dm_X12_letter_14 rfl rfl rfl rfl ?_
        refine y_1ne (a := what) (t := 25) (pc' := 18) dm_X12_letter_15 rfl rfl (by omega) (fun hb15 => ?_) (fun hb15 => ?_)
        · refine me1 (pc' := 26) (L' := [(0, .ref 102), (1, ii what), (2, ii (i : Int)), (3, ii k)]) (S' := [.ref 102, ii (i : Int)]) dm_X12_letter_25 rfl rfl rfl rfl ?_
          refine me3 (pc' := 29) (S' := [ii (s.1 24), ii (i : Int)]) dm_X12_letter_26 (q_geti (v := s.1 24) hm rfl (fun m i l => rg_24 m i l) rfl) rfl rfl rfl ?_
          refine pg_st0 (S' := [ii (m : Int), ii (i : Int)]) (congrArg (fun z => ii z :: [ii (i : Int)]) (h24)) ?_
          refine y_2ge (a := (i : Int)) (b := (m : Int)) (t := 36) (pc' := 32) dm_X12_letter_29 rfl rfl (by omega) (fun hb16 => ?_) (fun hb16 => ?_)
          · exfalso; omega
          · refine me1 (pc' := 33) (L' := [(0, .ref 102), (1, ii what), (2, ii (i : Int)), (3, ii k)]) (S' := [ii k]) dm_X12_letter_32 rfl rfl rfl rfl ?_
            refine y_1ge (a := k) (t := 38) (pc' := 36) dm_X12_letter_33 rfl rfl (by omega) (fun hb17 => ?_) (fun hb17 => ?_)
            · refine me1 (pc' := 39) (L' := [(0, .ref 102), (1, ii what), (2, ii (i : Int)), (3, ii k)]) (S' := [ii what]) dm_X12_letter_38 rfl rfl rfl rfl ?_
              refine y_1ne (a := what) (t := 51) (pc' := 42) dm_X12_letter_39 rfl rfl (by omega) (fun hb18 => ?_) (fun hb18 => ?_)
              · refine me1 (pc' := 52) (L' := [(0, .ref 102), (1, ii what), (2, ii (i : Int)), (3, ii k)]) (S' := [.ref 102]) dm_X12_letter_51 rfl rfl rfl rfl ?_
                refine me3 (pc' := 55) (S' := [.ref (102 + 9)]) dm_X12_letter_52 (q_getr hm rfl (fun m i l => rg_20 m i l)) rfl rfl rfl ?_
                refine me1 (pc' := 56) (L' := [(0, .ref 102), (1, ii what), (2, ii (i : Int)), (3, ii k)]) (S' := [ii (i : Int), .ref (102 + 9)]) dm_X12_letter_55 rfl rfl rfl rfl ?_
                refine me3 (pc' := 57) (S' := [.long ((s.2.2.2 20) i)]) dm_X12_letter_56 (q_lald (v := (s.2.2.2 20) i) (k := 20) (n := 40) hm (fun m i l I J => rc_20 m i l I J) (by omega) (by omega) (by decide) rfl) rfl rfl rfl ?_
                refine pg_st0 (S' := [.long (Int64.ofInt r)]) (congrArg (fun z => [Value.long z]) hkey) ?_
                refine me1 (pc' := 59) (L' := [(4, .long (Int64.ofInt r)), (0, .ref 102), (1, ii what), (2, ii (i : Int)), (3, ii k)]) (S' := []) dm_X12_letter_57 rfl rfl rfl rfl ?_
                refine me0 (pc' := 60) (S' := [ii 0]) dm_X12_letter_59 rfl rfl rfl rfl ?_
                refine me1 (pc' := 62) (L' := [(6, ii 0), (4, .long (Int64.ofInt r)), (0, .ref 102), (1, ii what), (2, ii (i : Int)), (3, ii k)]) (S' := []) dm_X12_letter_60 rfl rfl rfl rfl ?_
                have lp62 : ∀ (n62 : Nat) (j : Nat), ln - j = n62 → (j ≤ ln) → pgE xt (d - 1) 12 7 false (Option.some Jvm.ClassFile.FieldType.int) (mj_dec prog_14_method_122_code) 62 [(0, .ref 102), (1, ii what), (2, ii (i : Int)), (3, ii k), (4, .long (Int64.ofInt r)), (6, ii ((j : Nat) : Int))] [] (rI pre post s.1 s.2.1 s.2.2.1 s.2.2.2) (fun r h' => r = some (ii (if 0 ≤ k ∧ k < (ln : Int) then f (q + k.toNat) else -1)) ∧ h' = rS pre post s) := by
                  intro n62
                  induction n62 using Nat.strongRecOn with
                  | ind n62 ih62 =>
                    intro j hm62 hj
                    have hdv := rk_div h8 hf j hj
                    obtain ⟨Y, hY⟩ : ∃ Y : Int, Y = rkI f q (ln - j) := ⟨_, rfl⟩
                    have hYr : (j = ln ∧ Y = 0) ∨ (j < ln ∧ 97 ≤ Y ∧ Y < 9223372036854775808) := by by_cases z : j = ln; (exact Or.inl ⟨z, by rw [hY, z, Nat.sub_self]; rfl⟩); (refine Or.inr ⟨by omega, ?_⟩; rw [hY]; exact rk_r8 (by omega) (by omega) (fun k hk => hf k (by omega)))
                    refine me1 (pc' := 64) (L' := [(0, .ref 102), (1, ii what), (2, ii (i : Int)), (3, ii k), (4, .long (Int64.ofInt r)), (6, ii ((j : Nat) : Int))]) (S' := [ii ((j : Nat) : Int)]) dm_X12_letter_62 rfl rfl rfl rfl ?_
                    refine me0 (pc' := 66) (S' := [ii 8, ii ((j : Nat) : Int)]) dm_X12_letter_64 rfl rfl rfl rfl ?_
                    refine y_2ge (a := ((j : Nat) : Int)) (b := 8) (t := 88) (pc' := 69) dm_X12_letter_66 rfl rfl (by omega) (fun hb19 => ?_) (fun hb19 => ?_)
                    · have hjl : j = ln := by omega
                      refine me1 (pc' := 89) (L' := [(0, .ref 102), (1, ii what), (2, ii (i : Int)), (3, ii k), (4, .long (Int64.ofInt r)), (6, ii ((j : Nat) : Int))]) (S' := [ii k]) dm_X12_letter_88 rfl rfl rfl rfl ?_
                      refine me1 (pc' := 91) (L' := [(0, .ref 102), (1, ii what), (2, ii (i : Int)), (3, ii k), (4, .long (Int64.ofInt r)), (6, ii ((j : Nat) : Int))]) (S' := [ii ((j : Nat) : Int), ii k]) dm_X12_letter_89 rfl rfl rfl rfl ?_
                      refine y_2lt (a := k) (b := ((j : Nat) : Int)) (t := 98) (pc' := 94) dm_X12_letter_91 rfl rfl (by omega) (fun hb20 => ?_) (fun hb20 => ?_)
                      · obtain ⟨Z9, hZ⟩ : ∃ Z9 : Int, Z9 = r / 2 ^ (8 * (j - 1 - k.toNat)) := ⟨_, rfl⟩
                        refine me1 (pc' := 100) (L' := [(0, .ref 102), (1, ii what), (2, ii (i : Int)), (3, ii k), (4, .long (Int64.ofInt r)), (6, ii ((j : Nat) : Int))]) (S' := [.long (Int64.ofInt r)]) dm_X12_letter_98 rfl rfl rfl rfl ?_
                        refine me0 (pc' := 102) (S' := [ii 8, .long (Int64.ofInt r)]) dm_X12_letter_100 rfl rfl rfl rfl ?_
                        refine me1 (pc' := 104) (L' := [(0, .ref 102), (1, ii what), (2, ii (i : Int)), (3, ii k), (4, .long (Int64.ofInt r)), (6, ii ((j : Nat) : Int))]) (S' := [ii ((j : Nat) : Int), ii 8, .long (Int64.ofInt r)]) dm_X12_letter_102 rfl rfl rfl rfl ?_
                        refine me0 (pc' := 105) (S' := [ii 1, ii ((j : Nat) : Int), ii 8, .long (Int64.ofInt r)]) dm_X12_letter_104 rfl rfl rfl rfl ?_
                        refine y_isub (a := ((j : Nat) : Int)) (b := 1) dm_X12_letter_105 (pc' := 106) rfl ?_
                        refine me1 (pc' := 107) (L' := [(0, .ref 102), (1, ii what), (2, ii (i : Int)), (3, ii k), (4, .long (Int64.ofInt r)), (6, ii ((j : Nat) : Int))]) (S' := [ii k, ii (((j : Nat) : Int) - 1), ii 8, .long (Int64.ofInt r)]) dm_X12_letter_106 rfl rfl rfl rfl ?_
                        refine y_isub (a := ((j : Nat) : Int) - 1) (b := k) dm_X12_letter_107 (pc' := 108) rfl ?_
                        refine y_imul (a := 8) (b := (((j : Nat) : Int) - 1) - k) dm_X12_letter_108 (pc' := 109) rfl ?_
                        refine y_lushr (a := r) (n := 8 * ((((j : Nat) : Int) - 1) - k)) (k := 8 * (j - 1 - k.toNat)) dm_X12_letter_109 (pc' := 110) rfl (by omega) (by omega) (by omega) (by omega) ?_
                        refine y_l2i (a := Z9) dm_X12_letter_110 (pc' := 111) rfl ((by rw [Int64.toInt32_ofInt, hZ])) ?_
                        refine me0 (pc' := 114) (S' := [ii 255, ii Z9]) dm_X12_letter_111 rfl rfl rfl rfl ?_
                        refine y_and255g (a := Z9) dm_X12_letter_114 (pc' := 115) rfl ?_
                        refine y_ret (r := some (ii (Z9 % 256))) dm_X12_letter_115 rfl rfl rfl ?_
                        refine ⟨congrArg (fun z => some (ii z)) ?_, rfl⟩
                        rw [if_pos (by omega), hZ, hr, rk_div h8 hf (j - 1 - k.toNat) (by omega), show ln - (j - 1 - k.toNat) = k.toNat + 1 by omega]
                        show (rkI f q k.toNat * 256 + f (q + k.toNat)) % 256 = _
                        have := hf k.toNat (by omega)
                        omega
                      · refine me0 (pc' := 95) (S' := [ii (-1)]) dm_X12_letter_94 rfl rfl rfl rfl ?_
                        refine me2 (pc' := 115) (S' := [ii (-1)]) dm_X12_letter_95 rfl rfl rfl ?_
                        refine y_ret (r := some (ii (-1))) dm_X12_letter_115 rfl rfl rfl ?_
                        refine ⟨congrArg (fun z => some (ii z)) ?_, rfl⟩
                        rw [if_neg (by omega)]
                    · refine me1 (pc' := 71) (L' := [(0, .ref 102), (1, ii what), (2, ii (i : Int)), (3, ii k), (4, .long (Int64.ofInt r)), (6, ii ((j : Nat) : Int))]) (S' := [.long (Int64.ofInt r)]) dm_X12_letter_69 rfl rfl rfl rfl ?_
                      refine me0 (pc' := 73) (S' := [ii 8, .long (Int64.ofInt r)]) dm_X12_letter_71 rfl rfl rfl rfl ?_
                      refine me1 (pc' := 75) (L' := [(0, .ref 102), (1, ii what), (2, ii (i : Int)), (3, ii k), (4, .long (Int64.ofInt r)), (6, ii ((j : Nat) : Int))]) (S' := [ii ((j : Nat) : Int), ii 8, .long (Int64.ofInt r)]) dm_X12_letter_73 rfl rfl rfl rfl ?_
                      refine y_imul (a := 8) (b := ((j : Nat) : Int)) dm_X12_letter_75 (pc' := 76) rfl ?_
                      refine y_lushr (a := r) (n := 8 * ((j : Nat) : Int)) (k := 8 * j) dm_X12_letter_76 (pc' := 77) rfl (by omega) (by omega) (by omega) (by omega) ?_
                      refine pg_st0 (S' := [.long (Int64.ofInt Y)]) (congrArg (fun z => [Value.long (Int64.ofInt z)]) (by rw [hY, hr]; exact hdv)) ?_
                      refine me0 (pc' := 78) (S' := [.long (Int64.ofInt 0), .long (Int64.ofInt Y)]) dm_X12_letter_77 rfl rfl rfl rfl ?_
                      refine y_leq (x := Int64.ofInt Y) (y := Int64.ofInt 0) (t := 88) (pc1 := 79) (pc' := 82) dm_X12_letter_78 rfl dm_X12_letter_79 rfl rfl (fun hb21 => ?_) (fun hb21 => ?_)
                      · have hb21i := congrArg Int64.toInt hb21
                        rw [n_toL (by omega) (by omega), e0] at hb21i
                        have hjl : j = ln := by omega
                        refine me1 (pc' := 89) (L' := [(0, .ref 102), (1, ii what), (2, ii (i : Int)), (3, ii k), (4, .long (Int64.ofInt r)), (6, ii ((j : Nat) : Int))]) (S' := [ii k]) dm_X12_letter_88 rfl rfl rfl rfl ?_
                        refine me1 (pc' := 91) (L' := [(0, .ref 102), (1, ii what), (2, ii (i : Int)), (3, ii k), (4, .long (Int64.ofInt r)), (6, ii ((j : Nat) : Int))]) (S' := [ii ((j : Nat) : Int), ii k]) dm_X12_letter_89 rfl rfl rfl rfl ?_
                        refine y_2lt (a := k) (b := ((j : Nat) : Int)) (t := 98) (pc' := 94) dm_X12_letter_91 rfl rfl (by omega) (fun hb22 => ?_) (fun hb22 => ?_)
                        · obtain ⟨Z9, hZ⟩ : ∃ Z9 : Int, Z9 = r / 2 ^ (8 * (j - 1 - k.toNat)) := ⟨_, rfl⟩
                          refine me1 (pc' := 100) (L' := [(0, .ref 102), (1, ii what), (2, ii (i : Int)), (3, ii k), (4, .long (Int64.ofInt r)), (6, ii ((j : Nat) : Int))]) (S' := [.long (Int64.ofInt r)]) dm_X12_letter_98 rfl rfl rfl rfl ?_
                          refine me0 (pc' := 102) (S' := [ii 8, .long (Int64.ofInt r)]) dm_X12_letter_100 rfl rfl rfl rfl ?_
                          refine me1 (pc' := 104) (L' := [(0, .ref 102), (1, ii what), (2, ii (i : Int)), (3, ii k), (4, .long (Int64.ofInt r)), (6, ii ((j : Nat) : Int))]) (S' := [ii ((j : Nat) : Int), ii 8, .long (Int64.ofInt r)]) dm_X12_letter_102 rfl rfl rfl rfl ?_
                          refine me0 (pc' := 105) (S' := [ii 1, ii ((j : Nat) : Int), ii 8, .long (Int64.ofInt r)]) dm_X12_letter_104 rfl rfl rfl rfl ?_
                          refine y_isub (a := ((j : Nat) : Int)) (b := 1) dm_X12_letter_105 (pc' := 106) rfl ?_
                          refine me1 (pc' := 107) (L' := [(0, .ref 102), (1, ii what), (2, ii (i : Int)), (3, ii k), (4, .long (Int64.ofInt r)), (6, ii ((j : Nat) : Int))]) (S' := [ii k, ii (((j : Nat) : Int) - 1), ii 8, .long (Int64.ofInt r)]) dm_X12_letter_106 rfl rfl rfl rfl ?_
                          refine y_isub (a := ((j : Nat) : Int) - 1) (b := k) dm_X12_letter_107 (pc' := 108) rfl ?_
                          refine y_imul (a := 8) (b := (((j : Nat) : Int) - 1) - k) dm_X12_letter_108 (pc' := 109) rfl ?_
                          refine y_lushr (a := r) (n := 8 * ((((j : Nat) : Int) - 1) - k)) (k := 8 * (j - 1 - k.toNat)) dm_X12_letter_109 (pc' := 110) rfl (by omega) (by omega) (by omega) (by omega) ?_
                          refine y_l2i (a := Z9) dm_X12_letter_110 (pc' := 111) rfl ((by rw [Int64.toInt32_ofInt, hZ])) ?_
                          refine me0 (pc' := 114) (S' := [ii 255, ii Z9]) dm_X12_letter_111 rfl rfl rfl rfl ?_
                          refine y_and255g (a := Z9) dm_X12_letter_114 (pc' := 115) rfl ?_
                          refine y_ret (r := some (ii (Z9 % 256))) dm_X12_letter_115 rfl rfl rfl ?_
                          refine ⟨congrArg (fun z => some (ii z)) ?_, rfl⟩
                          rw [if_pos (by omega), hZ, hr, rk_div h8 hf (j - 1 - k.toNat) (by omega), show ln - (j - 1 - k.toNat) = k.toNat + 1 by omega]
                          show (rkI f q k.toNat * 256 + f (q + k.toNat)) % 256 = _
                          have := hf k.toNat (by omega)
                          omega
                        · refine me0 (pc' := 95) (S' := [ii (-1)]) dm_X12_letter_94 rfl rfl rfl rfl ?_
                          refine me2 (pc' := 115) (S' := [ii (-1)]) dm_X12_letter_95 rfl rfl rfl ?_
                          refine y_ret (r := some (ii (-1))) dm_X12_letter_115 rfl rfl rfl ?_
                          refine ⟨congrArg (fun z => some (ii z)) ?_, rfl⟩
                          rw [if_neg (by omega)]
                      · have hb21i : ¬ (Int64.ofInt Y).toInt = (Int64.ofInt 0).toInt := fun z => hb21 (Int64.toInt_inj.mp z)
                        rw [n_toL (by omega) (by omega), e0] at hb21i
                        refine y_iinc (pc' := 85) (L' := [(6, ii (((j : Nat) : Int) + 1)), (0, .ref 102), (1, ii what), (2, ii (i : Int)), (3, ii k), (4, .long (Int64.ofInt r))]) dm_X12_letter_82 (y_incp (a := ((j : Nat) : Int)) (c := 1) rfl rfl (by decide)) rfl ?_
                        refine me2 (pc' := 62) (S' := []) dm_X12_letter_85 rfl rfl rfl ?_
                        exact pg_sub (L := [(0, .ref 102), (1, ii what), (2, ii (i : Int)), (3, ii k), (4, .long (Int64.ofInt r)), (6, ii (((j + 1) : Nat) : Int))]) rfl rfl rfl (ih62 (ln - (j + 1)) (by omega) (j + 1) rfl (by omega))
                exact pg_sub (L := [(0, .ref 102), (1, ii what), (2, ii (i : Int)), (3, ii k), (4, .long (Int64.ofInt r)), (6, ii ((0 : Nat) : Int))]) rfl rfl rfl (lp62 _ 0 rfl (Nat.zero_le _))
              · exfalso; omega
            · exfalso; omega
        · exfalso; omega
