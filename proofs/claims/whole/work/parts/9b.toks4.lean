/-! tokens: what stands on the tape -/
abbrev byA (bf : Nat → Int) (ln : Nat) (i : Int) : Int := if 0 ≤ i ∧ i < (ln : Int) then bf i.toNat else -1
theorem byA_in {bf : Nat → Int} {ln i : Nat} (h : i < ln) : byA bf ln (i : Int) = bf i := by
  show (if 0 ≤ (i : Int) ∧ (i : Int) < (ln : Int) then bf (i : Int).toNat else -1) = _
  rw [if_pos (by omega)]; rfl
theorem byA_out {bf : Nat → Int} {ln i : Nat} (h : ln ≤ i) : byA bf ln (i : Int) = -1 := by
  show (if 0 ≤ (i : Int) ∧ (i : Int) < (ln : Int) then bf (i : Int).toNat else -1) = _
  rw [if_neg (by omega)]
theorem byA_r {bf : Nat → Int} {ln : Nat} (hbf : ∀ j, 0 ≤ bf j ∧ bf j ≤ 255) (i : Int) : -1 ≤ byA bf ln i ∧ byA bf ln i ≤ 255 := by
  show -1 ≤ (if 0 ≤ i ∧ i < (ln : Int) then bf i.toNat else -1) ∧ (if 0 ≤ i ∧ i < (ln : Int) then bf i.toNat else -1) ≤ 255
  split
  · have := hbf i.toNat; omega
  · omega
abbrev isDgI (c : Int) : Prop := 48 ≤ c ∧ c ≤ 57
abbrev isLtI (c : Int) : Prop := 97 ≤ c ∧ c ≤ 122
abbrev isTxI (c : Int) : Prop := 32 ≤ c ∧ c ≤ 126 ∧ c ≠ 39
/-- how many bytes from i on are so, at most m -/
def rnL (P : Int → Bool) (f : Nat → Int) (ln : Nat) : Nat → Nat → Nat
  | 0, _ => 0
  | m + 1, i => if i < ln ∧ P (f i) = true then rnL P f ln m (i + 1) + 1 else 0
theorem rnL_eq {P : Int → Bool} {f : Nat → Int} {ln : Nat} : ∀ (m i k : Nat), k ≤ m → (∀ j, i ≤ j → j < i + k → j < ln ∧ P (f j) = true) → (k = m ∨ ¬ (i + k < ln ∧ P (f (i + k)) = true)) → rnL P f ln m i = k := by
  intro m
  induction m with
  | zero => intro i k h _ _; show 0 = k; omega
  | succ m ih =>
    intro i k h h1 h2
    unfold rnL
    cases k with
    | zero =>
      rw [if_neg]
      rcases h2 with h2 | h2
      · omega
      · exact h2
    | succ k =>
      rw [if_pos (h1 i (Nat.le_refl _) (by omega)), ih (i + 1) k (by omega) (fun j a b => h1 j (by omega) (by omega)) (by
        rcases h2 with h2 | h2
        · exact Or.inl (by omega)
        · exact Or.inr (by rw [show i + 1 + k = i + (k + 1) by omega]; exact h2))]
theorem rnL_le {P : Int → Bool} {f : Nat → Int} {ln : Nat} : ∀ (m i : Nat), rnL P f ln m i ≤ m ∧ (i ≤ ln → i + rnL P f ln m i ≤ ln) := by
  intro m
  induction m with
  | zero => intro i; exact ⟨Nat.le_refl _, fun h => h⟩
  | succ m ih =>
    intro i
    unfold rnL
    by_cases z : i < ln ∧ P (f i) = true
    · rw [if_pos z]
      have := ih (i + 1)
      exact ⟨by omega, fun _ => by have := this.2 z.1; omega⟩
    · rw [if_neg z]
      exact ⟨by omega, fun h => h⟩
abbrev dgB : Int → Bool := fun c => decide (isDgI c)
abbrev ltB : Int → Bool := fun c => decide (isLtI c)
abbrev txB : Int → Bool := fun c => decide (isTxI c)
/-- the number that n digits from i on tell -/
def dvI (f : Nat → Int) (i : Nat) : Nat → Int
  | 0 => 0
  | n + 1 => dvI f i n * 10 + (f (i + n) - 48)
theorem dv_64 {f : Nat → Int} {i n : Nat} {c : Int} (h : c = f (i + n)) : Int64.ofInt (dvI f i n) * Int64.ofInt 10 + Int64.ofInt (c - 48) = Int64.ofInt (dvI f i (n + 1)) := by
  rw [← Int64.ofInt_mul, ← Int64.ofInt_add, h]
  rfl
set_option maxRecDepth 20000 in
theorem pm_X8_addNumber : mj_mmof pg_ms 23 = some ((⟨"ArrayCalculator$Tokens", "addNumber", "(II)V"⟩, prog_10_method_14_code, 6, (Option.none : Option Jvm.ClassFile.FieldType)), 8, false, mj_dec prog_10_method_14_code) := rfl
theorem dm_X8_addNumber_0 : mj_dec prog_10_method_14_code 0 = some (.lconst 0, 1) := by decide +kernel
theorem dm_X8_addNumber_1 : mj_dec prog_10_method_14_code 1 = some (.lstore_n 3, 1) := by decide +kernel
theorem dm_X8_addNumber_2 : mj_dec prog_10_method_14_code 2 = some (.iload_n 2, 1) := by decide +kernel
theorem dm_X8_addNumber_3 : mj_dec prog_10_method_14_code 3 = some (.istore 5, 2) := by decide +kernel
theorem dm_X8_addNumber_5 : mj_dec prog_10_method_14_code 5 = some (.iload 5, 2) := by decide +kernel
theorem dm_X8_addNumber_7 : mj_dec prog_10_method_14_code 7 = some (.iload_n 2, 1) := by decide +kernel
theorem dm_X8_addNumber_8 : mj_dec prog_10_method_14_code 8 = some (.bipush 18, 2) := by decide +kernel
theorem dm_X8_addNumber_10 : mj_dec prog_10_method_14_code 10 = some (.iadd, 1) := by decide +kernel
theorem dm_X8_addNumber_11 : mj_dec prog_10_method_14_code 11 = some (.if_icmp .ge 39, 3) := by decide +kernel
theorem dm_X8_addNumber_14 : mj_dec prog_10_method_14_code 14 = some (.aload_n 0, 1) := by decide +kernel
theorem dm_X8_addNumber_15 : mj_dec prog_10_method_14_code 15 = some (.iload 5, 2) := by decide +kernel
theorem dm_X8_addNumber_17 : mj_dec prog_10_method_14_code 17 = some (.invokevirtual 74, 3) := by decide +kernel
theorem dm_X8_addNumber_20 : mj_dec prog_10_method_14_code 20 = some (.i2l, 1) := by decide +kernel
theorem dm_X8_addNumber_21 : mj_dec prog_10_method_14_code 21 = some (.invokestatic 87, 3) := by decide +kernel
theorem dm_X8_addNumber_24 : mj_dec prog_10_method_14_code 24 = some (.ifCond .eq 26, 3) := by decide +kernel
theorem dm_X8_addNumber_27 : mj_dec prog_10_method_14_code 27 = some (.lload_n 3, 1) := by decide +kernel
theorem dm_X8_addNumber_28 : mj_dec prog_10_method_14_code 28 = some (.ldc2_w 117, 3) := by decide +kernel
theorem dm_X8_addNumber_31 : mj_dec prog_10_method_14_code 31 = some (.lmul, 1) := by decide +kernel
theorem dm_X8_addNumber_32 : mj_dec prog_10_method_14_code 32 = some (.aload_n 0, 1) := by decide +kernel
theorem dm_X8_addNumber_33 : mj_dec prog_10_method_14_code 33 = some (.iload 5, 2) := by decide +kernel
theorem dm_X8_addNumber_35 : mj_dec prog_10_method_14_code 35 = some (.invokevirtual 74, 3) := by decide +kernel
theorem dm_X8_addNumber_38 : mj_dec prog_10_method_14_code 38 = some (.bipush 48, 2) := by decide +kernel
theorem dm_X8_addNumber_40 : mj_dec prog_10_method_14_code 40 = some (.isub, 1) := by decide +kernel
theorem dm_X8_addNumber_41 : mj_dec prog_10_method_14_code 41 = some (.i2l, 1) := by decide +kernel
theorem dm_X8_addNumber_42 : mj_dec prog_10_method_14_code 42 = some (.ladd, 1) := by decide +kernel
theorem dm_X8_addNumber_43 : mj_dec prog_10_method_14_code 43 = some (.lstore_n 3, 1) := by decide +kernel
theorem dm_X8_addNumber_44 : mj_dec prog_10_method_14_code 44 = some (.iinc 5 1, 3) := by decide +kernel
theorem dm_X8_addNumber_47 : mj_dec prog_10_method_14_code 47 = some (.goto (-42), 3) := by decide +kernel
theorem dm_X8_addNumber_50 : mj_dec prog_10_method_14_code 50 = some (.aload_n 0, 1) := by decide +kernel
theorem dm_X8_addNumber_51 : mj_dec prog_10_method_14_code 51 = some (.iconst 1, 1) := by decide +kernel
theorem dm_X8_addNumber_52 : mj_dec prog_10_method_14_code 52 = some (.iload_n 1, 1) := by decide +kernel
theorem dm_X8_addNumber_53 : mj_dec prog_10_method_14_code 53 = some (.iload_n 2, 1) := by decide +kernel
theorem dm_X8_addNumber_54 : mj_dec prog_10_method_14_code 54 = some (.iload_n 1, 1) := by decide +kernel
theorem dm_X8_addNumber_55 : mj_dec prog_10_method_14_code 55 = some (.if_icmp .ne 7, 3) := by decide +kernel
theorem dm_X8_addNumber_58 : mj_dec prog_10_method_14_code 58 = some (.lload_n 3, 1) := by decide +kernel
theorem dm_X8_addNumber_59 : mj_dec prog_10_method_14_code 59 = some (.goto 5, 3) := by decide +kernel
theorem dm_X8_addNumber_62 : mj_dec prog_10_method_14_code 62 = some (.lload_n 3, 1) := by decide +kernel
theorem dm_X8_addNumber_63 : mj_dec prog_10_method_14_code 63 = some (.lneg, 1) := by decide +kernel
theorem dm_X8_addNumber_64 : mj_dec prog_10_method_14_code 64 = some (.iload 5, 2) := by decide +kernel
theorem dm_X8_addNumber_66 : mj_dec prog_10_method_14_code 66 = some (.invokevirtual 53, 3) := by decide +kernel
theorem dm_X8_addNumber_69 : mj_dec prog_10_method_14_code 69 = some (.return_, 1) := by decide +kernel
theorem x_addNumberT {xt : mj_X} {d mk ln : Nat} {le_ : Int} {gd : Bool} {sf pf bf : Nat → Int} {df : Nat → Int64} {h : mj_H} (hd : 3 ≤ d) (hT : TK h mk le_ ln gd sf pf bf df) {pl fr : Nat} (hr : mk < 201) (hp : fr ≤ 300 ∧ pl ≤ 300) (hbf : ∀ j, 0 ≤ bf j ∧ bf j ≤ 255) : pgN xt d 23 [.ref 9, ii (pl : Int), ii (fr : Int)] h (fun h' => TK h' (mk + 1) ((fr + (rnL dgB bf ln 18 fr) : Nat) : Int) ln gd (va_up sf mk 1) (va_up pf mk (pl : Int)) bf (va_up df mk (if fr = pl then Int64.ofInt (dvI bf fr (rnL dgB bf ln 18 fr)) else -Int64.ofInt (dvI bf fr (rnL dgB bf ln 18 fr)))) ∧ tkF h h') := by
  obtain ⟨h9, h10, h11, h12, h3, hmk, hln⟩ := id hT
  refine x_enter pm_X8_addNumber (L0 := [(0, .ref 9), (1, ii (pl : Int)), (2, ii (fr : Int))]) rfl (Nat.le_of_ble_eq_true rfl) (by omega) ?_
  refine me0 (pc' := 1) (S' := [.long (Int64.ofInt 0)]) dm_X8_addNumber_0 rfl rfl rfl rfl ?_
  refine me1 (pc' := 2) (L' := [(3, .long (Int64.ofInt 0)), (0, .ref 9), (1, ii (pl : Int)), (2, ii (fr : Int))]) (S' := []) dm_X8_addNumber_1 rfl rfl rfl rfl ?_
  refine me1 (pc' := 3) (L' := [(3, .long (Int64.ofInt 0)), (0, .ref 9), (1, ii (pl : Int)), (2, ii (fr : Int))]) (S' := [ii (fr : Int)]) dm_X8_addNumber_2 rfl rfl rfl rfl ?_
  refine me1 (pc' := 5) (L' := [(5, ii (fr : Int)), (3, .long (Int64.ofInt 0)), (0, .ref 9), (1, ii (pl : Int)), (2, ii (fr : Int))]) (S' := []) dm_X8_addNumber_3 rfl rfl rfl rfl ?_
  have lp5 : ∀ (n5 : Nat) (k : Nat), 18 - k = n5 → (k ≤ 18) → (∀ j, fr ≤ j → j < fr + k → j < ln ∧ dgB (bf j) = true) → pgE xt (d - 1) 8 6 false (Option.none : Option Jvm.ClassFile.FieldType) (mj_dec prog_10_method_14_code) 5 [(0, .ref 9), (1, ii (pl : Int)), (2, ii (fr : Int)), (3, .long (Int64.ofInt (dvI bf fr k))), (5, ii ((fr + k : Nat) : Int))] [] h (fun r h' => r = none ∧ TK h' (mk + 1) ((fr + (rnL dgB bf ln 18 fr) : Nat) : Int) ln gd (va_up sf mk 1) (va_up pf mk (pl : Int)) bf (va_up df mk (if fr = pl then Int64.ofInt (dvI bf fr (rnL dgB bf ln 18 fr)) else -Int64.ofInt (dvI bf fr (rnL dgB bf ln 18 fr)))) ∧ tkF h h') := by
    intro n5
    induction n5 using Nat.strongRecOn with
    | ind n5 ih5 =>
      intro k hm5 hk hrun
      have hbr := byA_r (ln := ln) hbf ((fr + k : Nat) : Int)
      have h64 : (Int64.ofInt (byA bf ln ((fr + k : Nat) : Int))).toInt = byA bf ln ((fr + k : Nat) : Int) := n_toL (by omega) (by omega)
      refine me1 (pc' := 7) (L' := [(0, .ref 9), (1, ii (pl : Int)), (2, ii (fr : Int)), (3, .long (Int64.ofInt (dvI bf fr k))), (5, ii ((fr + k : Nat) : Int))]) (S' := [ii ((fr + k : Nat) : Int)]) dm_X8_addNumber_5 rfl rfl rfl rfl ?_
      refine me1 (pc' := 8) (L' := [(0, .ref 9), (1, ii (pl : Int)), (2, ii (fr : Int)), (3, .long (Int64.ofInt (dvI bf fr k))), (5, ii ((fr + k : Nat) : Int))]) (S' := [ii (fr : Int), ii ((fr + k : Nat) : Int)]) dm_X8_addNumber_7 rfl rfl rfl rfl ?_
      refine me0 (pc' := 10) (S' := [ii 18, ii (fr : Int), ii ((fr + k : Nat) : Int)]) dm_X8_addNumber_8 rfl rfl rfl rfl ?_
      refine y_iadd (a := (fr : Int)) (b := 18) dm_X8_addNumber_10 (pc' := 11) rfl ?_
      refine y_2ge (a := ((fr + k : Nat) : Int)) (b := (fr : Int) + 18) (t := 50) (pc' := 14) dm_X8_addNumber_11 rfl rfl (by omega) (fun hb1 => ?_) (fun hb1 => ?_)
      · have hn : (rnL dgB bf ln 18 fr) = k := rnL_eq 18 fr k hk hrun (Or.inl (by omega))
        refine me1 (pc' := 51) (L' := [(0, .ref 9), (1, ii (pl : Int)), (2, ii (fr : Int)), (3, .long (Int64.ofInt (dvI bf fr k))), (5, ii ((fr + k : Nat) : Int))]) (S' := [.ref 9]) dm_X8_addNumber_50 rfl rfl rfl rfl ?_
        refine me0 (pc' := 52) (S' := [ii 1, .ref 9]) dm_X8_addNumber_51 rfl rfl rfl rfl ?_
        refine me1 (pc' := 53) (L' := [(0, .ref 9), (1, ii (pl : Int)), (2, ii (fr : Int)), (3, .long (Int64.ofInt (dvI bf fr k))), (5, ii ((fr + k : Nat) : Int))]) (S' := [ii (pl : Int), ii 1, .ref 9]) dm_X8_addNumber_52 rfl rfl rfl rfl ?_
        refine me1 (pc' := 54) (L' := [(0, .ref 9), (1, ii (pl : Int)), (2, ii (fr : Int)), (3, .long (Int64.ofInt (dvI bf fr k))), (5, ii ((fr + k : Nat) : Int))]) (S' := [ii (fr : Int), ii (pl : Int), ii 1, .ref 9]) dm_X8_addNumber_53 rfl rfl rfl rfl ?_
        refine me1 (pc' := 55) (L' := [(0, .ref 9), (1, ii (pl : Int)), (2, ii (fr : Int)), (3, .long (Int64.ofInt (dvI bf fr k))), (5, ii ((fr + k : Nat) : Int))]) (S' := [ii (pl : Int), ii (fr : Int), ii (pl : Int), ii 1, .ref 9]) dm_X8_addNumber_54 rfl rfl rfl rfl ?_
        refine y_2ne (a := (fr : Int)) (b := (pl : Int)) (t := 62) (pc' := 58) dm_X8_addNumber_55 rfl rfl (by omega) (fun hb2 => ?_) (fun hb2 => ?_)
        · refine me1 (pc' := 63) (L' := [(0, .ref 9), (1, ii (pl : Int)), (2, ii (fr : Int)), (3, .long (Int64.ofInt (dvI bf fr k))), (5, ii ((fr + k : Nat) : Int))]) (S' := [.long (Int64.ofInt (dvI bf fr k)), ii (pl : Int), ii 1, .ref 9]) dm_X8_addNumber_62 rfl rfl rfl rfl ?_
          refine me0 (pc' := 64) (S' := [.long (-(Int64.ofInt (dvI bf fr k))), ii (pl : Int), ii 1, .ref 9]) dm_X8_addNumber_63 rfl rfl rfl rfl ?_
          refine me1 (pc' := 66) (L' := [(0, .ref 9), (1, ii (pl : Int)), (2, ii (fr : Int)), (3, .long (Int64.ofInt (dvI bf fr k))), (5, ii ((fr + k : Nat) : Int))]) (S' := [ii ((fr + k : Nat) : Int), .long (-(Int64.ofInt (dvI bf fr k))), ii (pl : Int), ii 1, .ref 9]) dm_X8_addNumber_64 rfl rfl rfl rfl ?_
          refine x_cn (pc' := 69) (rest := []) dm_X8_addNumber_66 rfl (g_inv (As := [ii 1, ii (pl : Int), .long (-(Int64.ofInt (dvI bf fr k))), ii ((fr + k : Nat) : Int)]) (S := []) h9 rfl rfl rfl (by decide)) rfl rfl rfl (x_addT (so := 1) (pl := (pl : Int)) (en := ((fr + k : Nat) : Int)) (da := -(Int64.ofInt (dvI bf fr k))) (by omega) hT hr) ?_
          rintro h2 ⟨hT2, hF2⟩
          refine y_ret (r := none) dm_X8_addNumber_69 rfl rfl rfl ?_
          rw [hn]
          refine ⟨rfl, ?_, hF2⟩
          first | (rw [if_pos (by omega)]; exact hT2) | (rw [if_neg (by omega)]; exact hT2)
        · refine me1 (pc' := 59) (L' := [(0, .ref 9), (1, ii (pl : Int)), (2, ii (fr : Int)), (3, .long (Int64.ofInt (dvI bf fr k))), (5, ii ((fr + k : Nat) : Int))]) (S' := [.long (Int64.ofInt (dvI bf fr k)), ii (pl : Int), ii 1, .ref 9]) dm_X8_addNumber_58 rfl rfl rfl rfl ?_
          refine me2 (pc' := 64) (S' := [.long (Int64.ofInt (dvI bf fr k)), ii (pl : Int), ii 1, .ref 9]) dm_X8_addNumber_59 rfl rfl rfl ?_
          refine me1 (pc' := 66) (L' := [(0, .ref 9), (1, ii (pl : Int)), (2, ii (fr : Int)), (3, .long (Int64.ofInt (dvI bf fr k))), (5, ii ((fr + k : Nat) : Int))]) (S' := [ii ((fr + k : Nat) : Int), .long (Int64.ofInt (dvI bf fr k)), ii (pl : Int), ii 1, .ref 9]) dm_X8_addNumber_64 rfl rfl rfl rfl ?_
          refine x_cn (pc' := 69) (rest := []) dm_X8_addNumber_66 rfl (g_inv (As := [ii 1, ii (pl : Int), .long (Int64.ofInt (dvI bf fr k)), ii ((fr + k : Nat) : Int)]) (S := []) h9 rfl rfl rfl (by decide)) rfl rfl rfl (x_addT (so := 1) (pl := (pl : Int)) (en := ((fr + k : Nat) : Int)) (da := Int64.ofInt (dvI bf fr k)) (by omega) hT hr) ?_
          rintro h2 ⟨hT2, hF2⟩
          refine y_ret (r := none) dm_X8_addNumber_69 rfl rfl rfl ?_
          rw [hn]
          refine ⟨rfl, ?_, hF2⟩
          first | (rw [if_pos (by omega)]; exact hT2) | (rw [if_neg (by omega)]; exact hT2)
      · refine me1 (pc' := 15) (L' := [(0, .ref 9), (1, ii (pl : Int)), (2, ii (fr : Int)), (3, .long (Int64.ofInt (dvI bf fr k))), (5, ii ((fr + k : Nat) : Int))]) (S' := [.ref 9]) dm_X8_addNumber_14 rfl rfl rfl rfl ?_
        refine me1 (pc' := 17) (L' := [(0, .ref 9), (1, ii (pl : Int)), (2, ii (fr : Int)), (3, .long (Int64.ofInt (dvI bf fr k))), (5, ii ((fr + k : Nat) : Int))]) (S' := [ii ((fr + k : Nat) : Int), .ref 9]) dm_X8_addNumber_15 rfl rfl rfl rfl ?_
        refine x_cp (pc' := 20) (v := ii (byA bf ln ((fr + k : Nat) : Int))) (rest := []) dm_X8_addNumber_17 rfl (g_inv (As := [ii ((fr + k : Nat) : Int)]) (S := []) h9 rfl rfl rfl (by decide)) rfl rfl rfl (x_byteAtT (by omega) hT (by omega)) ?_
        refine y_i2l (a := byA bf ln ((fr + k : Nat) : Int)) dm_X8_addNumber_20 (pc' := 21) rfl (by omega) (by omega) ?_
        refine x_cp (pc' := 24) (v := zz (decide (48 ≤ (Int64.ofInt (byA bf ln ((fr + k : Nat) : Int))).toInt ∧ (Int64.ofInt (byA bf ln ((fr + k : Nat) : Int))).toInt ≤ 57))) (rest := []) dm_X8_addNumber_21 rfl (g_invs (As := [.long (Int64.ofInt (byA bf ln ((fr + k : Nat) : Int)))]) (S := []) rfl rfl rfl) rfl rfl rfl (a_isDigit (by omega)) ?_
        refine y_zeq (c := decide (48 ≤ (Int64.ofInt (byA bf ln ((fr + k : Nat) : Int))).toInt ∧ (Int64.ofInt (byA bf ln ((fr + k : Nat) : Int))).toInt ≤ 57)) (t := 50) (pc' := 27) dm_X8_addNumber_24 rfl rfl (fun hb3 => ?_) (fun hb3 => ?_)
        · replace hb3 := dF hb3
          rw [h64] at hb3
          have hn : (rnL dgB bf ln 18 fr) = k := rnL_eq 18 fr k hk hrun (Or.inr (fun z => by have z2 := of_decide_eq_true z.2; rw [← byA_in (bf := bf) z.1] at z2; exact hb3 z2))
          refine me1 (pc' := 51) (L' := [(0, .ref 9), (1, ii (pl : Int)), (2, ii (fr : Int)), (3, .long (Int64.ofInt (dvI bf fr k))), (5, ii ((fr + k : Nat) : Int))]) (S' := [.ref 9]) dm_X8_addNumber_50 rfl rfl rfl rfl ?_
          refine me0 (pc' := 52) (S' := [ii 1, .ref 9]) dm_X8_addNumber_51 rfl rfl rfl rfl ?_
          refine me1 (pc' := 53) (L' := [(0, .ref 9), (1, ii (pl : Int)), (2, ii (fr : Int)), (3, .long (Int64.ofInt (dvI bf fr k))), (5, ii ((fr + k : Nat) : Int))]) (S' := [ii (pl : Int), ii 1, .ref 9]) dm_X8_addNumber_52 rfl rfl rfl rfl ?_
          refine me1 (pc' := 54) (L' := [(0, .ref 9), (1, ii (pl : Int)), (2, ii (fr : Int)), (3, .long (Int64.ofInt (dvI bf fr k))), (5, ii ((fr + k : Nat) : Int))]) (S' := [ii (fr : Int), ii (pl : Int), ii 1, .ref 9]) dm_X8_addNumber_53 rfl rfl rfl rfl ?_
          refine me1 (pc' := 55) (L' := [(0, .ref 9), (1, ii (pl : Int)), (2, ii (fr : Int)), (3, .long (Int64.ofInt (dvI bf fr k))), (5, ii ((fr + k : Nat) : Int))]) (S' := [ii (pl : Int), ii (fr : Int), ii (pl : Int), ii 1, .ref 9]) dm_X8_addNumber_54 rfl rfl rfl rfl ?_
          refine y_2ne (a := (fr : Int)) (b := (pl : Int)) (t := 62) (pc' := 58) dm_X8_addNumber_55 rfl rfl (by omega) (fun hb4 => ?_) (fun hb4 => ?_)
          · refine me1 (pc' := 63) (L' := [(0, .ref 9), (1, ii (pl : Int)), (2, ii (fr : Int)), (3, .long (Int64.ofInt (dvI bf fr k))), (5, ii ((fr + k : Nat) : Int))]) (S' := [.long (Int64.ofInt (dvI bf fr k)), ii (pl : Int), ii 1, .ref 9]) dm_X8_addNumber_62 rfl rfl rfl rfl ?_
            refine me0 (pc' := 64) (S' := [.long (-(Int64.ofInt (dvI bf fr k))), ii (pl : Int), ii 1, .ref 9]) dm_X8_addNumber_63 rfl rfl rfl rfl ?_
            refine me1 (pc' := 66) (L' := [(0, .ref 9), (1, ii (pl : Int)), (2, ii (fr : Int)), (3, .long (Int64.ofInt (dvI bf fr k))), (5, ii ((fr + k : Nat) : Int))]) (S' := [ii ((fr + k : Nat) : Int), .long (-(Int64.ofInt (dvI bf fr k))), ii (pl : Int), ii 1, .ref 9]) dm_X8_addNumber_64 rfl rfl rfl rfl ?_
            refine x_cn (pc' := 69) (rest := []) dm_X8_addNumber_66 rfl (g_inv (As := [ii 1, ii (pl : Int), .long (-(Int64.ofInt (dvI bf fr k))), ii ((fr + k : Nat) : Int)]) (S := []) h9 rfl rfl rfl (by decide)) rfl rfl rfl (x_addT (so := 1) (pl := (pl : Int)) (en := ((fr + k : Nat) : Int)) (da := -(Int64.ofInt (dvI bf fr k))) (by omega) hT hr) ?_
            rintro h2 ⟨hT2, hF2⟩
            refine y_ret (r := none) dm_X8_addNumber_69 rfl rfl rfl ?_
            rw [hn]
            refine ⟨rfl, ?_, hF2⟩
            first | (rw [if_pos (by omega)]; exact hT2) | (rw [if_neg (by omega)]; exact hT2)
          · refine me1 (pc' := 59) (L' := [(0, .ref 9), (1, ii (pl : Int)), (2, ii (fr : Int)), (3, .long (Int64.ofInt (dvI bf fr k))), (5, ii ((fr + k : Nat) : Int))]) (S' := [.long (Int64.ofInt (dvI bf fr k)), ii (pl : Int), ii 1, .ref 9]) dm_X8_addNumber_58 rfl rfl rfl rfl ?_
            refine me2 (pc' := 64) (S' := [.long (Int64.ofInt (dvI bf fr k)), ii (pl : Int), ii 1, .ref 9]) dm_X8_addNumber_59 rfl rfl rfl ?_
            refine me1 (pc' := 66) (L' := [(0, .ref 9), (1, ii (pl : Int)), (2, ii (fr : Int)), (3, .long (Int64.ofInt (dvI bf fr k))), (5, ii ((fr + k : Nat) : Int))]) (S' := [ii ((fr + k : Nat) : Int), .long (Int64.ofInt (dvI bf fr k)), ii (pl : Int), ii 1, .ref 9]) dm_X8_addNumber_64 rfl rfl rfl rfl ?_
            refine x_cn (pc' := 69) (rest := []) dm_X8_addNumber_66 rfl (g_inv (As := [ii 1, ii (pl : Int), .long (Int64.ofInt (dvI bf fr k)), ii ((fr + k : Nat) : Int)]) (S := []) h9 rfl rfl rfl (by decide)) rfl rfl rfl (x_addT (so := 1) (pl := (pl : Int)) (en := ((fr + k : Nat) : Int)) (da := Int64.ofInt (dvI bf fr k)) (by omega) hT hr) ?_
            rintro h2 ⟨hT2, hF2⟩
            refine y_ret (r := none) dm_X8_addNumber_69 rfl rfl rfl ?_
            rw [hn]
            refine ⟨rfl, ?_, hF2⟩
            first | (rw [if_pos (by omega)]; exact hT2) | (rw [if_neg (by omega)]; exact hT2)
        · replace hb3 := dT hb3
          rw [h64] at hb3
          have hin : fr + k < ln := Classical.byContradiction fun z => by have z2 := byA_out (bf := bf) (Nat.le_of_not_lt z); omega
          have hby := byA_in (bf := bf) hin
          refine me1 (pc' := 28) (L' := [(0, .ref 9), (1, ii (pl : Int)), (2, ii (fr : Int)), (3, .long (Int64.ofInt (dvI bf fr k))), (5, ii ((fr + k : Nat) : Int))]) (S' := [.long (Int64.ofInt (dvI bf fr k))]) dm_X8_addNumber_27 rfl rfl rfl rfl ?_
          refine me3 (pc' := 31) (S' := [.long (Int64.ofInt 10), .long (Int64.ofInt (dvI bf fr k))]) dm_X8_addNumber_28 rfl rfl rfl rfl ?_
          refine me0 (pc' := 32) (S' := [.long ((Int64.ofInt (dvI bf fr k)) * (Int64.ofInt 10))]) dm_X8_addNumber_31 rfl rfl rfl rfl ?_
          refine me1 (pc' := 33) (L' := [(0, .ref 9), (1, ii (pl : Int)), (2, ii (fr : Int)), (3, .long (Int64.ofInt (dvI bf fr k))), (5, ii ((fr + k : Nat) : Int))]) (S' := [.ref 9, .long ((Int64.ofInt (dvI bf fr k)) * (Int64.ofInt 10))]) dm_X8_addNumber_32 rfl rfl rfl rfl ?_
          refine me1 (pc' := 35) (L' := [(0, .ref 9), (1, ii (pl : Int)), (2, ii (fr : Int)), (3, .long (Int64.ofInt (dvI bf fr k))), (5, ii ((fr + k : Nat) : Int))]) (S' := [ii ((fr + k : Nat) : Int), .ref 9, .long ((Int64.ofInt (dvI bf fr k)) * (Int64.ofInt 10))]) dm_X8_addNumber_33 rfl rfl rfl rfl ?_
          refine x_cp (pc' := 38) (v := ii (byA bf ln ((fr + k : Nat) : Int))) (rest := [.long ((Int64.ofInt (dvI bf fr k)) * (Int64.ofInt 10))]) dm_X8_addNumber_35 rfl (g_inv (As := [ii ((fr + k : Nat) : Int)]) (S := [.long ((Int64.ofInt (dvI bf fr k)) * (Int64.ofInt 10))]) h9 rfl rfl rfl (by decide)) rfl rfl rfl (x_byteAtT (by omega) hT (by omega)) ?_
          refine me0 (pc' := 40) (S' := [ii 48, ii (byA bf ln ((fr + k : Nat) : Int)), .long ((Int64.ofInt (dvI bf fr k)) * (Int64.ofInt 10))]) dm_X8_addNumber_38 rfl rfl rfl rfl ?_
          refine y_isub (a := byA bf ln ((fr + k : Nat) : Int)) (b := 48) dm_X8_addNumber_40 (pc' := 41) rfl ?_
          refine y_i2l (a := (byA bf ln ((fr + k : Nat) : Int)) - 48) dm_X8_addNumber_41 (pc' := 42) rfl (by omega) (by omega) ?_
          refine me0 (pc' := 43) (S' := [.long (((Int64.ofInt (dvI bf fr k)) * (Int64.ofInt 10)) + (Int64.ofInt ((byA bf ln ((fr + k : Nat) : Int)) - 48)))]) dm_X8_addNumber_42 rfl rfl rfl rfl ?_
          refine pg_st (S' := [.long (Int64.ofInt (dvI bf fr (k + 1)))]) (congrArg (fun z => Value.long z :: []) (dv_64 hby)) ?_
          refine me1 (pc' := 44) (L' := [(3, .long (Int64.ofInt (dvI bf fr (k + 1)))), (0, .ref 9), (1, ii (pl : Int)), (2, ii (fr : Int)), (5, ii ((fr + k : Nat) : Int))]) (S' := []) dm_X8_addNumber_43 rfl rfl rfl rfl ?_
          refine y_iinc (pc' := 47) (L' := [(5, ii (((fr + k : Nat) : Int) + 1)), (3, .long (Int64.ofInt (dvI bf fr (k + 1)))), (0, .ref 9), (1, ii (pl : Int)), (2, ii (fr : Int))]) dm_X8_addNumber_44 (y_incp (a := ((fr + k : Nat) : Int)) (c := 1) rfl rfl (by decide)) rfl ?_
          refine me2 (pc' := 5) (S' := []) dm_X8_addNumber_47 rfl rfl rfl ?_
          exact pg_sub (L := [(0, .ref 9), (1, ii (pl : Int)), (2, ii (fr : Int)), (3, .long (Int64.ofInt (dvI bf fr (k + 1)))), (5, ii ((fr + (k + 1) : Nat) : Int))]) rfl rfl rfl (ih5 (18 - (k + 1)) (by omega) (k + 1) rfl (by omega) (fun j h1 h2 => by by_cases z : j = fr + k; (rw [z]; exact ⟨hin, decide_eq_true (by rw [← hby]; constructor <;> omega)⟩); exact hrun j h1 (by omega)))
  exact pg_sub (L := [(0, .ref 9), (1, ii (pl : Int)), (2, ii (fr : Int)), (3, .long (Int64.ofInt (dvI bf fr 0))), (5, ii ((fr + 0 : Nat) : Int))]) rfl rfl rfl (lp5 _ 0 rfl (by decide) (fun j h1 h2 => absurd h2 (by omega)))
set_option maxRecDepth 20000 in
theorem pm_X8_isTold : mj_mmof pg_ms 28 = some ((⟨"ArrayCalculator$Tokens", "isTold", "(J)Z"⟩, prog_10_method_16_code, 3, (Option.some Jvm.ClassFile.FieldType.boolean)), 8, false, mj_dec prog_10_method_16_code) := rfl
theorem dm_X8_isTold_0 : mj_dec prog_10_method_16_code 0 = some (.aload_n 0, 1) := by decide +kernel
theorem dm_X8_isTold_1 : mj_dec prog_10_method_16_code 1 = some (.getfield 39, 3) := by decide +kernel
theorem dm_X8_isTold_4 : mj_dec prog_10_method_16_code 4 = some (.iconst 2, 1) := by decide +kernel
theorem dm_X8_isTold_5 : mj_dec prog_10_method_16_code 5 = some (.if_icmp .le 61, 3) := by decide +kernel
theorem dm_X8_isTold_8 : mj_dec prog_10_method_16_code 8 = some (.aload_n 0, 1) := by decide +kernel
theorem dm_X8_isTold_9 : mj_dec prog_10_method_16_code 9 = some (.iconst 0, 1) := by decide +kernel
theorem dm_X8_isTold_10 : mj_dec prog_10_method_16_code 10 = some (.invokevirtual 128, 3) := by decide +kernel
theorem dm_X8_isTold_13 : mj_dec prog_10_method_16_code 13 = some (.ifCond .eq 53, 3) := by decide +kernel
theorem dm_X8_isTold_16 : mj_dec prog_10_method_16_code 16 = some (.aload_n 0, 1) := by decide +kernel
theorem dm_X8_isTold_17 : mj_dec prog_10_method_16_code 17 = some (.iconst 0, 1) := by decide +kernel
theorem dm_X8_isTold_18 : mj_dec prog_10_method_16_code 18 = some (.invokevirtual 64, 3) := by decide +kernel
theorem dm_X8_isTold_21 : mj_dec prog_10_method_16_code 21 = some (.lload_n 1, 1) := by decide +kernel
theorem dm_X8_isTold_22 : mj_dec prog_10_method_16_code 22 = some (.lcmp, 1) := by decide +kernel
theorem dm_X8_isTold_23 : mj_dec prog_10_method_16_code 23 = some (.ifCond .ne 43, 3) := by decide +kernel
theorem dm_X8_isTold_26 : mj_dec prog_10_method_16_code 26 = some (.aload_n 0, 1) := by decide +kernel
theorem dm_X8_isTold_27 : mj_dec prog_10_method_16_code 27 = some (.iconst 1, 1) := by decide +kernel
theorem dm_X8_isTold_28 : mj_dec prog_10_method_16_code 28 = some (.bipush 58, 2) := by decide +kernel
theorem dm_X8_isTold_30 : mj_dec prog_10_method_16_code 30 = some (.invokevirtual 131, 3) := by decide +kernel
theorem dm_X8_isTold_33 : mj_dec prog_10_method_16_code 33 = some (.ifCond .eq 33, 3) := by decide +kernel
theorem dm_X8_isTold_36 : mj_dec prog_10_method_16_code 36 = some (.aload_n 0, 1) := by decide +kernel
theorem dm_X8_isTold_37 : mj_dec prog_10_method_16_code 37 = some (.iconst 2, 1) := by decide +kernel
theorem dm_X8_isTold_38 : mj_dec prog_10_method_16_code 38 = some (.bipush 123, 2) := by decide +kernel
theorem dm_X8_isTold_40 : mj_dec prog_10_method_16_code 40 = some (.invokevirtual 131, 3) := by decide +kernel
theorem dm_X8_isTold_43 : mj_dec prog_10_method_16_code 43 = some (.ifCond .eq 23, 3) := by decide +kernel
theorem dm_X8_isTold_46 : mj_dec prog_10_method_16_code 46 = some (.lload_n 1, 1) := by decide +kernel
theorem dm_X8_isTold_47 : mj_dec prog_10_method_16_code 47 = some (.ldc2_w 135, 3) := by decide +kernel
theorem dm_X8_isTold_50 : mj_dec prog_10_method_16_code 50 = some (.lcmp, 1) := by decide +kernel
theorem dm_X8_isTold_51 : mj_dec prog_10_method_16_code 51 = some (.ifCond .eq 15, 3) := by decide +kernel
theorem dm_X8_isTold_54 : mj_dec prog_10_method_16_code 54 = some (.lload_n 1, 1) := by decide +kernel
theorem dm_X8_isTold_55 : mj_dec prog_10_method_16_code 55 = some (.ldc2_w 137, 3) := by decide +kernel
theorem dm_X8_isTold_58 : mj_dec prog_10_method_16_code 58 = some (.lcmp, 1) := by decide +kernel
theorem dm_X8_isTold_59 : mj_dec prog_10_method_16_code 59 = some (.ifCond .eq 7, 3) := by decide +kernel
theorem dm_X8_isTold_62 : mj_dec prog_10_method_16_code 62 = some (.iconst 1, 1) := by decide +kernel
theorem dm_X8_isTold_63 : mj_dec prog_10_method_16_code 63 = some (.goto 4, 3) := by decide +kernel
theorem dm_X8_isTold_66 : mj_dec prog_10_method_16_code 66 = some (.iconst 0, 1) := by decide +kernel
theorem dm_X8_isTold_67 : mj_dec prog_10_method_16_code 67 = some (.ireturn, 1) := by decide +kernel
theorem x_isToldT {xt : mj_X} {d mk ln : Nat} {le_ : Int} {gd : Bool} {sf pf bf : Nat → Int} {df : Nat → Int64} {h : mj_H} (hd : 3 ≤ d) (hT : TK h mk le_ ln gd sf pf bf df) {key : Int64} (hs : ∀ j : Nat, -2147483648 ≤ sf j ∧ sf j ≤ 2147483647) : pgP xt d 28 [.ref 9, .long key] h (zz (decide (2 < mk ∧ (tokS mk sf 0 = 3 ∨ tokS mk sf 0 = 4) ∧ df 0 = key ∧ (sf 1 = 7 ∧ (df 1).toInt = 58) ∧ (sf 2 = 7 ∧ (df 2).toInt = 123) ∧ key ≠ Int64.ofInt 24 ∧ key ≠ Int64.ofInt 25))) := by
  obtain ⟨h9, h10, h11, h12, h3, hmk, hln⟩ := id hT
  refine x_enter pm_X8_isTold (L0 := [(0, .ref 9), (1, .long key)]) rfl (Nat.le_of_ble_eq_true rfl) (by omega) ?_
  refine me1 (pc' := 1) (L' := [(0, .ref 9), (1, .long key)]) (S' := [.ref 9]) dm_X8_isTold_0 rfl rfl rfl rfl ?_
  refine me3 (pc' := 4) (S' := [ii (mk : Int)]) dm_X8_isTold_1 (g_get (v := ii (mk : Int)) h9 rfl rfl (by decide)) rfl rfl rfl ?_
  refine me0 (pc' := 5) (S' := [ii 2, ii (mk : Int)]) dm_X8_isTold_4 rfl rfl rfl rfl ?_
  refine y_2le (a := (mk : Int)) (b := 2) (t := 66) (pc' := 8) dm_X8_isTold_5 rfl rfl (by omega) (fun hb1 => ?_) (fun hb1 => ?_)
  · refine me0 (pc' := 67) (S' := [ii 0]) dm_X8_isTold_66 rfl rfl rfl rfl ?_
    refine y_ret (r := some (ii 0)) dm_X8_isTold_67 rfl rfl rfl ?_
    refine ⟨congrArg some (zf ?_), rfl⟩
    try simp only [show (0 : Int).toNat = 0 from rfl, show (1 : Int).toNat = 1 from rfl, show (2 : Int).toNat = 2 from rfl] at *
    rintro ⟨c1, c2, c3, c4, c5, c6, c7⟩
    first | omega | contradiction | exact absurd c2 (by assumption) | exact absurd c3 (by assumption)
  · refine me1 (pc' := 9) (L' := [(0, .ref 9), (1, .long key)]) (S' := [.ref 9]) dm_X8_isTold_8 rfl rfl rfl rfl ?_
    refine me0 (pc' := 10) (S' := [ii 0, .ref 9]) dm_X8_isTold_9 rfl rfl rfl rfl ?_
    refine x_cp (pc' := 13) (v := zz (decide (tokS mk sf 0 = 3 ∨ tokS mk sf 0 = 4))) (rest := []) dm_X8_isTold_10 rfl (g_inv (As := [ii 0]) (S := []) h9 rfl rfl rfl (by decide)) rfl rfl rfl (x_isNameT (i := 0) (by omega) hT (by omega) (by have := hs (0 : Int).toNat; unfold tokS; split <;> omega)) ?_
    refine y_zeq (c := decide (tokS mk sf 0 = 3 ∨ tokS mk sf 0 = 4)) (t := 66) (pc' := 16) dm_X8_isTold_13 rfl rfl (fun hb2 => ?_) (fun hb2 => ?_)
    · replace hb2 := dF hb2
      refine me0 (pc' := 67) (S' := [ii 0]) dm_X8_isTold_66 rfl rfl rfl rfl ?_
      refine y_ret (r := some (ii 0)) dm_X8_isTold_67 rfl rfl rfl ?_
      refine ⟨congrArg some (zf ?_), rfl⟩
      try simp only [show (0 : Int).toNat = 0 from rfl, show (1 : Int).toNat = 1 from rfl, show (2 : Int).toNat = 2 from rfl] at *
      rintro ⟨c1, c2, c3, c4, c5, c6, c7⟩
      first | omega | contradiction | exact absurd c2 (by assumption) | exact absurd c3 (by assumption)
    · replace hb2 := dT hb2
      refine me1 (pc' := 17) (L' := [(0, .ref 9), (1, .long key)]) (S' := [.ref 9]) dm_X8_isTold_16 rfl rfl rfl rfl ?_
      refine me0 (pc' := 18) (S' := [ii 0, .ref 9]) dm_X8_isTold_17 rfl rfl rfl rfl ?_
      refine x_cp (pc' := 21) (v := .long (if 0 ≤ (0 : Int) ∧ (0 : Int) < (mk : Int) then df (0 : Int).toNat else Int64.ofInt 0)) (rest := []) dm_X8_isTold_18 rfl (g_inv (As := [ii 0]) (S := []) h9 rfl rfl rfl (by decide)) rfl rfl rfl (x_dataAtT (i := 0) (by omega) hT (by omega)) ?_
      refine pg_st (S' := [.long (df 0)]) (congrArg (fun z => Value.long z :: []) (if_pos (by omega))) ?_
      refine me1 (pc' := 22) (L' := [(0, .ref 9), (1, .long key)]) (S' := [.long key, .long (df 0)]) dm_X8_isTold_21 rfl rfl rfl rfl ?_
      refine y_lne (x := df 0) (y := key) (t := 66) (pc1 := 23) (pc' := 26) dm_X8_isTold_22 rfl dm_X8_isTold_23 rfl rfl (fun hb3 => ?_) (fun hb3 => ?_)
      · have hb3i : ¬ (df 0).toInt = (key).toInt := fun z => hb3 (Int64.toInt_inj.mp z)
        refine me0 (pc' := 67) (S' := [ii 0]) dm_X8_isTold_66 rfl rfl rfl rfl ?_
        refine y_ret (r := some (ii 0)) dm_X8_isTold_67 rfl rfl rfl ?_
        refine ⟨congrArg some (zf ?_), rfl⟩
        try simp only [show (0 : Int).toNat = 0 from rfl, show (1 : Int).toNat = 1 from rfl, show (2 : Int).toNat = 2 from rfl] at *
        rintro ⟨c1, c2, c3, c4, c5, c6, c7⟩
        first | omega | contradiction | exact absurd c2 (by assumption) | exact absurd c3 (by assumption)
      · have hb3i := congrArg Int64.toInt hb3
        refine me1 (pc' := 27) (L' := [(0, .ref 9), (1, .long key)]) (S' := [.ref 9]) dm_X8_isTold_26 rfl rfl rfl rfl ?_
        refine me0 (pc' := 28) (S' := [ii 1, .ref 9]) dm_X8_isTold_27 rfl rfl rfl rfl ?_
        refine me0 (pc' := 30) (S' := [ii 58, ii 1, .ref 9]) dm_X8_isTold_28 rfl rfl rfl rfl ?_
        refine x_cp (pc' := 33) (v := zz (decide (0 ≤ (1 : Int) ∧ (1 : Int) < (mk : Int) ∧ sf (1 : Int).toNat = 7 ∧ (df (1 : Int).toNat).toInt = 58))) (rest := []) dm_X8_isTold_30 rfl (g_inv (As := [ii 1, ii 58]) (S := []) h9 rfl rfl rfl (by decide)) rfl rfl rfl (x_isMarkT (i := 1) (c := 58) (by omega) hT (by omega) (by omega) hs) ?_
        refine y_zeq (c := decide (0 ≤ (1 : Int) ∧ (1 : Int) < (mk : Int) ∧ sf (1 : Int).toNat = 7 ∧ (df (1 : Int).toNat).toInt = 58)) (t := 66) (pc' := 36) dm_X8_isTold_33 rfl rfl (fun hb4 => ?_) (fun hb4 => ?_)
        · replace hb4 := dF hb4
          refine me0 (pc' := 67) (S' := [ii 0]) dm_X8_isTold_66 rfl rfl rfl rfl ?_
          refine y_ret (r := some (ii 0)) dm_X8_isTold_67 rfl rfl rfl ?_
          refine ⟨congrArg some (zf ?_), rfl⟩
          try simp only [show (0 : Int).toNat = 0 from rfl, show (1 : Int).toNat = 1 from rfl, show (2 : Int).toNat = 2 from rfl] at *
          rintro ⟨c1, c2, c3, c4, c5, c6, c7⟩
          first | omega | contradiction | exact absurd c2 (by assumption) | exact absurd c3 (by assumption)
        · replace hb4 := dT hb4
          refine me1 (pc' := 37) (L' := [(0, .ref 9), (1, .long key)]) (S' := [.ref 9]) dm_X8_isTold_36 rfl rfl rfl rfl ?_
          refine me0 (pc' := 38) (S' := [ii 2, .ref 9]) dm_X8_isTold_37 rfl rfl rfl rfl ?_
          refine me0 (pc' := 40) (S' := [ii 123, ii 2, .ref 9]) dm_X8_isTold_38 rfl rfl rfl rfl ?_
          refine x_cp (pc' := 43) (v := zz (decide (0 ≤ (2 : Int) ∧ (2 : Int) < (mk : Int) ∧ sf (2 : Int).toNat = 7 ∧ (df (2 : Int).toNat).toInt = 123))) (rest := []) dm_X8_isTold_40 rfl (g_inv (As := [ii 2, ii 123]) (S := []) h9 rfl rfl rfl (by decide)) rfl rfl rfl (x_isMarkT (i := 2) (c := 123) (by omega) hT (by omega) (by omega) hs) ?_
          refine y_zeq (c := decide (0 ≤ (2 : Int) ∧ (2 : Int) < (mk : Int) ∧ sf (2 : Int).toNat = 7 ∧ (df (2 : Int).toNat).toInt = 123)) (t := 66) (pc' := 46) dm_X8_isTold_43 rfl rfl (fun hb5 => ?_) (fun hb5 => ?_)
          · replace hb5 := dF hb5
            refine me0 (pc' := 67) (S' := [ii 0]) dm_X8_isTold_66 rfl rfl rfl rfl ?_
            refine y_ret (r := some (ii 0)) dm_X8_isTold_67 rfl rfl rfl ?_
            refine ⟨congrArg some (zf ?_), rfl⟩
            try simp only [show (0 : Int).toNat = 0 from rfl, show (1 : Int).toNat = 1 from rfl, show (2 : Int).toNat = 2 from rfl] at *
            rintro ⟨c1, c2, c3, c4, c5, c6, c7⟩
            first | omega | contradiction | exact absurd c2 (by assumption) | exact absurd c3 (by assumption)
          · replace hb5 := dT hb5
            refine me1 (pc' := 47) (L' := [(0, .ref 9), (1, .long key)]) (S' := [.long key]) dm_X8_isTold_46 rfl rfl rfl rfl ?_
            refine me3 (pc' := 50) (S' := [.long (Int64.ofInt 24), .long key]) dm_X8_isTold_47 rfl rfl rfl rfl ?_
            refine y_leq (x := key) (y := Int64.ofInt 24) (t := 66) (pc1 := 51) (pc' := 54) dm_X8_isTold_50 rfl dm_X8_isTold_51 rfl rfl (fun hb6 => ?_) (fun hb6 => ?_)
            · have hb6i := congrArg Int64.toInt hb6
              refine me0 (pc' := 67) (S' := [ii 0]) dm_X8_isTold_66 rfl rfl rfl rfl ?_
              refine y_ret (r := some (ii 0)) dm_X8_isTold_67 rfl rfl rfl ?_
              refine ⟨congrArg some (zf ?_), rfl⟩
              try simp only [show (0 : Int).toNat = 0 from rfl, show (1 : Int).toNat = 1 from rfl, show (2 : Int).toNat = 2 from rfl] at *
              rintro ⟨c1, c2, c3, c4, c5, c6, c7⟩
              first | omega | contradiction | exact absurd c2 (by assumption) | exact absurd c3 (by assumption)
            · have hb6i : ¬ (key).toInt = (Int64.ofInt 24).toInt := fun z => hb6 (Int64.toInt_inj.mp z)
              refine me1 (pc' := 55) (L' := [(0, .ref 9), (1, .long key)]) (S' := [.long key]) dm_X8_isTold_54 rfl rfl rfl rfl ?_
              refine me3 (pc' := 58) (S' := [.long (Int64.ofInt 25), .long key]) dm_X8_isTold_55 rfl rfl rfl rfl ?_
              refine y_leq (x := key) (y := Int64.ofInt 25) (t := 66) (pc1 := 59) (pc' := 62) dm_X8_isTold_58 rfl dm_X8_isTold_59 rfl rfl (fun hb7 => ?_) (fun hb7 => ?_)
              · have hb7i := congrArg Int64.toInt hb7
                refine me0 (pc' := 67) (S' := [ii 0]) dm_X8_isTold_66 rfl rfl rfl rfl ?_
                refine y_ret (r := some (ii 0)) dm_X8_isTold_67 rfl rfl rfl ?_
                refine ⟨congrArg some (zf ?_), rfl⟩
                try simp only [show (0 : Int).toNat = 0 from rfl, show (1 : Int).toNat = 1 from rfl, show (2 : Int).toNat = 2 from rfl] at *
                rintro ⟨c1, c2, c3, c4, c5, c6, c7⟩
                first | omega | contradiction | exact absurd c2 (by assumption) | exact absurd c3 (by assumption)
              · have hb7i : ¬ (key).toInt = (Int64.ofInt 25).toInt := fun z => hb7 (Int64.toInt_inj.mp z)
                refine me0 (pc' := 63) (S' := [ii 1]) dm_X8_isTold_62 rfl rfl rfl rfl ?_
                refine me2 (pc' := 67) (S' := [ii 1]) dm_X8_isTold_63 rfl rfl rfl ?_
                refine y_ret (r := some (ii 1)) dm_X8_isTold_67 rfl rfl rfl ?_
                refine ⟨congrArg some (zt ?_), rfl⟩
                try simp only [show (0 : Int).toNat = 0 from rfl, show (1 : Int).toNat = 1 from rfl, show (2 : Int).toNat = 2 from rfl] at *
                exact ⟨by omega, by assumption, by assumption, ⟨by omega, by omega⟩, ⟨by omega, by omega⟩, by assumption, by assumption⟩
set_option maxRecDepth 20000 in
theorem pm_X8_addText : mj_mmof pg_ms 32 = some ((⟨"ArrayCalculator$Tokens", "addText", "(I)Z"⟩, prog_10_method_17_code, 3, (Option.some Jvm.ClassFile.FieldType.boolean)), 8, false, mj_dec prog_10_method_17_code) := rfl
theorem dm_X8_addText_0 : mj_dec prog_10_method_17_code 0 = some (.iload_n 1, 1) := by decide +kernel
theorem dm_X8_addText_1 : mj_dec prog_10_method_17_code 1 = some (.iconst 1, 1) := by decide +kernel
theorem dm_X8_addText_2 : mj_dec prog_10_method_17_code 2 = some (.iadd, 1) := by decide +kernel
theorem dm_X8_addText_3 : mj_dec prog_10_method_17_code 3 = some (.istore_n 2, 1) := by decide +kernel
theorem dm_X8_addText_4 : mj_dec prog_10_method_17_code 4 = some (.iload_n 2, 1) := by decide +kernel
theorem dm_X8_addText_5 : mj_dec prog_10_method_17_code 5 = some (.iload_n 1, 1) := by decide +kernel
theorem dm_X8_addText_6 : mj_dec prog_10_method_17_code 6 = some (.bipush 60, 2) := by decide +kernel
theorem dm_X8_addText_8 : mj_dec prog_10_method_17_code 8 = some (.iadd, 1) := by decide +kernel
theorem dm_X8_addText_9 : mj_dec prog_10_method_17_code 9 = some (.if_icmp .gt 20, 3) := by decide +kernel
theorem dm_X8_addText_12 : mj_dec prog_10_method_17_code 12 = some (.aload_n 0, 1) := by decide +kernel
theorem dm_X8_addText_13 : mj_dec prog_10_method_17_code 13 = some (.iload_n 2, 1) := by decide +kernel
theorem dm_X8_addText_14 : mj_dec prog_10_method_17_code 14 = some (.invokevirtual 74, 3) := by decide +kernel
theorem dm_X8_addText_17 : mj_dec prog_10_method_17_code 17 = some (.invokestatic 139, 3) := by decide +kernel
theorem dm_X8_addText_20 : mj_dec prog_10_method_17_code 20 = some (.ifCond .eq 9, 3) := by decide +kernel
theorem dm_X8_addText_23 : mj_dec prog_10_method_17_code 23 = some (.iinc 2 1, 3) := by decide +kernel
theorem dm_X8_addText_26 : mj_dec prog_10_method_17_code 26 = some (.goto (-22), 3) := by decide +kernel
theorem dm_X8_addText_29 : mj_dec prog_10_method_17_code 29 = some (.iload_n 2, 1) := by decide +kernel
theorem dm_X8_addText_30 : mj_dec prog_10_method_17_code 30 = some (.iload_n 1, 1) := by decide +kernel
theorem dm_X8_addText_31 : mj_dec prog_10_method_17_code 31 = some (.iconst 1, 1) := by decide +kernel
theorem dm_X8_addText_32 : mj_dec prog_10_method_17_code 32 = some (.iadd, 1) := by decide +kernel
theorem dm_X8_addText_33 : mj_dec prog_10_method_17_code 33 = some (.if_icmp .eq 13, 3) := by decide +kernel
theorem dm_X8_addText_36 : mj_dec prog_10_method_17_code 36 = some (.aload_n 0, 1) := by decide +kernel
theorem dm_X8_addText_37 : mj_dec prog_10_method_17_code 37 = some (.iload_n 2, 1) := by decide +kernel
theorem dm_X8_addText_38 : mj_dec prog_10_method_17_code 38 = some (.invokevirtual 74, 3) := by decide +kernel
theorem dm_X8_addText_41 : mj_dec prog_10_method_17_code 41 = some (.bipush 39, 2) := by decide +kernel
theorem dm_X8_addText_43 : mj_dec prog_10_method_17_code 43 = some (.if_icmp .eq 5, 3) := by decide +kernel
theorem dm_X8_addText_46 : mj_dec prog_10_method_17_code 46 = some (.iconst 0, 1) := by decide +kernel
theorem dm_X8_addText_47 : mj_dec prog_10_method_17_code 47 = some (.ireturn, 1) := by decide +kernel
theorem dm_X8_addText_48 : mj_dec prog_10_method_17_code 48 = some (.aload_n 0, 1) := by decide +kernel
theorem dm_X8_addText_49 : mj_dec prog_10_method_17_code 49 = some (.iconst 2, 1) := by decide +kernel
theorem dm_X8_addText_50 : mj_dec prog_10_method_17_code 50 = some (.iload_n 1, 1) := by decide +kernel
theorem dm_X8_addText_51 : mj_dec prog_10_method_17_code 51 = some (.iload_n 2, 1) := by decide +kernel
theorem dm_X8_addText_52 : mj_dec prog_10_method_17_code 52 = some (.iload_n 1, 1) := by decide +kernel
theorem dm_X8_addText_53 : mj_dec prog_10_method_17_code 53 = some (.isub, 1) := by decide +kernel
theorem dm_X8_addText_54 : mj_dec prog_10_method_17_code 54 = some (.iconst 1, 1) := by decide +kernel
theorem dm_X8_addText_55 : mj_dec prog_10_method_17_code 55 = some (.isub, 1) := by decide +kernel
theorem dm_X8_addText_56 : mj_dec prog_10_method_17_code 56 = some (.i2l, 1) := by decide +kernel
theorem dm_X8_addText_57 : mj_dec prog_10_method_17_code 57 = some (.iload_n 2, 1) := by decide +kernel
theorem dm_X8_addText_58 : mj_dec prog_10_method_17_code 58 = some (.iconst 1, 1) := by decide +kernel
theorem dm_X8_addText_59 : mj_dec prog_10_method_17_code 59 = some (.iadd, 1) := by decide +kernel
theorem dm_X8_addText_60 : mj_dec prog_10_method_17_code 60 = some (.invokevirtual 53, 3) := by decide +kernel
theorem dm_X8_addText_63 : mj_dec prog_10_method_17_code 63 = some (.iconst 1, 1) := by decide +kernel
theorem dm_X8_addText_64 : mj_dec prog_10_method_17_code 64 = some (.ireturn, 1) := by decide +kernel
theorem x_addTextT {xt : mj_X} {d mk ln : Nat} {le_ : Int} {gd : Bool} {sf pf bf : Nat → Int} {df : Nat → Int64} {h : mj_H} (hd : 3 ≤ d) (hT : TK h mk le_ ln gd sf pf bf df) {pl : Nat} (hr : mk < 201) (hp : pl ≤ 300) (hbf : ∀ j, 0 ≤ bf j ∧ bf j ≤ 255) : pgV xt d 32 [.ref 9, ii (pl : Int)] h (fun x h' => (x = zz (decide (0 < (rnL txB bf ln 60 (pl + 1)) ∧ byA bf ln ((pl + 1 + (rnL txB bf ln 60 (pl + 1)) : Nat) : Int) = 39)) ∧ if (0 < (rnL txB bf ln 60 (pl + 1)) ∧ byA bf ln ((pl + 1 + (rnL txB bf ln 60 (pl + 1)) : Nat) : Int) = 39) then TK h' (mk + 1) ((pl + 1 + (rnL txB bf ln 60 (pl + 1)) + 1 : Nat) : Int) ln gd (va_up sf mk 2) (va_up pf mk (pl : Int)) bf (va_up df mk (Int64.ofInt (((rnL txB bf ln 60 (pl + 1)) : Nat) : Int))) ∧ tkF h h' else h' = h)) := by
  obtain ⟨h9, h10, h11, h12, h3, hmk, hln⟩ := id hT
  refine x_enter pm_X8_addText (L0 := [(0, .ref 9), (1, ii (pl : Int))]) rfl (Nat.le_of_ble_eq_true rfl) (by omega) ?_
  refine me1 (pc' := 1) (L' := [(0, .ref 9), (1, ii (pl : Int))]) (S' := [ii (pl : Int)]) dm_X8_addText_0 rfl rfl rfl rfl ?_
  refine me0 (pc' := 2) (S' := [ii 1, ii (pl : Int)]) dm_X8_addText_1 rfl rfl rfl rfl ?_
  refine y_iadd (a := (pl : Int)) (b := 1) dm_X8_addText_2 (pc' := 3) rfl ?_
  refine me1 (pc' := 4) (L' := [(2, ii ((pl : Int) + 1)), (0, .ref 9), (1, ii (pl : Int))]) (S' := []) dm_X8_addText_3 rfl rfl rfl rfl ?_
  have lp4 : ∀ (n4 : Nat) (k : Nat), 60 - k = n4 → (k ≤ 60) → (∀ j, pl + 1 ≤ j → j < pl + 1 + k → j < ln ∧ txB (bf j) = true) → pgE xt (d - 1) 8 3 false (Option.some Jvm.ClassFile.FieldType.boolean) (mj_dec prog_10_method_17_code) 4 [(0, .ref 9), (1, ii (pl : Int)), (2, ii ((pl + 1 + k : Nat) : Int))] [] h (fun r h' => ∃ x, r = some x ∧ (x = zz (decide (0 < (rnL txB bf ln 60 (pl + 1)) ∧ byA bf ln ((pl + 1 + (rnL txB bf ln 60 (pl + 1)) : Nat) : Int) = 39)) ∧ if (0 < (rnL txB bf ln 60 (pl + 1)) ∧ byA bf ln ((pl + 1 + (rnL txB bf ln 60 (pl + 1)) : Nat) : Int) = 39) then TK h' (mk + 1) ((pl + 1 + (rnL txB bf ln 60 (pl + 1)) + 1 : Nat) : Int) ln gd (va_up sf mk 2) (va_up pf mk (pl : Int)) bf (va_up df mk (Int64.ofInt (((rnL txB bf ln 60 (pl + 1)) : Nat) : Int))) ∧ tkF h h' else h' = h)) := by
    intro n4
    induction n4 using Nat.strongRecOn with
    | ind n4 ih4 =>
      intro k hm4 hk hrun
      have hbr := byA_r (ln := ln) hbf ((pl + 1 + k : Nat) : Int)
      refine me1 (pc' := 5) (L' := [(0, .ref 9), (1, ii (pl : Int)), (2, ii ((pl + 1 + k : Nat) : Int))]) (S' := [ii ((pl + 1 + k : Nat) : Int)]) dm_X8_addText_4 rfl rfl rfl rfl ?_
      refine me1 (pc' := 6) (L' := [(0, .ref 9), (1, ii (pl : Int)), (2, ii ((pl + 1 + k : Nat) : Int))]) (S' := [ii (pl : Int), ii ((pl + 1 + k : Nat) : Int)]) dm_X8_addText_5 rfl rfl rfl rfl ?_
      refine me0 (pc' := 8) (S' := [ii 60, ii (pl : Int), ii ((pl + 1 + k : Nat) : Int)]) dm_X8_addText_6 rfl rfl rfl rfl ?_
      refine y_iadd (a := (pl : Int)) (b := 60) dm_X8_addText_8 (pc' := 9) rfl ?_
      refine y_2gt (a := ((pl + 1 + k : Nat) : Int)) (b := (pl : Int) + 60) (t := 29) (pc' := 12) dm_X8_addText_9 rfl rfl (by omega) (fun hb1 => ?_) (fun hb1 => ?_)
      · have hn : (rnL txB bf ln 60 (pl + 1)) = k := rnL_eq 60 (pl + 1) k hk hrun (Or.inl (by omega))
        refine me1 (pc' := 30) (L' := [(0, .ref 9), (1, ii (pl : Int)), (2, ii ((pl + 1 + k : Nat) : Int))]) (S' := [ii ((pl + 1 + k : Nat) : Int)]) dm_X8_addText_29 rfl rfl rfl rfl ?_
        refine me1 (pc' := 31) (L' := [(0, .ref 9), (1, ii (pl : Int)), (2, ii ((pl + 1 + k : Nat) : Int))]) (S' := [ii (pl : Int), ii ((pl + 1 + k : Nat) : Int)]) dm_X8_addText_30 rfl rfl rfl rfl ?_
        refine me0 (pc' := 32) (S' := [ii 1, ii (pl : Int), ii ((pl + 1 + k : Nat) : Int)]) dm_X8_addText_31 rfl rfl rfl rfl ?_
        refine y_iadd (a := (pl : Int)) (b := 1) dm_X8_addText_32 (pc' := 33) rfl ?_
        refine y_2eq (a := ((pl + 1 + k : Nat) : Int)) (b := (pl : Int) + 1) (t := 46) (pc' := 36) dm_X8_addText_33 rfl rfl (by omega) (fun hb2 => ?_) (fun hb2 => ?_)
        · refine me0 (pc' := 47) (S' := [ii 0]) dm_X8_addText_46 rfl rfl rfl rfl ?_
          refine y_ret (r := some (ii 0)) dm_X8_addText_47 rfl rfl rfl ?_
          refine ⟨_, rfl, zf (by rw [hn]; omega), ?_⟩
          rw [hn, if_neg (by omega)]
        · refine me1 (pc' := 37) (L' := [(0, .ref 9), (1, ii (pl : Int)), (2, ii ((pl + 1 + k : Nat) : Int))]) (S' := [.ref 9]) dm_X8_addText_36 rfl rfl rfl rfl ?_
          refine me1 (pc' := 38) (L' := [(0, .ref 9), (1, ii (pl : Int)), (2, ii ((pl + 1 + k : Nat) : Int))]) (S' := [ii ((pl + 1 + k : Nat) : Int), .ref 9]) dm_X8_addText_37 rfl rfl rfl rfl ?_
          refine x_cp (pc' := 41) (v := ii (byA bf ln ((pl + 1 + k : Nat) : Int))) (rest := []) dm_X8_addText_38 rfl (g_inv (As := [ii ((pl + 1 + k : Nat) : Int)]) (S := []) h9 rfl rfl rfl (by decide)) rfl rfl rfl (x_byteAtT (by omega) hT (by omega)) ?_
          refine me0 (pc' := 43) (S' := [ii 39, ii (byA bf ln ((pl + 1 + k : Nat) : Int))]) dm_X8_addText_41 rfl rfl rfl rfl ?_
          refine y_2eq (a := byA bf ln ((pl + 1 + k : Nat) : Int)) (b := 39) (t := 48) (pc' := 46) dm_X8_addText_43 rfl rfl (by omega) (fun hb3 => ?_) (fun hb3 => ?_)
          · refine me1 (pc' := 49) (L' := [(0, .ref 9), (1, ii (pl : Int)), (2, ii ((pl + 1 + k : Nat) : Int))]) (S' := [.ref 9]) dm_X8_addText_48 rfl rfl rfl rfl ?_
            refine me0 (pc' := 50) (S' := [ii 2, .ref 9]) dm_X8_addText_49 rfl rfl rfl rfl ?_
            refine me1 (pc' := 51) (L' := [(0, .ref 9), (1, ii (pl : Int)), (2, ii ((pl + 1 + k : Nat) : Int))]) (S' := [ii (pl : Int), ii 2, .ref 9]) dm_X8_addText_50 rfl rfl rfl rfl ?_
            refine me1 (pc' := 52) (L' := [(0, .ref 9), (1, ii (pl : Int)), (2, ii ((pl + 1 + k : Nat) : Int))]) (S' := [ii ((pl + 1 + k : Nat) : Int), ii (pl : Int), ii 2, .ref 9]) dm_X8_addText_51 rfl rfl rfl rfl ?_
            refine me1 (pc' := 53) (L' := [(0, .ref 9), (1, ii (pl : Int)), (2, ii ((pl + 1 + k : Nat) : Int))]) (S' := [ii (pl : Int), ii ((pl + 1 + k : Nat) : Int), ii (pl : Int), ii 2, .ref 9]) dm_X8_addText_52 rfl rfl rfl rfl ?_
            refine y_isub (a := ((pl + 1 + k : Nat) : Int)) (b := (pl : Int)) dm_X8_addText_53 (pc' := 54) rfl ?_
            refine me0 (pc' := 55) (S' := [ii 1, ii (((pl + 1 + k : Nat) : Int) - (pl : Int)), ii (pl : Int), ii 2, .ref 9]) dm_X8_addText_54 rfl rfl rfl rfl ?_
            refine y_isub (a := ((pl + 1 + k : Nat) : Int) - (pl : Int)) (b := 1) dm_X8_addText_55 (pc' := 56) rfl ?_
            refine y_i2l (a := (((pl + 1 + k : Nat) : Int) - (pl : Int)) - 1) dm_X8_addText_56 (pc' := 57) rfl (by omega) (by omega) ?_
            refine pg_st (S' := [.long (Int64.ofInt ((k : Nat) : Int)), ii (pl : Int), ii 2, .ref 9]) (congrArg (fun z => Value.long z :: [ii (pl : Int), ii 2, .ref 9]) (congrArg Int64.ofInt (by omega))) ?_
            refine me1 (pc' := 58) (L' := [(0, .ref 9), (1, ii (pl : Int)), (2, ii ((pl + 1 + k : Nat) : Int))]) (S' := [ii ((pl + 1 + k : Nat) : Int), .long (Int64.ofInt ((k : Nat) : Int)), ii (pl : Int), ii 2, .ref 9]) dm_X8_addText_57 rfl rfl rfl rfl ?_
            refine me0 (pc' := 59) (S' := [ii 1, ii ((pl + 1 + k : Nat) : Int), .long (Int64.ofInt ((k : Nat) : Int)), ii (pl : Int), ii 2, .ref 9]) dm_X8_addText_58 rfl rfl rfl rfl ?_
            refine y_iadd (a := ((pl + 1 + k : Nat) : Int)) (b := 1) dm_X8_addText_59 (pc' := 60) rfl ?_
            refine pg_st (S' := [ii ((pl + 1 + k + 1 : Nat) : Int), .long (Int64.ofInt ((k : Nat) : Int)), ii (pl : Int), ii 2, .ref 9]) (congrArg (fun z => ii z :: [.long (Int64.ofInt ((k : Nat) : Int)), ii (pl : Int), ii 2, .ref 9]) (by omega)) ?_
            refine x_cn (pc' := 63) (rest := []) dm_X8_addText_60 rfl (g_inv (As := [ii 2, ii (pl : Int), .long (Int64.ofInt ((k : Nat) : Int)), ii ((pl + 1 + k + 1 : Nat) : Int)]) (S := []) h9 rfl rfl rfl (by decide)) rfl rfl rfl (x_addT (so := 2) (pl := (pl : Int)) (en := ((pl + 1 + k + 1 : Nat) : Int)) (da := Int64.ofInt ((k : Nat) : Int)) (by omega) hT hr) ?_
            rintro h2 ⟨hT2, hF2⟩
            refine me0 (pc' := 64) (S' := [ii 1]) dm_X8_addText_63 rfl rfl rfl rfl ?_
            refine y_ret (r := some (ii 1)) dm_X8_addText_64 rfl rfl rfl ?_
            refine ⟨_, rfl, zt (by rw [hn]; omega), ?_⟩
            rw [hn, if_pos (by omega)]
            exact ⟨hT2, hF2⟩
          · refine me0 (pc' := 47) (S' := [ii 0]) dm_X8_addText_46 rfl rfl rfl rfl ?_
            refine y_ret (r := some (ii 0)) dm_X8_addText_47 rfl rfl rfl ?_
            refine ⟨_, rfl, zf (by rw [hn]; omega), ?_⟩
            rw [hn, if_neg (by omega)]
      · refine me1 (pc' := 13) (L' := [(0, .ref 9), (1, ii (pl : Int)), (2, ii ((pl + 1 + k : Nat) : Int))]) (S' := [.ref 9]) dm_X8_addText_12 rfl rfl rfl rfl ?_
        refine me1 (pc' := 14) (L' := [(0, .ref 9), (1, ii (pl : Int)), (2, ii ((pl + 1 + k : Nat) : Int))]) (S' := [ii ((pl + 1 + k : Nat) : Int), .ref 9]) dm_X8_addText_13 rfl rfl rfl rfl ?_
        refine x_cp (pc' := 17) (v := ii (byA bf ln ((pl + 1 + k : Nat) : Int))) (rest := []) dm_X8_addText_14 rfl (g_inv (As := [ii ((pl + 1 + k : Nat) : Int)]) (S := []) h9 rfl rfl rfl (by decide)) rfl rfl rfl (x_byteAtT (by omega) hT (by omega)) ?_
        refine x_cp (pc' := 20) (v := zz (decide (32 ≤ (byA bf ln ((pl + 1 + k : Nat) : Int)) ∧ (byA bf ln ((pl + 1 + k : Nat) : Int)) ≤ 126 ∧ (byA bf ln ((pl + 1 + k : Nat) : Int)) ≠ 39))) (rest := []) dm_X8_addText_17 rfl (g_invs (As := [ii (byA bf ln ((pl + 1 + k : Nat) : Int))]) (S := []) rfl rfl rfl) rfl rfl rfl (x_isTextByteT (by omega) (by omega)) ?_
        refine y_zeq (c := decide (32 ≤ (byA bf ln ((pl + 1 + k : Nat) : Int)) ∧ (byA bf ln ((pl + 1 + k : Nat) : Int)) ≤ 126 ∧ (byA bf ln ((pl + 1 + k : Nat) : Int)) ≠ 39)) (t := 29) (pc' := 23) dm_X8_addText_20 rfl rfl (fun hb4 => ?_) (fun hb4 => ?_)
        · replace hb4 := dF hb4
          have hn : (rnL txB bf ln 60 (pl + 1)) = k := rnL_eq 60 (pl + 1) k hk hrun (Or.inr (fun z => by have z2 := of_decide_eq_true z.2; rw [← byA_in (bf := bf) z.1] at z2; exact hb4 z2))
          refine me1 (pc' := 30) (L' := [(0, .ref 9), (1, ii (pl : Int)), (2, ii ((pl + 1 + k : Nat) : Int))]) (S' := [ii ((pl + 1 + k : Nat) : Int)]) dm_X8_addText_29 rfl rfl rfl rfl ?_
          refine me1 (pc' := 31) (L' := [(0, .ref 9), (1, ii (pl : Int)), (2, ii ((pl + 1 + k : Nat) : Int))]) (S' := [ii (pl : Int), ii ((pl + 1 + k : Nat) : Int)]) dm_X8_addText_30 rfl rfl rfl rfl ?_
          refine me0 (pc' := 32) (S' := [ii 1, ii (pl : Int), ii ((pl + 1 + k : Nat) : Int)]) dm_X8_addText_31 rfl rfl rfl rfl ?_
          refine y_iadd (a := (pl : Int)) (b := 1) dm_X8_addText_32 (pc' := 33) rfl ?_
          refine y_2eq (a := ((pl + 1 + k : Nat) : Int)) (b := (pl : Int) + 1) (t := 46) (pc' := 36) dm_X8_addText_33 rfl rfl (by omega) (fun hb5 => ?_) (fun hb5 => ?_)
          · refine me0 (pc' := 47) (S' := [ii 0]) dm_X8_addText_46 rfl rfl rfl rfl ?_
            refine y_ret (r := some (ii 0)) dm_X8_addText_47 rfl rfl rfl ?_
            refine ⟨_, rfl, zf (by rw [hn]; omega), ?_⟩
            rw [hn, if_neg (by omega)]
          · refine me1 (pc' := 37) (L' := [(0, .ref 9), (1, ii (pl : Int)), (2, ii ((pl + 1 + k : Nat) : Int))]) (S' := [.ref 9]) dm_X8_addText_36 rfl rfl rfl rfl ?_
            refine me1 (pc' := 38) (L' := [(0, .ref 9), (1, ii (pl : Int)), (2, ii ((pl + 1 + k : Nat) : Int))]) (S' := [ii ((pl + 1 + k : Nat) : Int), .ref 9]) dm_X8_addText_37 rfl rfl rfl rfl ?_
            refine x_cp (pc' := 41) (v := ii (byA bf ln ((pl + 1 + k : Nat) : Int))) (rest := []) dm_X8_addText_38 rfl (g_inv (As := [ii ((pl + 1 + k : Nat) : Int)]) (S := []) h9 rfl rfl rfl (by decide)) rfl rfl rfl (x_byteAtT (by omega) hT (by omega)) ?_
            refine me0 (pc' := 43) (S' := [ii 39, ii (byA bf ln ((pl + 1 + k : Nat) : Int))]) dm_X8_addText_41 rfl rfl rfl rfl ?_
            refine y_2eq (a := byA bf ln ((pl + 1 + k : Nat) : Int)) (b := 39) (t := 48) (pc' := 46) dm_X8_addText_43 rfl rfl (by omega) (fun hb6 => ?_) (fun hb6 => ?_)
            · refine me1 (pc' := 49) (L' := [(0, .ref 9), (1, ii (pl : Int)), (2, ii ((pl + 1 + k : Nat) : Int))]) (S' := [.ref 9]) dm_X8_addText_48 rfl rfl rfl rfl ?_
              refine me0 (pc' := 50) (S' := [ii 2, .ref 9]) dm_X8_addText_49 rfl rfl rfl rfl ?_
              refine me1 (pc' := 51) (L' := [(0, .ref 9), (1, ii (pl : Int)), (2, ii ((pl + 1 + k : Nat) : Int))]) (S' := [ii (pl : Int), ii 2, .ref 9]) dm_X8_addText_50 rfl rfl rfl rfl ?_
              refine me1 (pc' := 52) (L' := [(0, .ref 9), (1, ii (pl : Int)), (2, ii ((pl + 1 + k : Nat) : Int))]) (S' := [ii ((pl + 1 + k : Nat) : Int), ii (pl : Int), ii 2, .ref 9]) dm_X8_addText_51 rfl rfl rfl rfl ?_
              refine me1 (pc' := 53) (L' := [(0, .ref 9), (1, ii (pl : Int)), (2, ii ((pl + 1 + k : Nat) : Int))]) (S' := [ii (pl : Int), ii ((pl + 1 + k : Nat) : Int), ii (pl : Int), ii 2, .ref 9]) dm_X8_addText_52 rfl rfl rfl rfl ?_
              refine y_isub (a := ((pl + 1 + k : Nat) : Int)) (b := (pl : Int)) dm_X8_addText_53 (pc' := 54) rfl ?_
              refine me0 (pc' := 55) (S' := [ii 1, ii (((pl + 1 + k : Nat) : Int) - (pl : Int)), ii (pl : Int), ii 2, .ref 9]) dm_X8_addText_54 rfl rfl rfl rfl ?_
              refine y_isub (a := ((pl + 1 + k : Nat) : Int) - (pl : Int)) (b := 1) dm_X8_addText_55 (pc' := 56) rfl ?_
              refine y_i2l (a := (((pl + 1 + k : Nat) : Int) - (pl : Int)) - 1) dm_X8_addText_56 (pc' := 57) rfl (by omega) (by omega) ?_
              refine pg_st (S' := [.long (Int64.ofInt ((k : Nat) : Int)), ii (pl : Int), ii 2, .ref 9]) (congrArg (fun z => Value.long z :: [ii (pl : Int), ii 2, .ref 9]) (congrArg Int64.ofInt (by omega))) ?_
              refine me1 (pc' := 58) (L' := [(0, .ref 9), (1, ii (pl : Int)), (2, ii ((pl + 1 + k : Nat) : Int))]) (S' := [ii ((pl + 1 + k : Nat) : Int), .long (Int64.ofInt ((k : Nat) : Int)), ii (pl : Int), ii 2, .ref 9]) dm_X8_addText_57 rfl rfl rfl rfl ?_
              refine me0 (pc' := 59) (S' := [ii 1, ii ((pl + 1 + k : Nat) : Int), .long (Int64.ofInt ((k : Nat) : Int)), ii (pl : Int), ii 2, .ref 9]) dm_X8_addText_58 rfl rfl rfl rfl ?_
              refine y_iadd (a := ((pl + 1 + k : Nat) : Int)) (b := 1) dm_X8_addText_59 (pc' := 60) rfl ?_
              refine pg_st (S' := [ii ((pl + 1 + k + 1 : Nat) : Int), .long (Int64.ofInt ((k : Nat) : Int)), ii (pl : Int), ii 2, .ref 9]) (congrArg (fun z => ii z :: [.long (Int64.ofInt ((k : Nat) : Int)), ii (pl : Int), ii 2, .ref 9]) (by omega)) ?_
              refine x_cn (pc' := 63) (rest := []) dm_X8_addText_60 rfl (g_inv (As := [ii 2, ii (pl : Int), .long (Int64.ofInt ((k : Nat) : Int)), ii ((pl + 1 + k + 1 : Nat) : Int)]) (S := []) h9 rfl rfl rfl (by decide)) rfl rfl rfl (x_addT (so := 2) (pl := (pl : Int)) (en := ((pl + 1 + k + 1 : Nat) : Int)) (da := Int64.ofInt ((k : Nat) : Int)) (by omega) hT hr) ?_
              rintro h2 ⟨hT2, hF2⟩
              refine me0 (pc' := 64) (S' := [ii 1]) dm_X8_addText_63 rfl rfl rfl rfl ?_
              refine y_ret (r := some (ii 1)) dm_X8_addText_64 rfl rfl rfl ?_
              refine ⟨_, rfl, zt (by rw [hn]; omega), ?_⟩
              rw [hn, if_pos (by omega)]
              exact ⟨hT2, hF2⟩
            · refine me0 (pc' := 47) (S' := [ii 0]) dm_X8_addText_46 rfl rfl rfl rfl ?_
              refine y_ret (r := some (ii 0)) dm_X8_addText_47 rfl rfl rfl ?_
              refine ⟨_, rfl, zf (by rw [hn]; omega), ?_⟩
              rw [hn, if_neg (by omega)]
        · replace hb4 := dT hb4
          have hin : pl + 1 + k < ln := Classical.byContradiction fun z => by have z2 := byA_out (bf := bf) (Nat.le_of_not_lt z); omega
          have hby := byA_in (bf := bf) hin
          refine y_iinc (pc' := 26) (L' := [(2, ii (((pl + 1 + k : Nat) : Int) + 1)), (0, .ref 9), (1, ii (pl : Int))]) dm_X8_addText_23 (y_incp (a := ((pl + 1 + k : Nat) : Int)) (c := 1) rfl rfl (by decide)) rfl ?_
          refine me2 (pc' := 4) (S' := []) dm_X8_addText_26 rfl rfl rfl ?_
          exact pg_sub (L := [(0, .ref 9), (1, ii (pl : Int)), (2, ii ((pl + 1 + (k + 1) : Nat) : Int))]) rfl rfl rfl (ih4 (60 - (k + 1)) (by omega) (k + 1) rfl (by omega) (fun j h1 h2 => by by_cases z : j = pl + 1 + k; (rw [z]; exact ⟨hin, decide_eq_true (by rw [← hby]; exact ⟨by omega, by omega, by omega⟩)⟩); exact hrun j h1 (by omega)))
  exact pg_sub (L := [(0, .ref 9), (1, ii (pl : Int)), (2, ii ((pl + 1 + 0 : Nat) : Int))]) rfl rfl rfl (lp4 _ 0 rfl (by decide) (fun j h1 h2 => absurd h2 (by omega)))
