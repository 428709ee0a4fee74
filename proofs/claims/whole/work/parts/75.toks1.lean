/-- the object Tokens and its arrays -/
def TK (h : mj_H) (mk : Nat) (le_ : Int) (ln : Nat) (gd : Bool) (sf pf bf : Nat → Int) (df : Nat → Int64) : Prop := h[9]? = some (cO 8 [.ref 10, .ref 11, .ref 12, ii (mk : Int), ii le_, .ref 3, .ref 4, ii (ln : Int), zz gd]) ∧ h[10]? = some (cI 201 sf) ∧ h[11]? = some (cI 201 pf) ∧ h[12]? = some (cJ 201 df) ∧ h[3]? = some (cI 200 bf) ∧ mk ≤ 201 ∧ ln ≤ 200
/-- the sort of a token; behind the last, that of the end -/
def tokS (mk : Nat) (sf : Nat → Int) (i : Int) : Int := if 0 ≤ i ∧ i < (mk : Int) then sf i.toNat else 0
set_option maxRecDepth 20000 in
theorem pm_X8_byteAt : mj_mmof pg_ms 19 = some ((⟨"ArrayCalculator$Tokens", "byteAt", "(I)I"⟩, prog_10_method_10_code, 2, (Option.some Jvm.ClassFile.FieldType.int)), 8, false, mj_dec prog_10_method_10_code) := rfl
theorem dm_X8_byteAt_0 : mj_dec prog_10_method_10_code 0 = some (.iload_n 1, 1) := by decide +kernel
theorem dm_X8_byteAt_1 : mj_dec prog_10_method_10_code 1 = some (.ifCond .lt 20, 3) := by decide +kernel
theorem dm_X8_byteAt_4 : mj_dec prog_10_method_10_code 4 = some (.iload_n 1, 1) := by decide +kernel
theorem dm_X8_byteAt_5 : mj_dec prog_10_method_10_code 5 = some (.aload_n 0, 1) := by decide +kernel
theorem dm_X8_byteAt_6 : mj_dec prog_10_method_10_code 6 = some (.getfield 35, 3) := by decide +kernel
theorem dm_X8_byteAt_9 : mj_dec prog_10_method_10_code 9 = some (.if_icmp .ge 12, 3) := by decide +kernel
theorem dm_X8_byteAt_12 : mj_dec prog_10_method_10_code 12 = some (.aload_n 0, 1) := by decide +kernel
theorem dm_X8_byteAt_13 : mj_dec prog_10_method_10_code 13 = some (.getfield 22, 3) := by decide +kernel
theorem dm_X8_byteAt_16 : mj_dec prog_10_method_10_code 16 = some (.iload_n 1, 1) := by decide +kernel
theorem dm_X8_byteAt_17 : mj_dec prog_10_method_10_code 17 = some (.iaload, 1) := by decide +kernel
theorem dm_X8_byteAt_18 : mj_dec prog_10_method_10_code 18 = some (.goto 4, 3) := by decide +kernel
theorem dm_X8_byteAt_21 : mj_dec prog_10_method_10_code 21 = some (.iconst (-1), 1) := by decide +kernel
theorem dm_X8_byteAt_22 : mj_dec prog_10_method_10_code 22 = some (.ireturn, 1) := by decide +kernel
theorem x_byteAtT {xt : mj_X} {d mk ln : Nat} {le_ : Int} {gd : Bool} {sf pf bf : Nat → Int} {df : Nat → Int64} {h : mj_H} (hd : 1 ≤ d) (hT : TK h mk le_ ln gd sf pf bf df) {i : Int} (hi : -2147483648 ≤ i ∧ i ≤ 2147483647) : pgP xt d 19 [.ref 9, ii i] h (ii (if 0 ≤ i ∧ i < (ln : Int) then bf i.toNat else -1)) := by
  obtain ⟨h9, h10, h11, h12, h3, hmk, hln⟩ := id hT
  refine x_enter pm_X8_byteAt (L0 := [(0, .ref 9), (1, ii i)]) rfl (Nat.le_of_ble_eq_true rfl) (by omega) ?_
  refine me1 (pc' := 1) (L' := [(0, .ref 9), (1, ii i)]) (S' := [ii i]) dm_X8_byteAt_0 rfl rfl rfl rfl ?_
  refine y_1lt (a := i) (t := 21) (pc' := 4) dm_X8_byteAt_1 rfl rfl (by omega) (fun hb1 => ?_) (fun hb1 => ?_)
  · refine me0 (pc' := 22) (S' := [ii (-1)]) dm_X8_byteAt_21 rfl rfl rfl rfl ?_
    refine y_ret (r := some (ii (-1))) dm_X8_byteAt_22 rfl rfl rfl ?_
    refine ⟨congrArg some (n_ii ?_), rfl⟩
    first | rw [if_pos (by omega)] | rw [if_neg (by omega)]
  · refine me1 (pc' := 5) (L' := [(0, .ref 9), (1, ii i)]) (S' := [ii i]) dm_X8_byteAt_4 rfl rfl rfl rfl ?_
    refine me1 (pc' := 6) (L' := [(0, .ref 9), (1, ii i)]) (S' := [.ref 9, ii i]) dm_X8_byteAt_5 rfl rfl rfl rfl ?_
    refine me3 (pc' := 9) (S' := [ii (ln : Int), ii i]) dm_X8_byteAt_6 (g_get (v := ii (ln : Int)) h9 rfl rfl (by decide)) rfl rfl rfl ?_
    refine y_2ge (a := i) (b := (ln : Int)) (t := 21) (pc' := 12) dm_X8_byteAt_9 rfl rfl (by omega) (fun hb2 => ?_) (fun hb2 => ?_)
    · refine me0 (pc' := 22) (S' := [ii (-1)]) dm_X8_byteAt_21 rfl rfl rfl rfl ?_
      refine y_ret (r := some (ii (-1))) dm_X8_byteAt_22 rfl rfl rfl ?_
      refine ⟨congrArg some (n_ii ?_), rfl⟩
      first | rw [if_pos (by omega)] | rw [if_neg (by omega)]
    · refine me1 (pc' := 13) (L' := [(0, .ref 9), (1, ii i)]) (S' := [.ref 9]) dm_X8_byteAt_12 rfl rfl rfl rfl ?_
      refine me3 (pc' := 16) (S' := [.ref 3]) dm_X8_byteAt_13 (g_get (v := .ref 3) h9 rfl rfl (by decide)) rfl rfl rfl ?_
      refine me1 (pc' := 17) (L' := [(0, .ref 9), (1, ii i)]) (S' := [ii i, .ref 3]) dm_X8_byteAt_16 rfl rfl rfl rfl ?_
      refine me3 (pc' := 18) (S' := [ii (bf i.toNat)]) dm_X8_byteAt_17 (yh_iald (v := bf i.toNat) h3 (by omega) (by omega) (by omega) (by decide) rfl) rfl rfl rfl ?_
      refine me2 (pc' := 22) (S' := [ii (bf i.toNat)]) dm_X8_byteAt_18 rfl rfl rfl ?_
      refine y_ret (r := some (ii (bf i.toNat))) dm_X8_byteAt_22 rfl rfl rfl ?_
      refine ⟨congrArg some (n_ii ?_), rfl⟩
      first | rw [if_pos (by omega)] | rw [if_neg (by omega)]
set_option maxRecDepth 20000 in
theorem pm_X8_sortAt : mj_mmof pg_ms 20 = some ((⟨"ArrayCalculator$Tokens", "sortAt", "(I)I"⟩, prog_10_method_4_code, 2, (Option.some Jvm.ClassFile.FieldType.int)), 8, false, mj_dec prog_10_method_4_code) := rfl
theorem dm_X8_sortAt_0 : mj_dec prog_10_method_4_code 0 = some (.iload_n 1, 1) := by decide +kernel
theorem dm_X8_sortAt_1 : mj_dec prog_10_method_4_code 1 = some (.ifCond .lt 20, 3) := by decide +kernel
theorem dm_X8_sortAt_4 : mj_dec prog_10_method_4_code 4 = some (.iload_n 1, 1) := by decide +kernel
theorem dm_X8_sortAt_5 : mj_dec prog_10_method_4_code 5 = some (.aload_n 0, 1) := by decide +kernel
theorem dm_X8_sortAt_6 : mj_dec prog_10_method_4_code 6 = some (.getfield 39, 3) := by decide +kernel
theorem dm_X8_sortAt_9 : mj_dec prog_10_method_4_code 9 = some (.if_icmp .ge 12, 3) := by decide +kernel
theorem dm_X8_sortAt_12 : mj_dec prog_10_method_4_code 12 = some (.aload_n 0, 1) := by decide +kernel
theorem dm_X8_sortAt_13 : mj_dec prog_10_method_4_code 13 = some (.getfield 9, 3) := by decide +kernel
theorem dm_X8_sortAt_16 : mj_dec prog_10_method_4_code 16 = some (.iload_n 1, 1) := by decide +kernel
theorem dm_X8_sortAt_17 : mj_dec prog_10_method_4_code 17 = some (.iaload, 1) := by decide +kernel
theorem dm_X8_sortAt_18 : mj_dec prog_10_method_4_code 18 = some (.goto 4, 3) := by decide +kernel
theorem dm_X8_sortAt_21 : mj_dec prog_10_method_4_code 21 = some (.iconst 0, 1) := by decide +kernel
theorem dm_X8_sortAt_22 : mj_dec prog_10_method_4_code 22 = some (.ireturn, 1) := by decide +kernel
theorem x_sortAtT {xt : mj_X} {d mk ln : Nat} {le_ : Int} {gd : Bool} {sf pf bf : Nat → Int} {df : Nat → Int64} {h : mj_H} (hd : 1 ≤ d) (hT : TK h mk le_ ln gd sf pf bf df) {i : Int} (hi : -2147483648 ≤ i ∧ i ≤ 2147483647) : pgP xt d 20 [.ref 9, ii i] h (ii (tokS mk sf i)) := by
  obtain ⟨h9, h10, h11, h12, h3, hmk, hln⟩ := id hT
  refine x_enter pm_X8_sortAt (L0 := [(0, .ref 9), (1, ii i)]) rfl (Nat.le_of_ble_eq_true rfl) (by omega) ?_
  refine me1 (pc' := 1) (L' := [(0, .ref 9), (1, ii i)]) (S' := [ii i]) dm_X8_sortAt_0 rfl rfl rfl rfl ?_
  refine y_1lt (a := i) (t := 21) (pc' := 4) dm_X8_sortAt_1 rfl rfl (by omega) (fun hb1 => ?_) (fun hb1 => ?_)
  · refine me0 (pc' := 22) (S' := [ii 0]) dm_X8_sortAt_21 rfl rfl rfl rfl ?_
    refine y_ret (r := some (ii 0)) dm_X8_sortAt_22 rfl rfl rfl ?_
    refine ⟨congrArg some (n_ii ?_), rfl⟩
    unfold tokS
    first | rw [if_pos (by omega)] | rw [if_neg (by omega)]
  · refine me1 (pc' := 5) (L' := [(0, .ref 9), (1, ii i)]) (S' := [ii i]) dm_X8_sortAt_4 rfl rfl rfl rfl ?_
    refine me1 (pc' := 6) (L' := [(0, .ref 9), (1, ii i)]) (S' := [.ref 9, ii i]) dm_X8_sortAt_5 rfl rfl rfl rfl ?_
    refine me3 (pc' := 9) (S' := [ii (mk : Int), ii i]) dm_X8_sortAt_6 (g_get (v := ii (mk : Int)) h9 rfl rfl (by decide)) rfl rfl rfl ?_
    refine y_2ge (a := i) (b := (mk : Int)) (t := 21) (pc' := 12) dm_X8_sortAt_9 rfl rfl (by omega) (fun hb2 => ?_) (fun hb2 => ?_)
    · refine me0 (pc' := 22) (S' := [ii 0]) dm_X8_sortAt_21 rfl rfl rfl rfl ?_
      refine y_ret (r := some (ii 0)) dm_X8_sortAt_22 rfl rfl rfl ?_
      refine ⟨congrArg some (n_ii ?_), rfl⟩
      unfold tokS
      first | rw [if_pos (by omega)] | rw [if_neg (by omega)]
    · refine me1 (pc' := 13) (L' := [(0, .ref 9), (1, ii i)]) (S' := [.ref 9]) dm_X8_sortAt_12 rfl rfl rfl rfl ?_
      refine me3 (pc' := 16) (S' := [.ref 10]) dm_X8_sortAt_13 (g_get (v := .ref 10) h9 rfl rfl (by decide)) rfl rfl rfl ?_
      refine me1 (pc' := 17) (L' := [(0, .ref 9), (1, ii i)]) (S' := [ii i, .ref 10]) dm_X8_sortAt_16 rfl rfl rfl rfl ?_
      refine me3 (pc' := 18) (S' := [ii (sf i.toNat)]) dm_X8_sortAt_17 (yh_iald (v := sf i.toNat) h10 (by omega) (by omega) (by omega) (by decide) rfl) rfl rfl rfl ?_
      refine me2 (pc' := 22) (S' := [ii (sf i.toNat)]) dm_X8_sortAt_18 rfl rfl rfl ?_
      refine y_ret (r := some (ii (sf i.toNat))) dm_X8_sortAt_22 rfl rfl rfl ?_
      refine ⟨congrArg some (n_ii ?_), rfl⟩
      unfold tokS
      first | rw [if_pos (by omega)] | rw [if_neg (by omega)]
set_option maxRecDepth 20000 in
theorem pm_X8_placeAt : mj_mmof pg_ms 39 = some ((⟨"ArrayCalculator$Tokens", "placeAt", "(I)I"⟩, prog_10_method_5_code, 2, (Option.some Jvm.ClassFile.FieldType.int)), 8, false, mj_dec prog_10_method_5_code) := rfl
theorem dm_X8_placeAt_0 : mj_dec prog_10_method_5_code 0 = some (.iload_n 1, 1) := by decide +kernel
theorem dm_X8_placeAt_1 : mj_dec prog_10_method_5_code 1 = some (.ifCond .lt 20, 3) := by decide +kernel
theorem dm_X8_placeAt_4 : mj_dec prog_10_method_5_code 4 = some (.iload_n 1, 1) := by decide +kernel
theorem dm_X8_placeAt_5 : mj_dec prog_10_method_5_code 5 = some (.aload_n 0, 1) := by decide +kernel
theorem dm_X8_placeAt_6 : mj_dec prog_10_method_5_code 6 = some (.getfield 39, 3) := by decide +kernel
theorem dm_X8_placeAt_9 : mj_dec prog_10_method_5_code 9 = some (.if_icmp .ge 12, 3) := by decide +kernel
theorem dm_X8_placeAt_12 : mj_dec prog_10_method_5_code 12 = some (.aload_n 0, 1) := by decide +kernel
theorem dm_X8_placeAt_13 : mj_dec prog_10_method_5_code 13 = some (.getfield 15, 3) := by decide +kernel
theorem dm_X8_placeAt_16 : mj_dec prog_10_method_5_code 16 = some (.iload_n 1, 1) := by decide +kernel
theorem dm_X8_placeAt_17 : mj_dec prog_10_method_5_code 17 = some (.iaload, 1) := by decide +kernel
theorem dm_X8_placeAt_18 : mj_dec prog_10_method_5_code 18 = some (.goto 7, 3) := by decide +kernel
theorem dm_X8_placeAt_21 : mj_dec prog_10_method_5_code 21 = some (.aload_n 0, 1) := by decide +kernel
theorem dm_X8_placeAt_22 : mj_dec prog_10_method_5_code 22 = some (.getfield 35, 3) := by decide +kernel
theorem dm_X8_placeAt_25 : mj_dec prog_10_method_5_code 25 = some (.ireturn, 1) := by decide +kernel
theorem x_placeAtT {xt : mj_X} {d mk ln : Nat} {le_ : Int} {gd : Bool} {sf pf bf : Nat → Int} {df : Nat → Int64} {h : mj_H} (hd : 1 ≤ d) (hT : TK h mk le_ ln gd sf pf bf df) {i : Int} (hi : -2147483648 ≤ i ∧ i ≤ 2147483647) : pgP xt d 39 [.ref 9, ii i] h (ii (if 0 ≤ i ∧ i < (mk : Int) then pf i.toNat else (ln : Int))) := by
  obtain ⟨h9, h10, h11, h12, h3, hmk, hln⟩ := id hT
  refine x_enter pm_X8_placeAt (L0 := [(0, .ref 9), (1, ii i)]) rfl (Nat.le_of_ble_eq_true rfl) (by omega) ?_
  refine me1 (pc' := 1) (L' := [(0, .ref 9), (1, ii i)]) (S' := [ii i]) dm_X8_placeAt_0 rfl rfl rfl rfl ?_
  refine y_1lt (a := i) (t := 21) (pc' := 4) dm_X8_placeAt_1 rfl rfl (by omega) (fun hb1 => ?_) (fun hb1 => ?_)
  · refine me1 (pc' := 22) (L' := [(0, .ref 9), (1, ii i)]) (S' := [.ref 9]) dm_X8_placeAt_21 rfl rfl rfl rfl ?_
    refine me3 (pc' := 25) (S' := [ii (ln : Int)]) dm_X8_placeAt_22 (g_get (v := ii (ln : Int)) h9 rfl rfl (by decide)) rfl rfl rfl ?_
    refine y_ret (r := some (ii (ln : Int))) dm_X8_placeAt_25 rfl rfl rfl ?_
    refine ⟨congrArg some (n_ii ?_), rfl⟩
    first | rw [if_pos (by omega)] | rw [if_neg (by omega)]
  · refine me1 (pc' := 5) (L' := [(0, .ref 9), (1, ii i)]) (S' := [ii i]) dm_X8_placeAt_4 rfl rfl rfl rfl ?_
    refine me1 (pc' := 6) (L' := [(0, .ref 9), (1, ii i)]) (S' := [.ref 9, ii i]) dm_X8_placeAt_5 rfl rfl rfl rfl ?_
    refine me3 (pc' := 9) (S' := [ii (mk : Int), ii i]) dm_X8_placeAt_6 (g_get (v := ii (mk : Int)) h9 rfl rfl (by decide)) rfl rfl rfl ?_
    refine y_2ge (a := i) (b := (mk : Int)) (t := 21) (pc' := 12) dm_X8_placeAt_9 rfl rfl (by omega) (fun hb2 => ?_) (fun hb2 => ?_)
    · refine me1 (pc' := 22) (L' := [(0, .ref 9), (1, ii i)]) (S' := [.ref 9]) dm_X8_placeAt_21 rfl rfl rfl rfl ?_
      refine me3 (pc' := 25) (S' := [ii (ln : Int)]) dm_X8_placeAt_22 (g_get (v := ii (ln : Int)) h9 rfl rfl (by decide)) rfl rfl rfl ?_
      refine y_ret (r := some (ii (ln : Int))) dm_X8_placeAt_25 rfl rfl rfl ?_
      refine ⟨congrArg some (n_ii ?_), rfl⟩
      first | rw [if_pos (by omega)] | rw [if_neg (by omega)]
    · refine me1 (pc' := 13) (L' := [(0, .ref 9), (1, ii i)]) (S' := [.ref 9]) dm_X8_placeAt_12 rfl rfl rfl rfl ?_
      refine me3 (pc' := 16) (S' := [.ref 11]) dm_X8_placeAt_13 (g_get (v := .ref 11) h9 rfl rfl (by decide)) rfl rfl rfl ?_
      refine me1 (pc' := 17) (L' := [(0, .ref 9), (1, ii i)]) (S' := [ii i, .ref 11]) dm_X8_placeAt_16 rfl rfl rfl rfl ?_
      refine me3 (pc' := 18) (S' := [ii (pf i.toNat)]) dm_X8_placeAt_17 (yh_iald (v := pf i.toNat) h11 (by omega) (by omega) (by omega) (by decide) rfl) rfl rfl rfl ?_
      refine me2 (pc' := 25) (S' := [ii (pf i.toNat)]) dm_X8_placeAt_18 rfl rfl rfl ?_
      refine y_ret (r := some (ii (pf i.toNat))) dm_X8_placeAt_25 rfl rfl rfl ?_
      refine ⟨congrArg some (n_ii ?_), rfl⟩
      first | rw [if_pos (by omega)] | rw [if_neg (by omega)]
set_option maxRecDepth 20000 in
theorem pm_X8_dataAt : mj_mmof pg_ms 30 = some ((⟨"ArrayCalculator$Tokens", "dataAt", "(I)J"⟩, prog_10_method_6_code, 2, (Option.some Jvm.ClassFile.FieldType.long)), 8, false, mj_dec prog_10_method_6_code) := rfl
theorem dm_X8_dataAt_0 : mj_dec prog_10_method_6_code 0 = some (.iload_n 1, 1) := by decide +kernel
theorem dm_X8_dataAt_1 : mj_dec prog_10_method_6_code 1 = some (.ifCond .lt 20, 3) := by decide +kernel
theorem dm_X8_dataAt_4 : mj_dec prog_10_method_6_code 4 = some (.iload_n 1, 1) := by decide +kernel
theorem dm_X8_dataAt_5 : mj_dec prog_10_method_6_code 5 = some (.aload_n 0, 1) := by decide +kernel
theorem dm_X8_dataAt_6 : mj_dec prog_10_method_6_code 6 = some (.getfield 39, 3) := by decide +kernel
theorem dm_X8_dataAt_9 : mj_dec prog_10_method_6_code 9 = some (.if_icmp .ge 12, 3) := by decide +kernel
theorem dm_X8_dataAt_12 : mj_dec prog_10_method_6_code 12 = some (.aload_n 0, 1) := by decide +kernel
theorem dm_X8_dataAt_13 : mj_dec prog_10_method_6_code 13 = some (.getfield 18, 3) := by decide +kernel
theorem dm_X8_dataAt_16 : mj_dec prog_10_method_6_code 16 = some (.iload_n 1, 1) := by decide +kernel
theorem dm_X8_dataAt_17 : mj_dec prog_10_method_6_code 17 = some (.laload, 1) := by decide +kernel
theorem dm_X8_dataAt_18 : mj_dec prog_10_method_6_code 18 = some (.goto 4, 3) := by decide +kernel
theorem dm_X8_dataAt_21 : mj_dec prog_10_method_6_code 21 = some (.lconst 0, 1) := by decide +kernel
theorem dm_X8_dataAt_22 : mj_dec prog_10_method_6_code 22 = some (.lreturn, 1) := by decide +kernel
theorem x_dataAtT {xt : mj_X} {d mk ln : Nat} {le_ : Int} {gd : Bool} {sf pf bf : Nat → Int} {df : Nat → Int64} {h : mj_H} (hd : 1 ≤ d) (hT : TK h mk le_ ln gd sf pf bf df) {i : Int} (hi : -2147483648 ≤ i ∧ i ≤ 2147483647) : pgP xt d 30 [.ref 9, ii i] h (.long (if 0 ≤ i ∧ i < (mk : Int) then df i.toNat else Int64.ofInt 0)) := by
  obtain ⟨h9, h10, h11, h12, h3, hmk, hln⟩ := id hT
  refine x_enter pm_X8_dataAt (L0 := [(0, .ref 9), (1, ii i)]) rfl (Nat.le_of_ble_eq_true rfl) (by omega) ?_
  refine me1 (pc' := 1) (L' := [(0, .ref 9), (1, ii i)]) (S' := [ii i]) dm_X8_dataAt_0 rfl rfl rfl rfl ?_
  refine y_1lt (a := i) (t := 21) (pc' := 4) dm_X8_dataAt_1 rfl rfl (by omega) (fun hb1 => ?_) (fun hb1 => ?_)
  · refine me0 (pc' := 22) (S' := [.long (Int64.ofInt 0)]) dm_X8_dataAt_21 rfl rfl rfl rfl ?_
    refine y_ret (r := some (.long (Int64.ofInt 0))) dm_X8_dataAt_22 rfl rfl rfl ?_
    refine ⟨congrArg some (congrArg Value.long ?_), rfl⟩
    first | rw [if_pos (by omega)] | rw [if_neg (by omega)]
  · refine me1 (pc' := 5) (L' := [(0, .ref 9), (1, ii i)]) (S' := [ii i]) dm_X8_dataAt_4 rfl rfl rfl rfl ?_
    refine me1 (pc' := 6) (L' := [(0, .ref 9), (1, ii i)]) (S' := [.ref 9, ii i]) dm_X8_dataAt_5 rfl rfl rfl rfl ?_
    refine me3 (pc' := 9) (S' := [ii (mk : Int), ii i]) dm_X8_dataAt_6 (g_get (v := ii (mk : Int)) h9 rfl rfl (by decide)) rfl rfl rfl ?_
    refine y_2ge (a := i) (b := (mk : Int)) (t := 21) (pc' := 12) dm_X8_dataAt_9 rfl rfl (by omega) (fun hb2 => ?_) (fun hb2 => ?_)
    · refine me0 (pc' := 22) (S' := [.long (Int64.ofInt 0)]) dm_X8_dataAt_21 rfl rfl rfl rfl ?_
      refine y_ret (r := some (.long (Int64.ofInt 0))) dm_X8_dataAt_22 rfl rfl rfl ?_
      refine ⟨congrArg some (congrArg Value.long ?_), rfl⟩
      first | rw [if_pos (by omega)] | rw [if_neg (by omega)]
    · refine me1 (pc' := 13) (L' := [(0, .ref 9), (1, ii i)]) (S' := [.ref 9]) dm_X8_dataAt_12 rfl rfl rfl rfl ?_
      refine me3 (pc' := 16) (S' := [.ref 12]) dm_X8_dataAt_13 (g_get (v := .ref 12) h9 rfl rfl (by decide)) rfl rfl rfl ?_
      refine me1 (pc' := 17) (L' := [(0, .ref 9), (1, ii i)]) (S' := [ii i, .ref 12]) dm_X8_dataAt_16 rfl rfl rfl rfl ?_
      refine me3 (pc' := 18) (S' := [.long (df i.toNat)]) dm_X8_dataAt_17 (yh_lald (w := df i.toNat) h12 (by omega) (by omega) (by omega) (by decide) rfl) rfl rfl rfl ?_
      refine me2 (pc' := 22) (S' := [.long (df i.toNat)]) dm_X8_dataAt_18 rfl rfl rfl ?_
      refine y_ret (r := some (.long (df i.toNat))) dm_X8_dataAt_22 rfl rfl rfl ?_
      refine ⟨congrArg some (congrArg Value.long ?_), rfl⟩
      first | rw [if_pos (by omega)] | rw [if_neg (by omega)]
set_option maxRecDepth 20000 in
theorem pm_X8_whole : mj_mmof pg_ms 57 = some ((⟨"ArrayCalculator$Tokens", "whole", "()Z"⟩, prog_10_method_3_code, 1, (Option.some Jvm.ClassFile.FieldType.boolean)), 8, false, mj_dec prog_10_method_3_code) := rfl
theorem dm_X8_whole_0 : mj_dec prog_10_method_3_code 0 = some (.aload_n 0, 1) := by decide +kernel
theorem dm_X8_whole_1 : mj_dec prog_10_method_3_code 1 = some (.getfield 45, 3) := by decide +kernel
theorem dm_X8_whole_4 : mj_dec prog_10_method_3_code 4 = some (.ireturn, 1) := by decide +kernel
theorem x_wholeT {xt : mj_X} {d mk ln : Nat} {le_ : Int} {gd : Bool} {sf pf bf : Nat → Int} {df : Nat → Int64} {h : mj_H} (hd : 1 ≤ d) (hT : TK h mk le_ ln gd sf pf bf df) : pgP xt d 57 [.ref 9] h (zz gd) := by
  obtain ⟨h9, h10, h11, h12, h3, hmk, hln⟩ := id hT
  refine x_enter pm_X8_whole (L0 := [(0, .ref 9)]) rfl (Nat.le_of_ble_eq_true rfl) (by omega) ?_
  refine me1 (pc' := 1) (L' := [(0, .ref 9)]) (S' := [.ref 9]) dm_X8_whole_0 rfl rfl rfl rfl ?_
  refine me3 (pc' := 4) (S' := [zz gd]) dm_X8_whole_1 (g_get (v := zz gd) h9 rfl rfl (by decide)) rfl rfl rfl ?_
  refine y_ret (r := some (zz gd)) dm_X8_whole_4 (y_retz _) rfl rfl ?_
  exact ⟨rfl, rfl⟩
set_option maxRecDepth 20000 in
theorem pm_X8_isTextByte : mj_mmof pg_ms 33 = some ((⟨"ArrayCalculator$Tokens", "isTextByte", "(I)Z"⟩, prog_10_method_18_code, 1, (Option.some Jvm.ClassFile.FieldType.boolean)), 8, false, mj_dec prog_10_method_18_code) := rfl
theorem dm_X8_isTextByte_0 : mj_dec prog_10_method_18_code 0 = some (.iload_n 0, 1) := by decide +kernel
theorem dm_X8_isTextByte_1 : mj_dec prog_10_method_18_code 1 = some (.bipush 32, 2) := by decide +kernel
theorem dm_X8_isTextByte_3 : mj_dec prog_10_method_18_code 3 = some (.if_icmp .lt 19, 3) := by decide +kernel
theorem dm_X8_isTextByte_6 : mj_dec prog_10_method_18_code 6 = some (.iload_n 0, 1) := by decide +kernel
theorem dm_X8_isTextByte_7 : mj_dec prog_10_method_18_code 7 = some (.bipush 126, 2) := by decide +kernel
theorem dm_X8_isTextByte_9 : mj_dec prog_10_method_18_code 9 = some (.if_icmp .gt 13, 3) := by decide +kernel
theorem dm_X8_isTextByte_12 : mj_dec prog_10_method_18_code 12 = some (.iload_n 0, 1) := by decide +kernel
theorem dm_X8_isTextByte_13 : mj_dec prog_10_method_18_code 13 = some (.bipush 39, 2) := by decide +kernel
theorem dm_X8_isTextByte_15 : mj_dec prog_10_method_18_code 15 = some (.if_icmp .eq 7, 3) := by decide +kernel
theorem dm_X8_isTextByte_18 : mj_dec prog_10_method_18_code 18 = some (.iconst 1, 1) := by decide +kernel
theorem dm_X8_isTextByte_19 : mj_dec prog_10_method_18_code 19 = some (.goto 4, 3) := by decide +kernel
theorem dm_X8_isTextByte_22 : mj_dec prog_10_method_18_code 22 = some (.iconst 0, 1) := by decide +kernel
theorem dm_X8_isTextByte_23 : mj_dec prog_10_method_18_code 23 = some (.ireturn, 1) := by decide +kernel
theorem x_isTextByteT {xt : mj_X} {d : Nat} {h : mj_H} {c : Int} (hd : 1 ≤ d) (hc : -2147483648 ≤ c ∧ c ≤ 2147483647) : pgP xt d 33 [ii c] h (zz (decide (32 ≤ c ∧ c ≤ 126 ∧ c ≠ 39))) := by
  refine x_enter pm_X8_isTextByte (L0 := [(0, ii c)]) rfl (Nat.le_of_ble_eq_true rfl) (by omega) ?_
  refine me1 (pc' := 1) (L' := [(0, ii c)]) (S' := [ii c]) dm_X8_isTextByte_0 rfl rfl rfl rfl ?_
  refine me0 (pc' := 3) (S' := [ii 32, ii c]) dm_X8_isTextByte_1 rfl rfl rfl rfl ?_
  refine y_2lt (a := c) (b := 32) (t := 22) (pc' := 6) dm_X8_isTextByte_3 rfl rfl (by omega) (fun hb1 => ?_) (fun hb1 => ?_)
  · refine me0 (pc' := 23) (S' := [ii 0]) dm_X8_isTextByte_22 rfl rfl rfl rfl ?_
    refine y_ret (r := some (ii 0)) dm_X8_isTextByte_23 rfl rfl rfl ?_
    exact ⟨congrArg some (zf (by omega)), rfl⟩
  · refine me1 (pc' := 7) (L' := [(0, ii c)]) (S' := [ii c]) dm_X8_isTextByte_6 rfl rfl rfl rfl ?_
    refine me0 (pc' := 9) (S' := [ii 126, ii c]) dm_X8_isTextByte_7 rfl rfl rfl rfl ?_
    refine y_2gt (a := c) (b := 126) (t := 22) (pc' := 12) dm_X8_isTextByte_9 rfl rfl (by omega) (fun hb2 => ?_) (fun hb2 => ?_)
    · refine me0 (pc' := 23) (S' := [ii 0]) dm_X8_isTextByte_22 rfl rfl rfl rfl ?_
      refine y_ret (r := some (ii 0)) dm_X8_isTextByte_23 rfl rfl rfl ?_
      exact ⟨congrArg some (zf (by omega)), rfl⟩
    · refine me1 (pc' := 13) (L' := [(0, ii c)]) (S' := [ii c]) dm_X8_isTextByte_12 rfl rfl rfl rfl ?_
      refine me0 (pc' := 15) (S' := [ii 39, ii c]) dm_X8_isTextByte_13 rfl rfl rfl rfl ?_
      refine y_2eq (a := c) (b := 39) (t := 22) (pc' := 18) dm_X8_isTextByte_15 rfl rfl (by omega) (fun hb3 => ?_) (fun hb3 => ?_)
      · refine me0 (pc' := 23) (S' := [ii 0]) dm_X8_isTextByte_22 rfl rfl rfl rfl ?_
        refine y_ret (r := some (ii 0)) dm_X8_isTextByte_23 rfl rfl rfl ?_
        exact ⟨congrArg some (zf (by omega)), rfl⟩
      · refine me0 (pc' := 19) (S' := [ii 1]) dm_X8_isTextByte_18 rfl rfl rfl rfl ?_
        refine me2 (pc' := 23) (S' := [ii 1]) dm_X8_isTextByte_19 rfl rfl rfl ?_
        refine y_ret (r := some (ii 1)) dm_X8_isTextByte_23 rfl rfl rfl ?_
        exact ⟨congrArg some (zt (by omega)), rfl⟩
set_option maxRecDepth 20000 in
theorem pm_X8_isName : mj_mmof pg_ms 29 = some ((⟨"ArrayCalculator$Tokens", "isName", "(I)Z"⟩, prog_10_method_8_code, 2, (Option.some Jvm.ClassFile.FieldType.boolean)), 8, false, mj_dec prog_10_method_8_code) := rfl
theorem dm_X8_isName_0 : mj_dec prog_10_method_8_code 0 = some (.aload_n 0, 1) := by decide +kernel
theorem dm_X8_isName_1 : mj_dec prog_10_method_8_code 1 = some (.iload_n 1, 1) := by decide +kernel
theorem dm_X8_isName_2 : mj_dec prog_10_method_8_code 2 = some (.invokevirtual 57, 3) := by decide +kernel
theorem dm_X8_isName_5 : mj_dec prog_10_method_8_code 5 = some (.iconst 3, 1) := by decide +kernel
theorem dm_X8_isName_6 : mj_dec prog_10_method_8_code 6 = some (.if_icmp .eq 12, 3) := by decide +kernel
theorem dm_X8_isName_9 : mj_dec prog_10_method_8_code 9 = some (.aload_n 0, 1) := by decide +kernel
theorem dm_X8_isName_10 : mj_dec prog_10_method_8_code 10 = some (.iload_n 1, 1) := by decide +kernel
theorem dm_X8_isName_11 : mj_dec prog_10_method_8_code 11 = some (.invokevirtual 57, 3) := by decide +kernel
theorem dm_X8_isName_14 : mj_dec prog_10_method_8_code 14 = some (.iconst 4, 1) := by decide +kernel
theorem dm_X8_isName_15 : mj_dec prog_10_method_8_code 15 = some (.if_icmp .ne 7, 3) := by decide +kernel
theorem dm_X8_isName_18 : mj_dec prog_10_method_8_code 18 = some (.iconst 1, 1) := by decide +kernel
theorem dm_X8_isName_19 : mj_dec prog_10_method_8_code 19 = some (.goto 4, 3) := by decide +kernel
theorem dm_X8_isName_22 : mj_dec prog_10_method_8_code 22 = some (.iconst 0, 1) := by decide +kernel
theorem dm_X8_isName_23 : mj_dec prog_10_method_8_code 23 = some (.ireturn, 1) := by decide +kernel
theorem x_isNameT {xt : mj_X} {d mk ln : Nat} {le_ : Int} {gd : Bool} {sf pf bf : Nat → Int} {df : Nat → Int64} {h : mj_H} (hd : 2 ≤ d) (hT : TK h mk le_ ln gd sf pf bf df) {i : Int} (hi : -2147483648 ≤ i ∧ i ≤ 2147483647) (hs : -2147483648 ≤ tokS mk sf i ∧ tokS mk sf i ≤ 2147483647) : pgP xt d 29 [.ref 9, ii i] h (zz (decide (tokS mk sf i = 3 ∨ tokS mk sf i = 4))) := by
  obtain ⟨h9, h10, h11, h12, h3, hmk, hln⟩ := id hT
  refine x_enter pm_X8_isName (L0 := [(0, .ref 9), (1, ii i)]) rfl (Nat.le_of_ble_eq_true rfl) (by omega) ?_
  refine me1 (pc' := 1) (L' := [(0, .ref 9), (1, ii i)]) (S' := [.ref 9]) dm_X8_isName_0 rfl rfl rfl rfl ?_
  refine me1 (pc' := 2) (L' := [(0, .ref 9), (1, ii i)]) (S' := [ii i, .ref 9]) dm_X8_isName_1 rfl rfl rfl rfl ?_
  refine x_cp (pc' := 5) (v := ii (tokS mk sf i)) (rest := []) dm_X8_isName_2 rfl (g_inv (As := [ii i]) (S := []) h9 rfl rfl rfl (by decide)) rfl rfl rfl (x_sortAtT (by omega) hT hi) ?_
  refine me0 (pc' := 6) (S' := [ii 3, ii (tokS mk sf i)]) dm_X8_isName_5 rfl rfl rfl rfl ?_
  refine y_2eq (a := tokS mk sf i) (b := 3) (t := 18) (pc' := 9) dm_X8_isName_6 rfl rfl (by omega) (fun hb1 => ?_) (fun hb1 => ?_)
  · refine me0 (pc' := 19) (S' := [ii 1]) dm_X8_isName_18 rfl rfl rfl rfl ?_
    refine me2 (pc' := 23) (S' := [ii 1]) dm_X8_isName_19 rfl rfl rfl ?_
    refine y_ret (r := some (ii 1)) dm_X8_isName_23 rfl rfl rfl ?_
    exact ⟨congrArg some (zt (by omega)), rfl⟩
  · refine me1 (pc' := 10) (L' := [(0, .ref 9), (1, ii i)]) (S' := [.ref 9]) dm_X8_isName_9 rfl rfl rfl rfl ?_
    refine me1 (pc' := 11) (L' := [(0, .ref 9), (1, ii i)]) (S' := [ii i, .ref 9]) dm_X8_isName_10 rfl rfl rfl rfl ?_
    refine x_cp (pc' := 14) (v := ii (tokS mk sf i)) (rest := []) dm_X8_isName_11 rfl (g_inv (As := [ii i]) (S := []) h9 rfl rfl rfl (by decide)) rfl rfl rfl (x_sortAtT (by omega) hT hi) ?_
    refine me0 (pc' := 15) (S' := [ii 4, ii (tokS mk sf i)]) dm_X8_isName_14 rfl rfl rfl rfl ?_
    refine y_2ne (a := tokS mk sf i) (b := 4) (t := 22) (pc' := 18) dm_X8_isName_15 rfl rfl (by omega) (fun hb2 => ?_) (fun hb2 => ?_)
    · refine me0 (pc' := 23) (S' := [ii 0]) dm_X8_isName_22 rfl rfl rfl rfl ?_
      refine y_ret (r := some (ii 0)) dm_X8_isName_23 rfl rfl rfl ?_
      exact ⟨congrArg some (zf (by omega)), rfl⟩
    · refine me0 (pc' := 19) (S' := [ii 1]) dm_X8_isName_18 rfl rfl rfl rfl ?_
      refine me2 (pc' := 23) (S' := [ii 1]) dm_X8_isName_19 rfl rfl rfl ?_
      refine y_ret (r := some (ii 1)) dm_X8_isName_23 rfl rfl rfl ?_
      exact ⟨congrArg some (zt (by omega)), rfl⟩
