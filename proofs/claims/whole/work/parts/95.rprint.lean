/-! the reference: what it prints -/
def rpr (s : RS) (l : List Int) : Prop := (0 ≤ s.1 17 ∧ s.1 17 ≤ 400) ∧ l = bl (s.2.2.1 15) (s.1 17).toNat
/-- only what is printed has changed -/
def prR (s t : RS) : Prop := (∀ k, k ≠ 17 → t.1 k = s.1 k) ∧ t.2.1 = s.2.1 ∧ (∀ k, k ≠ 15 → t.2.2.1 k = s.2.2.1 k) ∧ t.2.2.2 = s.2.2.2
theorem prR_rf (s : RS) : prR s s := ⟨fun _ _ => rfl, rfl, fun _ _ => rfl, rfl⟩
theorem prR_tr {s t u : RS} (a : prR s t) (b : prR t u) : prR s u := ⟨fun k hk => (b.1 k hk).trans (a.1 k hk), b.2.1.trans a.2.1, fun k hk => (b.2.2.1 k hk).trans (a.2.2.1 k hk), b.2.2.2.trans a.2.2.2⟩
theorem rv_pr {s t : RS} (hp : prR s t) {d : Nat} : ∀ {hd : Nat} {v : VV}, rv s d hd v → rv t d hd v := by
  induction d with
  | zero => intro hd v h; exact h
  | succ d ih =>
    intro hd v h
    obtain ⟨hw, h1, h2, fr, h4, h5, h6, h7⟩ := h
    obtain ⟨a1, a2, a3, a4⟩ := hp
    refine ⟨hw, by rw [a1 4 (by decide)]; exact h1, by rw [a3 2 (by decide)]; exact h2, fr, by rw [a3 1 (by decide)]; exact h4, by rw [a1 3 (by decide)]; exact h5, fun g k hk => by rw [a4]; exact h6 g k hk, fun g k hk => ?_⟩
    obtain ⟨q, q1, q2, q3⟩ := h7 g k hk
    exact ⟨q, q1, by rw [a4]; exact q2, ih q3⟩
theorem rB_pr {s t : RS} (hp : prR s t) (hB : rB s) : rB t := by
  unfold rB at *
  rw [hp.1 4 (by decide), hp.1 3 (by decide)]
  exact hB
theorem rpr_take {s : RS} {l : List Int} (h : rpr s l) : l.take 400 = l := by
  obtain ⟨h1, rfl⟩ := h
  exact take_bl (by omega)
theorem putR_pr {s : RS} {l : List Int} {c : Int} (h : rpr s l) : prR s (putR s c) ∧ rpr (putR s c) ((l ++ [c]).take 400) := by
  obtain ⟨h1, rfl⟩ := h
  unfold putR
  by_cases z : s.1 17 = 400
  · rw [if_pos z]
    refine ⟨prR_rf s, h1, ?_⟩
    rw [show (s.1 17).toNat = 400 by omega]
    exact take_blA
  · rw [if_neg z]
    refine ⟨⟨fun k hk => up_ne _ _ hk, rfl, fun k hk => up_ne _ _ hk, rfl⟩, ?_, ?_⟩
    · show 0 ≤ s.1 17 + 1 ∧ s.1 17 + 1 ≤ 400
      omega
    · show _ = bl (va_up s.2.2.1 15 (va_up (s.2.2.1 15) (s.1 17).toNat c) 15) (s.1 17 + 1).toNat
      rw [up_eq, show (s.1 17 + 1).toNat = (s.1 17).toNat + 1 by omega, bl_up]
      exact List.take_of_length_le (by rw [List.length_append, bl_len]; show _ + 1 ≤ 400; omega)
theorem l_divP {lf P : Int64} {a b : Nat} (h : lf.toInt = -(a : Int)) (hP : P.toInt = (b : Int)) : (lf / P).toInt = -((a / b : Nat) : Int) := by
  have hb : P ≠ -1 := fun z => by
    have := congrArg Int64.toInt z
    have e : (-1 : Int64).toInt = -1 := by decide
    omega
  rw [Int64.toInt_div_of_ne_right _ _ hb, h, hP, Int.neg_tdiv, Int.tdiv_eq_ediv_of_nonneg (by omega)]
  rfl
theorem pow10 (k : Nat) : 1 ≤ 10 ^ k := Nat.one_le_pow _ _ (by omega)
theorem pow10_le {k : Nat} (h : k ≤ 18) : 10 ^ k ≤ 1000000000000000000 := by
  have := Nat.pow_le_pow_right (n := 10) (by omega) h
  have e : (10 : Nat) ^ 18 = 1000000000000000000 := by decide
  omega
theorem l_mul10 {P : Int64} {k : Nat} (h : P.toInt = ((10 ^ k : Nat) : Int)) (hk : k ≤ 17) : (P * Int64.ofInt 10).toInt = ((10 ^ (k + 1) : Nat) : Int) := by
  have h1 := l_ofI _ h
  have h2 := pow10_le (k := k + 1) (by omega)
  rw [Nat.pow_succ] at h2 ⊢
  rw [h1, ← Int64.ofInt_mul, n_toL (by omega) (by omega)]
  push_cast
  rfl
/-- the divisor for n digits that are left -/
def dvN (n : Nat) : Nat := if n = 0 then 0 else 10 ^ (n - 1)
theorem dvN_s (n : Nat) : dvN (n + 1) / 10 = dvN n := by
  unfold dvN
  rw [if_neg (by omega), Nat.add_sub_cancel]
  cases n with
  | zero => rfl
  | succ n => rw [if_neg (by omega), Nat.add_sub_cancel, Nat.pow_succ, Nat.mul_div_cancel _ (by omega)]
theorem l_dv10 {P : Int64} {a : Nat} (h : P.toInt = (a : Int)) : (P / Int64.ofInt 10).toInt = ((a / 10 : Nat) : Int) := by
  have hb : Int64.ofInt 10 ≠ -1 := by decide
  have e10 : (Int64.ofInt 10).toInt = 10 := by decide
  rw [Int64.toInt_div_of_ne_right _ _ hb, h, e10, Int.tdiv_eq_ediv_of_nonneg (by omega)]
  rfl
theorem nd_of {m k : Nat} (hk : k ≤ 18) (h1 : m / 10 ^ k < 10) (h2 : ∀ j, j < k → 10 ≤ m / 10 ^ j) : nd m = k + 1 := by
  refine nd_eq (by omega) (by rw [Nat.pow_succ, ← Nat.div_div_eq_div_mul]; exact Nat.div_eq_of_lt h1) (fun j j1 j2 => ?_)
  obtain ⟨i, rfl⟩ : ∃ i, j = i + 1 := ⟨j - 1, by omega⟩
  have y := h2 i (by omega)
  rw [Nat.pow_succ, ← Nat.div_div_eq_div_mul]
  exact Nat.ne_of_gt (Nat.div_pos y (by omega))
theorem r_put2 {xt : mj_X} {d : Nat} {pre post : mj_H} {s : RS} {l : List Int} (hm : pre.length = 102) (hd1 : 1 ≤ d) (hP : rpr s l) {c : Int} (hc : -128 ≤ c ∧ c ≤ 127) : pgN xt d 296 [.ref 102, ii c] (rS pre post s) (fun h' => ∃ t, h' = rS pre post t ∧ prR s t ∧ rpr t ((l ++ [c]).take 400)) := by
  refine x_imp (r_put_ hm hd1 hc hP.1) ?_
  rintro r h' ⟨rfl, rfl⟩
  exact ⟨rfl, _, rfl, putR_pr hP⟩
set_option maxRecDepth 20000 in
theorem pm_X12_putNumber : mj_mmof pg_ms 295 = some ((⟨"ArrayCalculatorModel", "putNumber", "(J)V"⟩, prog_14_method_44_code, 7, (Option.none : Option Jvm.ClassFile.FieldType)), 12, false, mj_dec prog_14_method_44_code) := rfl
theorem dm_X12_putNumber_0 : mj_dec prog_14_method_44_code 0 = some (.lload_n 1, 1) := by decide +kernel
theorem dm_X12_putNumber_1 : mj_dec prog_14_method_44_code 1 = some (.lconst 0, 1) := by decide +kernel
theorem dm_X12_putNumber_2 : mj_dec prog_14_method_44_code 2 = some (.lcmp, 1) := by decide +kernel
theorem dm_X12_putNumber_3 : mj_dec prog_14_method_44_code 3 = some (.ifCond .ge 9, 3) := by decide +kernel
theorem dm_X12_putNumber_6 : mj_dec prog_14_method_44_code 6 = some (.aload_n 0, 1) := by decide +kernel
theorem dm_X12_putNumber_7 : mj_dec prog_14_method_44_code 7 = some (.bipush 95, 2) := by decide +kernel
theorem dm_X12_putNumber_9 : mj_dec prog_14_method_44_code 9 = some (.invokevirtual 284, 3) := by decide +kernel
theorem dm_X12_putNumber_12 : mj_dec prog_14_method_44_code 12 = some (.lconst 1, 1) := by decide +kernel
theorem dm_X12_putNumber_13 : mj_dec prog_14_method_44_code 13 = some (.lstore_n 3, 1) := by decide +kernel
theorem dm_X12_putNumber_14 : mj_dec prog_14_method_44_code 14 = some (.lload_n 1, 1) := by decide +kernel
theorem dm_X12_putNumber_15 : mj_dec prog_14_method_44_code 15 = some (.lconst 0, 1) := by decide +kernel
theorem dm_X12_putNumber_16 : mj_dec prog_14_method_44_code 16 = some (.lcmp, 1) := by decide +kernel
theorem dm_X12_putNumber_17 : mj_dec prog_14_method_44_code 17 = some (.ifCond .ge 7, 3) := by decide +kernel
theorem dm_X12_putNumber_20 : mj_dec prog_14_method_44_code 20 = some (.lload_n 1, 1) := by decide +kernel
theorem dm_X12_putNumber_21 : mj_dec prog_14_method_44_code 21 = some (.goto 5, 3) := by decide +kernel
theorem dm_X12_putNumber_24 : mj_dec prog_14_method_44_code 24 = some (.lload_n 1, 1) := by decide +kernel
theorem dm_X12_putNumber_25 : mj_dec prog_14_method_44_code 25 = some (.lneg, 1) := by decide +kernel
theorem dm_X12_putNumber_26 : mj_dec prog_14_method_44_code 26 = some (.lstore 5, 2) := by decide +kernel
theorem dm_X12_putNumber_28 : mj_dec prog_14_method_44_code 28 = some (.lload 5, 2) := by decide +kernel
theorem dm_X12_putNumber_30 : mj_dec prog_14_method_44_code 30 = some (.lload_n 3, 1) := by decide +kernel
theorem dm_X12_putNumber_31 : mj_dec prog_14_method_44_code 31 = some (.ldiv, 1) := by decide +kernel
theorem dm_X12_putNumber_32 : mj_dec prog_14_method_44_code 32 = some (.ldc2_w 287, 3) := by decide +kernel
theorem dm_X12_putNumber_35 : mj_dec prog_14_method_44_code 35 = some (.lcmp, 1) := by decide +kernel
theorem dm_X12_putNumber_36 : mj_dec prog_14_method_44_code 36 = some (.ifCond .gt 12, 3) := by decide +kernel
theorem dm_X12_putNumber_39 : mj_dec prog_14_method_44_code 39 = some (.lload_n 3, 1) := by decide +kernel
theorem dm_X12_putNumber_40 : mj_dec prog_14_method_44_code 40 = some (.ldc2_w 279, 3) := by decide +kernel
theorem dm_X12_putNumber_43 : mj_dec prog_14_method_44_code 43 = some (.lmul, 1) := by decide +kernel
theorem dm_X12_putNumber_44 : mj_dec prog_14_method_44_code 44 = some (.lstore_n 3, 1) := by decide +kernel
theorem dm_X12_putNumber_45 : mj_dec prog_14_method_44_code 45 = some (.goto (-17), 3) := by decide +kernel
theorem dm_X12_putNumber_48 : mj_dec prog_14_method_44_code 48 = some (.lload_n 3, 1) := by decide +kernel
theorem dm_X12_putNumber_49 : mj_dec prog_14_method_44_code 49 = some (.lconst 0, 1) := by decide +kernel
theorem dm_X12_putNumber_50 : mj_dec prog_14_method_44_code 50 = some (.lcmp, 1) := by decide +kernel
theorem dm_X12_putNumber_51 : mj_dec prog_14_method_44_code 51 = some (.ifCond .le 29, 3) := by decide +kernel
theorem dm_X12_putNumber_54 : mj_dec prog_14_method_44_code 54 = some (.aload_n 0, 1) := by decide +kernel
theorem dm_X12_putNumber_55 : mj_dec prog_14_method_44_code 55 = some (.ldc2_w 275, 3) := by decide +kernel
theorem dm_X12_putNumber_58 : mj_dec prog_14_method_44_code 58 = some (.lload 5, 2) := by decide +kernel
theorem dm_X12_putNumber_60 : mj_dec prog_14_method_44_code 60 = some (.lload_n 3, 1) := by decide +kernel
theorem dm_X12_putNumber_61 : mj_dec prog_14_method_44_code 61 = some (.ldiv, 1) := by decide +kernel
theorem dm_X12_putNumber_62 : mj_dec prog_14_method_44_code 62 = some (.ldc2_w 279, 3) := by decide +kernel
theorem dm_X12_putNumber_65 : mj_dec prog_14_method_44_code 65 = some (.lrem, 1) := by decide +kernel
theorem dm_X12_putNumber_66 : mj_dec prog_14_method_44_code 66 = some (.lsub, 1) := by decide +kernel
theorem dm_X12_putNumber_67 : mj_dec prog_14_method_44_code 67 = some (.l2i, 1) := by decide +kernel
theorem dm_X12_putNumber_68 : mj_dec prog_14_method_44_code 68 = some (.invokevirtual 284, 3) := by decide +kernel
theorem dm_X12_putNumber_71 : mj_dec prog_14_method_44_code 71 = some (.lload_n 3, 1) := by decide +kernel
theorem dm_X12_putNumber_72 : mj_dec prog_14_method_44_code 72 = some (.ldc2_w 279, 3) := by decide +kernel
theorem dm_X12_putNumber_75 : mj_dec prog_14_method_44_code 75 = some (.ldiv, 1) := by decide +kernel
theorem dm_X12_putNumber_76 : mj_dec prog_14_method_44_code 76 = some (.lstore_n 3, 1) := by decide +kernel
theorem dm_X12_putNumber_77 : mj_dec prog_14_method_44_code 77 = some (.goto (-29), 3) := by decide +kernel
theorem dm_X12_putNumber_80 : mj_dec prog_14_method_44_code 80 = some (.return_, 1) := by decide +kernel
theorem r_putNumber_ {xt : mj_X} {d : Nat} {pre post : mj_H} {s : RS} {l : List Int} (hm : pre.length = 102) (hd1 : 2 ≤ d) (hP : rpr s l) {x : Int64} : pgN xt d 295 [.ref 102, .long x] (rS pre post s) (fun h' => ∃ t, h' = rS pre post t ∧ prR s t ∧ rpr t ((l ++ numL x).take 400)) := by
  have h0 : (Int64.ofInt 0).toInt = 0 := by decide
  have hm10 : (Int64.ofInt (-10)).toInt = -10 := by decide
  have rx := l_rng x
  refine x_enter pm_X12_putNumber (L0 := [(0, .ref 102), (1, .long x)]) rfl (Nat.le_of_ble_eq_true rfl) (by omega) ?_
  refine me1 (pc' := 1) (L' := [(0, .ref 102), (1, .long x)]) (S' := [.long x]) dm_X12_putNumber_0 rfl rfl rfl rfl ?_
  refine me0 (pc' := 2) (S' := [.long (Int64.ofInt 0), .long x]) dm_X12_putNumber_1 rfl rfl rfl rfl ?_
  refine y_lge (x := x) (y := Int64.ofInt 0) (t := 12) (pc1 := 3) (pc' := 6) dm_X12_putNumber_2 rfl dm_X12_putNumber_3 rfl rfl (fun hb1 => ?_) (fun hb1 => ?_)
  · rw [h0] at hb1
    refine me0 (pc' := 13) (S' := [.long (Int64.ofInt 1)]) dm_X12_putNumber_12 rfl rfl rfl rfl ?_
    refine me1 (pc' := 14) (L' := [(3, .long (Int64.ofInt 1)), (0, .ref 102), (1, .long x)]) (S' := []) dm_X12_putNumber_13 rfl rfl rfl rfl ?_
    refine me1 (pc' := 15) (L' := [(3, .long (Int64.ofInt 1)), (0, .ref 102), (1, .long x)]) (S' := [.long x]) dm_X12_putNumber_14 rfl rfl rfl rfl ?_
    refine me0 (pc' := 16) (S' := [.long (Int64.ofInt 0), .long x]) dm_X12_putNumber_15 rfl rfl rfl rfl ?_
    refine y_lge (x := x) (y := Int64.ofInt 0) (t := 24) (pc1 := 17) (pc' := 20) dm_X12_putNumber_16 rfl dm_X12_putNumber_17 rfl rfl (fun hb2 => ?_) (fun hb2 => ?_)
    · rw [h0] at hb2
      refine me1 (pc' := 25) (L' := [(3, .long (Int64.ofInt 1)), (0, .ref 102), (1, .long x)]) (S' := [.long x]) dm_X12_putNumber_24 rfl rfl rfl rfl ?_
      refine me0 (pc' := 26) (S' := [.long (-x)]) dm_X12_putNumber_25 rfl rfl rfl rfl ?_
      refine me1 (pc' := 28) (L' := [(5, .long (-x)), (3, .long (Int64.ofInt 1)), (0, .ref 102), (1, .long x)]) (S' := []) dm_X12_putNumber_26 rfl rfl rfl rfl ?_
      have lp28 : ∀ (n28 : Nat) (k : Nat) (P : Int64) (rs : Int64) (t : RS), 18 - k = n28 → (k ≤ 18) → (P.toInt = ((10 ^ k : Nat) : Int)) → (∀ j, j < k → 10 ≤ x.toInt.natAbs / 10 ^ j) → (rs.toInt = -(x.toInt.natAbs : Int)) → (prR s t) → (rpr t ((l ++ (if x.toInt < 0 then [95] else [])).take 400)) → pgE xt (d - 1) 12 7 false (Option.none : Option Jvm.ClassFile.FieldType) (mj_dec prog_14_method_44_code) 28 [(0, .ref 102), (1, .long x), (3, .long P), (5, .long rs)] [] (rI pre post t.1 t.2.1 t.2.2.1 t.2.2.2) (fun r h' => r = none ∧ ∃ t, h' = rS pre post t ∧ prR s t ∧ rpr t ((l ++ numL x).take 400)) := by
        intro n28
        induction n28 using Nat.strongRecOn with
        | ind n28 ih28 =>
          intro k P rs t hm28 hk hPP hz hrs hR hPt
          have hp10 := pow10 k
          have hdv := l_divP hrs hPP
          refine me1 (pc' := 30) (L' := [(0, .ref 102), (1, .long x), (3, .long P), (5, .long rs)]) (S' := [.long rs]) dm_X12_putNumber_28 rfl rfl rfl rfl ?_
          refine me1 (pc' := 31) (L' := [(0, .ref 102), (1, .long x), (3, .long P), (5, .long rs)]) (S' := [.long P, .long rs]) dm_X12_putNumber_30 rfl rfl rfl rfl ?_
          refine y_ldiv (x := rs) (y := P) dm_X12_putNumber_31 (pc' := 32) rfl (fun z => by have y := congrArg Int64.toInt z; have e : (0 : Int64).toInt = 0 := rfl; omega) ?_
          refine me3 (pc' := 35) (S' := [.long (Int64.ofInt (-10)), .long (rs / P)]) dm_X12_putNumber_32 rfl rfl rfl rfl ?_
          refine y_lgt (x := rs / P) (y := Int64.ofInt (-10)) (t := 48) (pc1 := 36) (pc' := 39) dm_X12_putNumber_35 rfl dm_X12_putNumber_36 rfl rfl (fun hb3 => ?_) (fun hb3 => ?_)
          · rw [hm10, hdv] at hb3
            have hlt10 : x.toInt.natAbs / 10 ^ k < 10 := by omega
            have hnd : nd x.toInt.natAbs = k + 1 := nd_of hk hlt10 hz
            have lp48 : ∀ (n48 : Nat) (n : Nat) (Q : Int64) (u : RS) (lt : List Int), n = n48 → (n ≤ 19) → (Q.toInt = ((dvN n : Nat) : Int)) → (prR s u) → (rpr u lt) → ((lt ++ rl (dgt x.toInt.natAbs) n).take 400 = (l ++ numL x).take 400) → pgE xt (d - 1) 12 7 false (Option.none : Option Jvm.ClassFile.FieldType) (mj_dec prog_14_method_44_code) 48 [(0, .ref 102), (3, .long Q), (5, .long rs)] [] (rI pre post u.1 u.2.1 u.2.2.1 u.2.2.2) (fun r h' => r = none ∧ ∃ t, h' = rS pre post t ∧ prR s t ∧ rpr t ((l ++ numL x).take 400)) := by
              intro n48
              induction n48 using Nat.strongRecOn with
              | ind n48 ih48 =>
                intro n Q u lt hm48 hn hQ hRu hPt hBL
                refine me1 (pc' := 49) (L' := [(0, .ref 102), (3, .long Q), (5, .long rs)]) (S' := [.long Q]) dm_X12_putNumber_48 rfl rfl rfl rfl ?_
                refine me0 (pc' := 50) (S' := [.long (Int64.ofInt 0), .long Q]) dm_X12_putNumber_49 rfl rfl rfl rfl ?_
                refine y_lle (x := Q) (y := Int64.ofInt 0) (t := 80) (pc1 := 51) (pc' := 54) dm_X12_putNumber_50 rfl dm_X12_putNumber_51 rfl rfl (fun hb4 => ?_) (fun hb4 => ?_)
                · rw [h0] at hb4
                  refine y_ret (r := none) dm_X12_putNumber_80 rfl rfl rfl ?_
                  have hn0 : n = 0 := by by_cases z : n = 0; exact z; (exfalso; have y := pow10 (n - 1); unfold dvN at hQ; rw [if_neg z] at hQ; omega)
                  rw [hn0, show rl (dgt x.toInt.natAbs) 0 = [] from rfl, List.append_nil, rpr_take hPt] at hBL
                  exact ⟨rfl, u, rfl, hRu, by rw [← hBL]; exact hPt⟩
                · rw [h0] at hb4
                  have hn1 : 1 ≤ n := by by_cases z : n = 0; (exfalso; rw [z] at hQ; have e9 : dvN 0 = 0 := rfl; rw [e9] at hQ; omega); omega
                  have hQ1 : Q.toInt = ((10 ^ (n - 1) : Nat) : Int) := by rw [hQ]; unfold dvN; rw [if_neg (by omega)]
                  have hp11 := pow10 (n - 1)
                  have hdq := l_divP hrs hQ1
                  refine me1 (pc' := 55) (L' := [(0, .ref 102), (3, .long Q), (5, .long rs)]) (S' := [.ref 102]) dm_X12_putNumber_54 rfl rfl rfl rfl ?_
                  refine me3 (pc' := 58) (S' := [.long (Int64.ofInt 48), .ref 102]) dm_X12_putNumber_55 rfl rfl rfl rfl ?_
                  refine me1 (pc' := 60) (L' := [(0, .ref 102), (3, .long Q), (5, .long rs)]) (S' := [.long rs, .long (Int64.ofInt 48), .ref 102]) dm_X12_putNumber_58 rfl rfl rfl rfl ?_
                  refine me1 (pc' := 61) (L' := [(0, .ref 102), (3, .long Q), (5, .long rs)]) (S' := [.long Q, .long rs, .long (Int64.ofInt 48), .ref 102]) dm_X12_putNumber_60 rfl rfl rfl rfl ?_
                  refine y_ldiv (x := rs) (y := Q) dm_X12_putNumber_61 (pc' := 62) rfl (fun z => by have y := congrArg Int64.toInt z; have e : (0 : Int64).toInt = 0 := rfl; omega) ?_
                  refine me3 (pc' := 65) (S' := [.long (Int64.ofInt 10), .long (rs / Q), .long (Int64.ofInt 48), .ref 102]) dm_X12_putNumber_62 rfl rfl rfl rfl ?_
                  refine y_lrem (x := rs / Q) (y := Int64.ofInt 10) dm_X12_putNumber_65 (pc' := 66) rfl (by decide) ?_
                  refine me0 (pc' := 67) (S' := [.long ((Int64.ofInt 48) - ((rs / Q) - (rs / Q) / (Int64.ofInt 10) * (Int64.ofInt 10))), .ref 102]) dm_X12_putNumber_66 rfl rfl rfl rfl ?_
                  refine y_l2i (a := dgt x.toInt.natAbs (n - 1)) dm_X12_putNumber_67 (pc' := 68) rfl (n_l2i _ (l_dig hdq)) ?_
                  have hdr : 48 ≤ dgt x.toInt.natAbs (n - 1) ∧ dgt x.toInt.natAbs (n - 1) ≤ 57 := by unfold dgt; omega
                  refine x_cn (pc' := 71) (rest := []) dm_X12_putNumber_68 rfl (q_inv (As := [ii (dgt x.toInt.natAbs (n - 1))]) (S := []) hm rfl rfl rfl) rfl rfl rfl (r_put2 hm (by omega) hPt (by omega)) ?_
                  rintro _ ⟨t3, rfl, hR3, hP3⟩
                  refine me1 (pc' := 72) (L' := [(0, .ref 102), (3, .long Q), (5, .long rs)]) (S' := [.long Q]) dm_X12_putNumber_71 rfl rfl rfl rfl ?_
                  refine me3 (pc' := 75) (S' := [.long (Int64.ofInt 10), .long Q]) dm_X12_putNumber_72 rfl rfl rfl rfl ?_
                  refine y_ldiv (x := Q) (y := Int64.ofInt 10) dm_X12_putNumber_75 (pc' := 76) rfl (by decide) ?_
                  refine me1 (pc' := 77) (L' := [(3, .long (Q / (Int64.ofInt 10))), (0, .ref 102), (5, .long rs)]) (S' := []) dm_X12_putNumber_76 rfl rfl rfl rfl ?_
                  refine me2 (pc' := 48) (S' := []) dm_X12_putNumber_77 rfl rfl rfl ?_
                  exact pg_sub (L := [(0, .ref 102), (3, .long (Q / Int64.ofInt 10)), (5, .long rs)]) rfl rfl rfl (ih48 (n - 1) (by omega) (n - 1) (Q / Int64.ofInt 10) t3 ((lt ++ [dgt x.toInt.natAbs (n - 1)]).take 400) rfl (by omega) (by rw [l_dv10 hQ, show n = n - 1 + 1 by omega, dvN_s, Nat.add_sub_cancel]) (prR_tr hRu hR3) hP3 (by rw [take_tk, List.append_assoc]; rw [show n = n - 1 + 1 by omega, rl_s] at hBL; exact hBL))
            exact pg_sub (L := [(0, .ref 102), (3, .long P), (5, .long rs)]) rfl rfl rfl (lp48 _ (k + 1) P t ((l ++ (if x.toInt < 0 then [95] else [])).take 400) rfl (by omega) (by unfold dvN; rw [if_neg (by omega), Nat.add_sub_cancel]; exact hPP) hR hPt (by rw [take_tk]; unfold numL; rw [hnd, List.append_assoc]))
          · rw [hm10, hdv] at hb3
            have hge : 10 ≤ x.toInt.natAbs / 10 ^ k := by omega
            have hk18 : k + 1 ≤ 18 := by by_cases z : k = 18; (exfalso; rw [z] at hge; have e9 : (10 : Nat) ^ 18 = 1000000000000000000 := (by decide); rw [e9] at hge; omega); omega
            refine me1 (pc' := 40) (L' := [(0, .ref 102), (1, .long x), (3, .long P), (5, .long rs)]) (S' := [.long P]) dm_X12_putNumber_39 rfl rfl rfl rfl ?_
            refine me3 (pc' := 43) (S' := [.long (Int64.ofInt 10), .long P]) dm_X12_putNumber_40 rfl rfl rfl rfl ?_
            refine me0 (pc' := 44) (S' := [.long (P * (Int64.ofInt 10))]) dm_X12_putNumber_43 rfl rfl rfl rfl ?_
            refine me1 (pc' := 45) (L' := [(3, .long (P * (Int64.ofInt 10))), (0, .ref 102), (1, .long x), (5, .long rs)]) (S' := []) dm_X12_putNumber_44 rfl rfl rfl rfl ?_
            refine me2 (pc' := 28) (S' := []) dm_X12_putNumber_45 rfl rfl rfl ?_
            exact pg_sub (L := [(0, .ref 102), (1, .long x), (3, .long (P * Int64.ofInt 10)), (5, .long rs)]) rfl rfl rfl (ih28 (18 - (k + 1)) (by omega) (k + 1) (P * Int64.ofInt 10) rs t rfl hk18 (l_mul10 hPP (by omega)) (fun j hj => by by_cases z : j = k; (rw [z]; exact hge); exact hz j (by omega)) hrs hR hPt)
      exact pg_sub (L := [(0, .ref 102), (1, .long x), (3, .long (Int64.ofInt 1)), (5, .long (-x))]) rfl rfl rfl (lp28 _ 0 (Int64.ofInt 1) (-x) s rfl (by omega) (by decide) (fun j hj => absurd hj (Nat.not_lt_zero j)) (by first | (exfalso; omega) | omega | (rw [l_neg (by omega)]; omega)) (prR_rf s) (by first | (exfalso; omega) | (rw [if_neg (by omega), List.append_nil, rpr_take hP]; exact hP)))
    · rw [h0] at hb2
      refine me1 (pc' := 21) (L' := [(3, .long (Int64.ofInt 1)), (0, .ref 102), (1, .long x)]) (S' := [.long x]) dm_X12_putNumber_20 rfl rfl rfl rfl ?_
      refine me2 (pc' := 26) (S' := [.long x]) dm_X12_putNumber_21 rfl rfl rfl ?_
      refine me1 (pc' := 28) (L' := [(5, .long x), (3, .long (Int64.ofInt 1)), (0, .ref 102), (1, .long x)]) (S' := []) dm_X12_putNumber_26 rfl rfl rfl rfl ?_
      have lp28 : ∀ (n28 : Nat) (k : Nat) (P : Int64) (rs : Int64) (t : RS), 18 - k = n28 → (k ≤ 18) → (P.toInt = ((10 ^ k : Nat) : Int)) → (∀ j, j < k → 10 ≤ x.toInt.natAbs / 10 ^ j) → (rs.toInt = -(x.toInt.natAbs : Int)) → (prR s t) → (rpr t ((l ++ (if x.toInt < 0 then [95] else [])).take 400)) → pgE xt (d - 1) 12 7 false (Option.none : Option Jvm.ClassFile.FieldType) (mj_dec prog_14_method_44_code) 28 [(0, .ref 102), (1, .long x), (3, .long P), (5, .long rs)] [] (rI pre post t.1 t.2.1 t.2.2.1 t.2.2.2) (fun r h' => r = none ∧ ∃ t, h' = rS pre post t ∧ prR s t ∧ rpr t ((l ++ numL x).take 400)) := by
        intro n28
        induction n28 using Nat.strongRecOn with
        | ind n28 ih28 =>
          intro k P rs t hm28 hk hPP hz hrs hR hPt
          have hp10 := pow10 k
          have hdv := l_divP hrs hPP
          refine me1 (pc' := 30) (L' := [(0, .ref 102), (1, .long x), (3, .long P), (5, .long rs)]) (S' := [.long rs]) dm_X12_putNumber_28 rfl rfl rfl rfl ?_
          refine me1 (pc' := 31) (L' := [(0, .ref 102), (1, .long x), (3, .long P), (5, .long rs)]) (S' := [.long P, .long rs]) dm_X12_putNumber_30 rfl rfl rfl rfl ?_
          refine y_ldiv (x := rs) (y := P) dm_X12_putNumber_31 (pc' := 32) rfl (fun z => by have y := congrArg Int64.toInt z; have e : (0 : Int64).toInt = 0 := rfl; omega) ?_
          refine me3 (pc' := 35) (S' := [.long (Int64.ofInt (-10)), .long (rs / P)]) dm_X12_putNumber_32 rfl rfl rfl rfl ?_
          refine y_lgt (x := rs / P) (y := Int64.ofInt (-10)) (t := 48) (pc1 := 36) (pc' := 39) dm_X12_putNumber_35 rfl dm_X12_putNumber_36 rfl rfl (fun hb5 => ?_) (fun hb5 => ?_)
          · rw [hm10, hdv] at hb5
            have hlt10 : x.toInt.natAbs / 10 ^ k < 10 := by omega
            have hnd : nd x.toInt.natAbs = k + 1 := nd_of hk hlt10 hz
            have lp48 : ∀ (n48 : Nat) (n : Nat) (Q : Int64) (u : RS) (lt : List Int), n = n48 → (n ≤ 19) → (Q.toInt = ((dvN n : Nat) : Int)) → (prR s u) → (rpr u lt) → ((lt ++ rl (dgt x.toInt.natAbs) n).take 400 = (l ++ numL x).take 400) → pgE xt (d - 1) 12 7 false (Option.none : Option Jvm.ClassFile.FieldType) (mj_dec prog_14_method_44_code) 48 [(0, .ref 102), (3, .long Q), (5, .long rs)] [] (rI pre post u.1 u.2.1 u.2.2.1 u.2.2.2) (fun r h' => r = none ∧ ∃ t, h' = rS pre post t ∧ prR s t ∧ rpr t ((l ++ numL x).take 400)) := by
              intro n48
              induction n48 using Nat.strongRecOn with
              | ind n48 ih48 =>
                intro n Q u lt hm48 hn hQ hRu hPt hBL
                refine me1 (pc' := 49) (L' := [(0, .ref 102), (3, .long Q), (5, .long rs)]) (S' := [.long Q]) dm_X12_putNumber_48 rfl rfl rfl rfl ?_
                refine me0 (pc' := 50) (S' := [.long (Int64.ofInt 0), .long Q]) dm_X12_putNumber_49 rfl rfl rfl rfl ?_
                refine y_lle (x := Q) (y := Int64.ofInt 0) (t := 80) (pc1 := 51) (pc' := 54) dm_X12_putNumber_50 rfl dm_X12_putNumber_51 rfl rfl (fun hb6 => ?_) (fun hb6 => ?_)
                · rw [h0] at hb6
                  refine y_ret (r := none) dm_X12_putNumber_80 rfl rfl rfl ?_
                  have hn0 : n = 0 := by by_cases z : n = 0; exact z; (exfalso; have y := pow10 (n - 1); unfold dvN at hQ; rw [if_neg z] at hQ; omega)
                  rw [hn0, show rl (dgt x.toInt.natAbs) 0 = [] from rfl, List.append_nil, rpr_take hPt] at hBL
                  exact ⟨rfl, u, rfl, hRu, by rw [← hBL]; exact hPt⟩
                · rw [h0] at hb6
                  have hn1 : 1 ≤ n := by by_cases z : n = 0; (exfalso; rw [z] at hQ; have e9 : dvN 0 = 0 := rfl; rw [e9] at hQ; omega); omega
                  have hQ1 : Q.toInt = ((10 ^ (n - 1) : Nat) : Int) := by rw [hQ]; unfold dvN; rw [if_neg (by omega)]
                  have hp11 := pow10 (n - 1)
                  have hdq := l_divP hrs hQ1
                  refine me1 (pc' := 55) (L' := [(0, .ref 102), (3, .long Q), (5, .long rs)]) (S' := [.ref 102]) dm_X12_putNumber_54 rfl rfl rfl rfl ?_
                  refine me3 (pc' := 58) (S' := [.long (Int64.ofInt 48), .ref 102]) dm_X12_putNumber_55 rfl rfl rfl rfl ?_
                  refine me1 (pc' := 60) (L' := [(0, .ref 102), (3, .long Q), (5, .long rs)]) (S' := [.long rs, .long (Int64.ofInt 48), .ref 102]) dm_X12_putNumber_58 rfl rfl rfl rfl ?_
                  refine me1 (pc' := 61) (L' := [(0, .ref 102), (3, .long Q), (5, .long rs)]) (S' := [.long Q, .long rs, .long (Int64.ofInt 48), .ref 102]) dm_X12_putNumber_60 rfl rfl rfl rfl ?_
                  refine y_ldiv (x := rs) (y := Q) dm_X12_putNumber_61 (pc' := 62) rfl (fun z => by have y := congrArg Int64.toInt z; have e : (0 : Int64).toInt = 0 := rfl; omega) ?_
                  refine me3 (pc' := 65) (S' := [.long (Int64.ofInt 10), .long (rs / Q), .long (Int64.ofInt 48), .ref 102]) dm_X12_putNumber_62 rfl rfl rfl rfl ?_
                  refine y_lrem (x := rs / Q) (y := Int64.ofInt 10) dm_X12_putNumber_65 (pc' := 66) rfl (by decide) ?_
                  refine me0 (pc' := 67) (S' := [.long ((Int64.ofInt 48) - ((rs / Q) - (rs / Q) / (Int64.ofInt 10) * (Int64.ofInt 10))), .ref 102]) dm_X12_putNumber_66 rfl rfl rfl rfl ?_
                  refine y_l2i (a := dgt x.toInt.natAbs (n - 1)) dm_X12_putNumber_67 (pc' := 68) rfl (n_l2i _ (l_dig hdq)) ?_
                  have hdr : 48 ≤ dgt x.toInt.natAbs (n - 1) ∧ dgt x.toInt.natAbs (n - 1) ≤ 57 := by unfold dgt; omega
                  refine x_cn (pc' := 71) (rest := []) dm_X12_putNumber_68 rfl (q_inv (As := [ii (dgt x.toInt.natAbs (n - 1))]) (S := []) hm rfl rfl rfl) rfl rfl rfl (r_put2 hm (by omega) hPt (by omega)) ?_
                  rintro _ ⟨t3, rfl, hR3, hP3⟩
                  refine me1 (pc' := 72) (L' := [(0, .ref 102), (3, .long Q), (5, .long rs)]) (S' := [.long Q]) dm_X12_putNumber_71 rfl rfl rfl rfl ?_
                  refine me3 (pc' := 75) (S' := [.long (Int64.ofInt 10), .long Q]) dm_X12_putNumber_72 rfl rfl rfl rfl ?_
                  refine y_ldiv (x := Q) (y := Int64.ofInt 10) dm_X12_putNumber_75 (pc' := 76) rfl (by decide) ?_
                  refine me1 (pc' := 77) (L' := [(3, .long (Q / (Int64.ofInt 10))), (0, .ref 102), (5, .long rs)]) (S' := []) dm_X12_putNumber_76 rfl rfl rfl rfl ?_
                  refine me2 (pc' := 48) (S' := []) dm_X12_putNumber_77 rfl rfl rfl ?_
                  exact pg_sub (L := [(0, .ref 102), (3, .long (Q / Int64.ofInt 10)), (5, .long rs)]) rfl rfl rfl (ih48 (n - 1) (by omega) (n - 1) (Q / Int64.ofInt 10) t3 ((lt ++ [dgt x.toInt.natAbs (n - 1)]).take 400) rfl (by omega) (by rw [l_dv10 hQ, show n = n - 1 + 1 by omega, dvN_s, Nat.add_sub_cancel]) (prR_tr hRu hR3) hP3 (by rw [take_tk, List.append_assoc]; rw [show n = n - 1 + 1 by omega, rl_s] at hBL; exact hBL))
            exact pg_sub (L := [(0, .ref 102), (3, .long P), (5, .long rs)]) rfl rfl rfl (lp48 _ (k + 1) P t ((l ++ (if x.toInt < 0 then [95] else [])).take 400) rfl (by omega) (by unfold dvN; rw [if_neg (by omega), Nat.add_sub_cancel]; exact hPP) hR hPt (by rw [take_tk]; unfold numL; rw [hnd, List.append_assoc]))
          · rw [hm10, hdv] at hb5
            have hge : 10 ≤ x.toInt.natAbs / 10 ^ k := by omega
            have hk18 : k + 1 ≤ 18 := by by_cases z : k = 18; (exfalso; rw [z] at hge; have e9 : (10 : Nat) ^ 18 = 1000000000000000000 := (by decide); rw [e9] at hge; omega); omega
            refine me1 (pc' := 40) (L' := [(0, .ref 102), (1, .long x), (3, .long P), (5, .long rs)]) (S' := [.long P]) dm_X12_putNumber_39 rfl rfl rfl rfl ?_
            refine me3 (pc' := 43) (S' := [.long (Int64.ofInt 10), .long P]) dm_X12_putNumber_40 rfl rfl rfl rfl ?_
            refine me0 (pc' := 44) (S' := [.long (P * (Int64.ofInt 10))]) dm_X12_putNumber_43 rfl rfl rfl rfl ?_
            refine me1 (pc' := 45) (L' := [(3, .long (P * (Int64.ofInt 10))), (0, .ref 102), (1, .long x), (5, .long rs)]) (S' := []) dm_X12_putNumber_44 rfl rfl rfl rfl ?_
            refine me2 (pc' := 28) (S' := []) dm_X12_putNumber_45 rfl rfl rfl ?_
            exact pg_sub (L := [(0, .ref 102), (1, .long x), (3, .long (P * Int64.ofInt 10)), (5, .long rs)]) rfl rfl rfl (ih28 (18 - (k + 1)) (by omega) (k + 1) (P * Int64.ofInt 10) rs t rfl hk18 (l_mul10 hPP (by omega)) (fun j hj => by by_cases z : j = k; (rw [z]; exact hge); exact hz j (by omega)) hrs hR hPt)
      exact pg_sub (L := [(0, .ref 102), (1, .long x), (3, .long (Int64.ofInt 1)), (5, .long x)]) rfl rfl rfl (lp28 _ 0 (Int64.ofInt 1) x s rfl (by omega) (by decide) (fun j hj => absurd hj (Nat.not_lt_zero j)) (by first | (exfalso; omega) | omega | (rw [l_neg (by omega)]; omega)) (prR_rf s) (by first | (exfalso; omega) | (rw [if_neg (by omega), List.append_nil, rpr_take hP]; exact hP)))
  · rw [h0] at hb1
    refine me1 (pc' := 7) (L' := [(0, .ref 102), (1, .long x)]) (S' := [.ref 102]) dm_X12_putNumber_6 rfl rfl rfl rfl ?_
    refine me0 (pc' := 9) (S' := [ii 95, .ref 102]) dm_X12_putNumber_7 rfl rfl rfl rfl ?_
    refine x_cn (pc' := 12) (rest := []) dm_X12_putNumber_9 rfl (q_inv (As := [ii 95]) (S := []) hm rfl rfl rfl) rfl rfl rfl (r_put2 hm (by omega) hP (by omega)) ?_
    rintro _ ⟨t1, rfl, hR1, hP1⟩
    refine me0 (pc' := 13) (S' := [.long (Int64.ofInt 1)]) dm_X12_putNumber_12 rfl rfl rfl rfl ?_
    refine me1 (pc' := 14) (L' := [(3, .long (Int64.ofInt 1)), (0, .ref 102), (1, .long x)]) (S' := []) dm_X12_putNumber_13 rfl rfl rfl rfl ?_
    refine me1 (pc' := 15) (L' := [(3, .long (Int64.ofInt 1)), (0, .ref 102), (1, .long x)]) (S' := [.long x]) dm_X12_putNumber_14 rfl rfl rfl rfl ?_
    refine me0 (pc' := 16) (S' := [.long (Int64.ofInt 0), .long x]) dm_X12_putNumber_15 rfl rfl rfl rfl ?_
    refine y_lge (x := x) (y := Int64.ofInt 0) (t := 24) (pc1 := 17) (pc' := 20) dm_X12_putNumber_16 rfl dm_X12_putNumber_17 rfl rfl (fun hb7 => ?_) (fun hb7 => ?_)
    · rw [h0] at hb7
      refine me1 (pc' := 25) (L' := [(3, .long (Int64.ofInt 1)), (0, .ref 102), (1, .long x)]) (S' := [.long x]) dm_X12_putNumber_24 rfl rfl rfl rfl ?_
      refine me0 (pc' := 26) (S' := [.long (-x)]) dm_X12_putNumber_25 rfl rfl rfl rfl ?_
      refine me1 (pc' := 28) (L' := [(5, .long (-x)), (3, .long (Int64.ofInt 1)), (0, .ref 102), (1, .long x)]) (S' := []) dm_X12_putNumber_26 rfl rfl rfl rfl ?_
      have lp28 : ∀ (n28 : Nat) (k : Nat) (P : Int64) (rs : Int64) (t : RS), 18 - k = n28 → (k ≤ 18) → (P.toInt = ((10 ^ k : Nat) : Int)) → (∀ j, j < k → 10 ≤ x.toInt.natAbs / 10 ^ j) → (rs.toInt = -(x.toInt.natAbs : Int)) → (prR s t) → (rpr t ((l ++ (if x.toInt < 0 then [95] else [])).take 400)) → pgE xt (d - 1) 12 7 false (Option.none : Option Jvm.ClassFile.FieldType) (mj_dec prog_14_method_44_code) 28 [(0, .ref 102), (1, .long x), (3, .long P), (5, .long rs)] [] (rI pre post t.1 t.2.1 t.2.2.1 t.2.2.2) (fun r h' => r = none ∧ ∃ t, h' = rS pre post t ∧ prR s t ∧ rpr t ((l ++ numL x).take 400)) := by
        intro n28
        induction n28 using Nat.strongRecOn with
        | ind n28 ih28 =>
          intro k P rs t hm28 hk hPP hz hrs hR hPt
          have hp10 := pow10 k
          have hdv := l_divP hrs hPP
          refine me1 (pc' := 30) (L' := [(0, .ref 102), (1, .long x), (3, .long P), (5, .long rs)]) (S' := [.long rs]) dm_X12_putNumber_28 rfl rfl rfl rfl ?_
          refine me1 (pc' := 31) (L' := [(0, .ref 102), (1, .long x), (3, .long P), (5, .long rs)]) (S' := [.long P, .long rs]) dm_X12_putNumber_30 rfl rfl rfl rfl ?_
          refine y_ldiv (x := rs) (y := P) dm_X12_putNumber_31 (pc' := 32) rfl (fun z => by have y := congrArg Int64.toInt z; have e : (0 : Int64).toInt = 0 := rfl; omega) ?_
          refine me3 (pc' := 35) (S' := [.long (Int64.ofInt (-10)), .long (rs / P)]) dm_X12_putNumber_32 rfl rfl rfl rfl ?_
          refine y_lgt (x := rs / P) (y := Int64.ofInt (-10)) (t := 48) (pc1 := 36) (pc' := 39) dm_X12_putNumber_35 rfl dm_X12_putNumber_36 rfl rfl (fun hb8 => ?_) (fun hb8 => ?_)
          · rw [hm10, hdv] at hb8
            have hlt10 : x.toInt.natAbs / 10 ^ k < 10 := by omega
            have hnd : nd x.toInt.natAbs = k + 1 := nd_of hk hlt10 hz
            have lp48 : ∀ (n48 : Nat) (n : Nat) (Q : Int64) (u : RS) (lt : List Int), n = n48 → (n ≤ 19) → (Q.toInt = ((dvN n : Nat) : Int)) → (prR s u) → (rpr u lt) → ((lt ++ rl (dgt x.toInt.natAbs) n).take 400 = (l ++ numL x).take 400) → pgE xt (d - 1) 12 7 false (Option.none : Option Jvm.ClassFile.FieldType) (mj_dec prog_14_method_44_code) 48 [(0, .ref 102), (3, .long Q), (5, .long rs)] [] (rI pre post u.1 u.2.1 u.2.2.1 u.2.2.2) (fun r h' => r = none ∧ ∃ t, h' = rS pre post t ∧ prR s t ∧ rpr t ((l ++ numL x).take 400)) := by
              intro n48
              induction n48 using Nat.strongRecOn with
              | ind n48 ih48 =>
                intro n Q u lt hm48 hn hQ hRu hPt hBL
                refine me1 (pc' := 49) (L' := [(0, .ref 102), (3, .long Q), (5, .long rs)]) (S' := [.long Q]) dm_X12_putNumber_48 rfl rfl rfl rfl ?_
                refine me0 (pc' := 50) (S' := [.long (Int64.ofInt 0), .long Q]) dm_X12_putNumber_49 rfl rfl rfl rfl ?_
                refine y_lle (x := Q) (y := Int64.ofInt 0) (t := 80) (pc1 := 51) (pc' := 54) dm_X12_putNumber_50 rfl dm_X12_putNumber_51 rfl rfl (fun hb9 => ?_) (fun hb9 => ?_)
                · rw [h0] at hb9
                  refine y_ret (r := none) dm_X12_putNumber_80 rfl rfl rfl ?_
                  have hn0 : n = 0 := by by_cases z : n = 0; exact z; (exfalso; have y := pow10 (n - 1); unfold dvN at hQ; rw [if_neg z] at hQ; omega)
                  rw [hn0, show rl (dgt x.toInt.natAbs) 0 = [] from rfl, List.append_nil, rpr_take hPt] at hBL
                  exact ⟨rfl, u, rfl, hRu, by rw [← hBL]; exact hPt⟩
                · rw [h0] at hb9
                  have hn1 : 1 ≤ n := by by_cases z : n = 0; (exfalso; rw [z] at hQ; have e9 : dvN 0 = 0 := rfl; rw [e9] at hQ; omega); omega
                  have hQ1 : Q.toInt = ((10 ^ (n - 1) : Nat) : Int) := by rw [hQ]; unfold dvN; rw [if_neg (by omega)]
                  have hp11 := pow10 (n - 1)
                  have hdq := l_divP hrs hQ1
                  refine me1 (pc' := 55) (L' := [(0, .ref 102), (3, .long Q), (5, .long rs)]) (S' := [.ref 102]) dm_X12_putNumber_54 rfl rfl rfl rfl ?_
                  refine me3 (pc' := 58) (S' := [.long (Int64.ofInt 48), .ref 102]) dm_X12_putNumber_55 rfl rfl rfl rfl ?_
                  refine me1 (pc' := 60) (L' := [(0, .ref 102), (3, .long Q), (5, .long rs)]) (S' := [.long rs, .long (Int64.ofInt 48), .ref 102]) dm_X12_putNumber_58 rfl rfl rfl rfl ?_
                  refine me1 (pc' := 61) (L' := [(0, .ref 102), (3, .long Q), (5, .long rs)]) (S' := [.long Q, .long rs, .long (Int64.ofInt 48), .ref 102]) dm_X12_putNumber_60 rfl rfl rfl rfl ?_
                  refine y_ldiv (x := rs) (y := Q) dm_X12_putNumber_61 (pc' := 62) rfl (fun z => by have y := congrArg Int64.toInt z; have e : (0 : Int64).toInt = 0 := rfl; omega) ?_
                  refine me3 (pc' := 65) (S' := [.long (Int64.ofInt 10), .long (rs / Q), .long (Int64.ofInt 48), .ref 102]) dm_X12_putNumber_62 rfl rfl rfl rfl ?_
                  refine y_lrem (x := rs / Q) (y := Int64.ofInt 10) dm_X12_putNumber_65 (pc' := 66) rfl (by decide) ?_
                  refine me0 (pc' := 67) (S' := [.long ((Int64.ofInt 48) - ((rs / Q) - (rs / Q) / (Int64.ofInt 10) * (Int64.ofInt 10))), .ref 102]) dm_X12_putNumber_66 rfl rfl rfl rfl ?_
                  refine y_l2i (a := dgt x.toInt.natAbs (n - 1)) dm_X12_putNumber_67 (pc' := 68) rfl (n_l2i _ (l_dig hdq)) ?_
                  have hdr : 48 ≤ dgt x.toInt.natAbs (n - 1) ∧ dgt x.toInt.natAbs (n - 1) ≤ 57 := by unfold dgt; omega
                  refine x_cn (pc' := 71) (rest := []) dm_X12_putNumber_68 rfl (q_inv (As := [ii (dgt x.toInt.natAbs (n - 1))]) (S := []) hm rfl rfl rfl) rfl rfl rfl (r_put2 hm (by omega) hPt (by omega)) ?_
                  rintro _ ⟨t3, rfl, hR3, hP3⟩
                  refine me1 (pc' := 72) (L' := [(0, .ref 102), (3, .long Q), (5, .long rs)]) (S' := [.long Q]) dm_X12_putNumber_71 rfl rfl rfl rfl ?_
                  refine me3 (pc' := 75) (S' := [.long (Int64.ofInt 10), .long Q]) dm_X12_putNumber_72 rfl rfl rfl rfl ?_
                  refine y_ldiv (x := Q) (y := Int64.ofInt 10) dm_X12_putNumber_75 (pc' := 76) rfl (by decide) ?_
                  refine me1 (pc' := 77) (L' := [(3, .long (Q / (Int64.ofInt 10))), (0, .ref 102), (5, .long rs)]) (S' := []) dm_X12_putNumber_76 rfl rfl rfl rfl ?_
                  refine me2 (pc' := 48) (S' := []) dm_X12_putNumber_77 rfl rfl rfl ?_
                  exact pg_sub (L := [(0, .ref 102), (3, .long (Q / Int64.ofInt 10)), (5, .long rs)]) rfl rfl rfl (ih48 (n - 1) (by omega) (n - 1) (Q / Int64.ofInt 10) t3 ((lt ++ [dgt x.toInt.natAbs (n - 1)]).take 400) rfl (by omega) (by rw [l_dv10 hQ, show n = n - 1 + 1 by omega, dvN_s, Nat.add_sub_cancel]) (prR_tr hRu hR3) hP3 (by rw [take_tk, List.append_assoc]; rw [show n = n - 1 + 1 by omega, rl_s] at hBL; exact hBL))
            exact pg_sub (L := [(0, .ref 102), (3, .long P), (5, .long rs)]) rfl rfl rfl (lp48 _ (k + 1) P t ((l ++ (if x.toInt < 0 then [95] else [])).take 400) rfl (by omega) (by unfold dvN; rw [if_neg (by omega), Nat.add_sub_cancel]; exact hPP) hR hPt (by rw [take_tk]; unfold numL; rw [hnd, List.append_assoc]))
          · rw [hm10, hdv] at hb8
            have hge : 10 ≤ x.toInt.natAbs / 10 ^ k := by omega
            have hk18 : k + 1 ≤ 18 := by by_cases z : k = 18; (exfalso; rw [z] at hge; have e9 : (10 : Nat) ^ 18 = 1000000000000000000 := (by decide); rw [e9] at hge; omega); omega
            refine me1 (pc' := 40) (L' := [(0, .ref 102), (1, .long x), (3, .long P), (5, .long rs)]) (S' := [.long P]) dm_X12_putNumber_39 rfl rfl rfl rfl ?_
            refine me3 (pc' := 43) (S' := [.long (Int64.ofInt 10), .long P]) dm_X12_putNumber_40 rfl rfl rfl rfl ?_
            refine me0 (pc' := 44) (S' := [.long (P * (Int64.ofInt 10))]) dm_X12_putNumber_43 rfl rfl rfl rfl ?_
            refine me1 (pc' := 45) (L' := [(3, .long (P * (Int64.ofInt 10))), (0, .ref 102), (1, .long x), (5, .long rs)]) (S' := []) dm_X12_putNumber_44 rfl rfl rfl rfl ?_
            refine me2 (pc' := 28) (S' := []) dm_X12_putNumber_45 rfl rfl rfl ?_
            exact pg_sub (L := [(0, .ref 102), (1, .long x), (3, .long (P * Int64.ofInt 10)), (5, .long rs)]) rfl rfl rfl (ih28 (18 - (k + 1)) (by omega) (k + 1) (P * Int64.ofInt 10) rs t rfl hk18 (l_mul10 hPP (by omega)) (fun j hj => by by_cases z : j = k; (rw [z]; exact hge); exact hz j (by omega)) hrs hR hPt)
      exact pg_sub (L := [(0, .ref 102), (1, .long x), (3, .long (Int64.ofInt 1)), (5, .long (-x))]) rfl rfl rfl (lp28 _ 0 (Int64.ofInt 1) (-x) t1 rfl (by omega) (by decide) (fun j hj => absurd hj (Nat.not_lt_zero j)) (by first | (exfalso; omega) | omega | (rw [l_neg (by omega)]; omega)) hR1 (by first | (exfalso; omega) | (rw [if_pos (by omega)]; exact hP1)))
    · rw [h0] at hb7
      refine me1 (pc' := 21) (L' := [(3, .long (Int64.ofInt 1)), (0, .ref 102), (1, .long x)]) (S' := [.long x]) dm_X12_putNumber_20 rfl rfl rfl rfl ?_
      refine me2 (pc' := 26) (S' := [.long x]) dm_X12_putNumber_21 rfl rfl rfl ?_
      refine me1 (pc' := 28) (L' := [(5, .long x), (3, .long (Int64.ofInt 1)), (0, .ref 102), (1, .long x)]) (S' := []) dm_X12_putNumber_26 rfl rfl rfl rfl ?_
      have lp28 : ∀ (n28 : Nat) (k : Nat) (P : Int64) (rs : Int64) (t : RS), 18 - k = n28 → (k ≤ 18) → (P.toInt = ((10 ^ k : Nat) : Int)) → (∀ j, j < k → 10 ≤ x.toInt.natAbs / 10 ^ j) → (rs.toInt = -(x.toInt.natAbs : Int)) → (prR s t) → (rpr t ((l ++ (if x.toInt < 0 then [95] else [])).take 400)) → pgE xt (d - 1) 12 7 false (Option.none : Option Jvm.ClassFile.FieldType) (mj_dec prog_14_method_44_code) 28 [(0, .ref 102), (1, .long x), (3, .long P), (5, .long rs)] [] (rI pre post t.1 t.2.1 t.2.2.1 t.2.2.2) (fun r h' => r = none ∧ ∃ t, h' = rS pre post t ∧ prR s t ∧ rpr t ((l ++ numL x).take 400)) := by
        intro n28
        induction n28 using Nat.strongRecOn with
        | ind n28 ih28 =>
          intro k P rs t hm28 hk hPP hz hrs hR hPt
          have hp10 := pow10 k
          have hdv := l_divP hrs hPP
          refine me1 (pc' := 30) (L' := [(0, .ref 102), (1, .long x), (3, .long P), (5, .long rs)]) (S' := [.long rs]) dm_X12_putNumber_28 rfl rfl rfl rfl ?_
          refine me1 (pc' := 31) (L' := [(0, .ref 102), (1, .long x), (3, .long P), (5, .long rs)]) (S' := [.long P, .long rs]) dm_X12_putNumber_30 rfl rfl rfl rfl ?_
          refine y_ldiv (x := rs) (y := P) dm_X12_putNumber_31 (pc' := 32) rfl (fun z => by have y := congrArg Int64.toInt z; have e : (0 : Int64).toInt = 0 := rfl; omega) ?_
          refine me3 (pc' := 35) (S' := [.long (Int64.ofInt (-10)), .long (rs / P)]) dm_X12_putNumber_32 rfl rfl rfl rfl ?_
          refine y_lgt (x := rs / P) (y := Int64.ofInt (-10)) (t := 48) (pc1 := 36) (pc' := 39) dm_X12_putNumber_35 rfl dm_X12_putNumber_36 rfl rfl (fun hb10 => ?_) (fun hb10 => ?_)
          · rw [hm10, hdv] at hb10
            have hlt10 : x.toInt.natAbs / 10 ^ k < 10 := by omega
            have hnd : nd x.toInt.natAbs = k + 1 := nd_of hk hlt10 hz
            have lp48 : ∀ (n48 : Nat) (n : Nat) (Q : Int64) (u : RS) (lt : List Int), n = n48 → (n ≤ 19) → (Q.toInt = ((dvN n : Nat) : Int)) → (prR s u) → (rpr u lt) → ((lt ++ rl (dgt x.toInt.natAbs) n).take 400 = (l ++ numL x).take 400) → pgE xt (d - 1) 12 7 false (Option.none : Option Jvm.ClassFile.FieldType) (mj_dec prog_14_method_44_code) 48 [(0, .ref 102), (3, .long Q), (5, .long rs)] [] (rI pre post u.1 u.2.1 u.2.2.1 u.2.2.2) (fun r h' => r = none ∧ ∃ t, h' = rS pre post t ∧ prR s t ∧ rpr t ((l ++ numL x).take 400)) := by
              intro n48
              induction n48 using Nat.strongRecOn with
              | ind n48 ih48 =>
                intro n Q u lt hm48 hn hQ hRu hPt hBL
                refine me1 (pc' := 49) (L' := [(0, .ref 102), (3, .long Q), (5, .long rs)]) (S' := [.long Q]) dm_X12_putNumber_48 rfl rfl rfl rfl ?_
                refine me0 (pc' := 50) (S' := [.long (Int64.ofInt 0), .long Q]) dm_X12_putNumber_49 rfl rfl rfl rfl ?_
                refine y_lle (x := Q) (y := Int64.ofInt 0) (t := 80) (pc1 := 51) (pc' := 54) dm_X12_putNumber_50 rfl dm_X12_putNumber_51 rfl rfl (fun hb11 => ?_) (fun hb11 => ?_)
                · rw [h0] at hb11
                  refine y_ret (r := none) dm_X12_putNumber_80 rfl rfl rfl ?_
                  have hn0 : n = 0 := by by_cases z : n = 0; exact z; (exfalso; have y := pow10 (n - 1); unfold dvN at hQ; rw [if_neg z] at hQ; omega)
                  rw [hn0, show rl (dgt x.toInt.natAbs) 0 = [] from rfl, List.append_nil, rpr_take hPt] at hBL
                  exact ⟨rfl, u, rfl, hRu, by rw [← hBL]; exact hPt⟩
                · rw [h0] at hb11
                  have hn1 : 1 ≤ n := by by_cases z : n = 0; (exfalso; rw [z] at hQ; have e9 : dvN 0 = 0 := rfl; rw [e9] at hQ; omega); omega
                  have hQ1 : Q.toInt = ((10 ^ (n - 1) : Nat) : Int) := by rw [hQ]; unfold dvN; rw [if_neg (by omega)]
                  have hp11 := pow10 (n - 1)
                  have hdq := l_divP hrs hQ1
                  refine me1 (pc' := 55) (L' := [(0, .ref 102), (3, .long Q), (5, .long rs)]) (S' := [.ref 102]) dm_X12_putNumber_54 rfl rfl rfl rfl ?_
                  refine me3 (pc' := 58) (S' := [.long (Int64.ofInt 48), .ref 102]) dm_X12_putNumber_55 rfl rfl rfl rfl ?_
                  refine me1 (pc' := 60) (L' := [(0, .ref 102), (3, .long Q), (5, .long rs)]) (S' := [.long rs, .long (Int64.ofInt 48), .ref 102]) dm_X12_putNumber_58 rfl rfl rfl rfl ?_
                  refine me1 (pc' := 61) (L' := [(0, .ref 102), (3, .long Q), (5, .long rs)]) (S' := [.long Q, .long rs, .long (Int64.ofInt 48), .ref 102]) dm_X12_putNumber_60 rfl rfl rfl rfl ?_
                  refine y_ldiv (x := rs) (y := Q) dm_X12_putNumber_61 (pc' := 62) rfl (fun z => by have y := congrArg Int64.toInt z; have e : (0 : Int64).toInt = 0 := rfl; omega) ?_
                  refine me3 (pc' := 65) (S' := [.long (Int64.ofInt 10), .long (rs / Q), .long (Int64.ofInt 48), .ref 102]) dm_X12_putNumber_62 rfl rfl rfl rfl ?_
                  refine y_lrem (x := rs / Q) (y := Int64.ofInt 10) dm_X12_putNumber_65 (pc' := 66) rfl (by decide) ?_
                  refine me0 (pc' := 67) (S' := [.long ((Int64.ofInt 48) - ((rs / Q) - (rs / Q) / (Int64.ofInt 10) * (Int64.ofInt 10))), .ref 102]) dm_X12_putNumber_66 rfl rfl rfl rfl ?_
                  refine y_l2i (a := dgt x.toInt.natAbs (n - 1)) dm_X12_putNumber_67 (pc' := 68) rfl (n_l2i _ (l_dig hdq)) ?_
                  have hdr : 48 ≤ dgt x.toInt.natAbs (n - 1) ∧ dgt x.toInt.natAbs (n - 1) ≤ 57 := by unfold dgt; omega
                  refine x_cn (pc' := 71) (rest := []) dm_X12_putNumber_68 rfl (q_inv (As := [ii (dgt x.toInt.natAbs (n - 1))]) (S := []) hm rfl rfl rfl) rfl rfl rfl (r_put2 hm (by omega) hPt (by omega)) ?_
                  rintro _ ⟨t3, rfl, hR3, hP3⟩
                  refine me1 (pc' := 72) (L' := [(0, .ref 102), (3, .long Q), (5, .long rs)]) (S' := [.long Q]) dm_X12_putNumber_71 rfl rfl rfl rfl ?_
                  refine me3 (pc' := 75) (S' := [.long (Int64.ofInt 10), .long Q]) dm_X12_putNumber_72 rfl rfl rfl rfl ?_
                  refine y_ldiv (x := Q) (y := Int64.ofInt 10) dm_X12_putNumber_75 (pc' := 76) rfl (by decide) ?_
                  refine me1 (pc' := 77) (L' := [(3, .long (Q / (Int64.ofInt 10))), (0, .ref 102), (5, .long rs)]) (S' := []) dm_X12_putNumber_76 rfl rfl rfl rfl ?_
                  refine me2 (pc' := 48) (S' := []) dm_X12_putNumber_77 rfl rfl rfl ?_
                  exact pg_sub (L := [(0, .ref 102), (3, .long (Q / Int64.ofInt 10)), (5, .long rs)]) rfl rfl rfl (ih48 (n - 1) (by omega) (n - 1) (Q / Int64.ofInt 10) t3 ((lt ++ [dgt x.toInt.natAbs (n - 1)]).take 400) rfl (by omega) (by rw [l_dv10 hQ, show n = n - 1 + 1 by omega, dvN_s, Nat.add_sub_cancel]) (prR_tr hRu hR3) hP3 (by rw [take_tk, List.append_assoc]; rw [show n = n - 1 + 1 by omega, rl_s] at hBL; exact hBL))
            exact pg_sub (L := [(0, .ref 102), (3, .long P), (5, .long rs)]) rfl rfl rfl (lp48 _ (k + 1) P t ((l ++ (if x.toInt < 0 then [95] else [])).take 400) rfl (by omega) (by unfold dvN; rw [if_neg (by omega), Nat.add_sub_cancel]; exact hPP) hR hPt (by rw [take_tk]; unfold numL; rw [hnd, List.append_assoc]))
          · rw [hm10, hdv] at hb10
            have hge : 10 ≤ x.toInt.natAbs / 10 ^ k := by omega
            have hk18 : k + 1 ≤ 18 := by by_cases z : k = 18; (exfalso; rw [z] at hge; have e9 : (10 : Nat) ^ 18 = 1000000000000000000 := (by decide); rw [e9] at hge; omega); omega
            refine me1 (pc' := 40) (L' := [(0, .ref 102), (1, .long x), (3, .long P), (5, .long rs)]) (S' := [.long P]) dm_X12_putNumber_39 rfl rfl rfl rfl ?_
            refine me3 (pc' := 43) (S' := [.long (Int64.ofInt 10), .long P]) dm_X12_putNumber_40 rfl rfl rfl rfl ?_
            refine me0 (pc' := 44) (S' := [.long (P * (Int64.ofInt 10))]) dm_X12_putNumber_43 rfl rfl rfl rfl ?_
            refine me1 (pc' := 45) (L' := [(3, .long (P * (Int64.ofInt 10))), (0, .ref 102), (1, .long x), (5, .long rs)]) (S' := []) dm_X12_putNumber_44 rfl rfl rfl rfl ?_
            refine me2 (pc' := 28) (S' := []) dm_X12_putNumber_45 rfl rfl rfl ?_
            exact pg_sub (L := [(0, .ref 102), (1, .long x), (3, .long (P * Int64.ofInt 10)), (5, .long rs)]) rfl rfl rfl (ih28 (18 - (k + 1)) (by omega) (k + 1) (P * Int64.ofInt 10) rs t rfl hk18 (l_mul10 hPP (by omega)) (fun j hj => by by_cases z : j = k; (rw [z]; exact hge); exact hz j (by omega)) hrs hR hPt)
      exact pg_sub (L := [(0, .ref 102), (1, .long x), (3, .long (Int64.ofInt 1)), (5, .long x)]) rfl rfl rfl (lp28 _ 0 (Int64.ofInt 1) x t1 rfl (by omega) (by decide) (fun j hj => absurd hj (Nat.not_lt_zero j)) (by first | (exfalso; omega) | omega | (rw [l_neg (by omega)]; omega)) hR1 (by first | (exfalso; omega) | (rw [if_pos (by omega)]; exact hP1)))
