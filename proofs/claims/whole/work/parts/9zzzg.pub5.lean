/-! the reference: keep, back, point -/
theorem q_zald {pre post : mj_H} {i : Nat → Int} {l : Nat → Int64} {I : Nat → Nat → Int} {J : Nat → Nat → Int64} {T : mj_T} {xt : mj_X} {ini : Bool} {S : List Value} {j v : Int} {k p n : Nat} (hm : pre.length = 102) (hc : ∀ m i l I J, (rC m i l I J)[p]? = some (.inl (3, n, .inl (I k)))) (h0 : 0 ≤ j) (h1 : j < n) (h2 : (n : Int) ≤ 2147483647) (he : I k j.toNat = v) : mj_hp T xt pg_tl 2 ini .baload (ii j :: .ref (102 + p) :: S) (rI pre post i l I J) = some (ii v :: S, rI pre post i l I J) := by
  have := r_zald (T := T) (xt := xt) (tl := pg_tl) (ini := ini) (S := S) (i := fun k => Int32.ofInt (i k)) (l := l) (I := fun k j => Int32.ofInt (I k j)) (J := J) (post := post) (j := Int32.ofInt j) hm (by decide) (hc _ _ _ _ _) rfl (g_ok h0 h1 h2)
  rw [n_cl (by omega) (by omega), he] at this
  exact this
theorem q_zast {pre post : mj_H} {i : Nat → Int} {l : Nat → Int64} {I : Nat → Nat → Int} {J : Nat → Nat → Int64} {T : mj_T} {xt : mj_X} {ini : Bool} {S : List Value} {j : Int} {k p n : Nat} (hm : pre.length = 102) (hc : ∀ m i l I J, (rC m i l I J)[p]? = some (.inl (3, n, .inl (I k)))) (hs : ∀ m i l I J f, (rC m i l I J).set p (.inl (3, n, .inl f)) = rC m i l (va_up I k f) J) (h0 : 0 ≤ j) (h1 : j < n) (h2 : (n : Int) ≤ 2147483647) : mj_hp T xt pg_tl 2 ini .bastore (ii 1 :: ii j :: .ref (102 + p) :: S) (rI pre post i l I J) = some (S, rI pre post i l (va_up I k (va_up (I k) j.toNat 1)) J) := by
  have := r_zastk (T := T) (xt := xt) (tl := pg_tl) (ini := ini) (S := S) (i := fun k => Int32.ofInt (i k)) (l := l) (I := fun k j => Int32.ofInt (I k j)) (J := J) (post := post) (k := k) (j := Int32.ofInt j) (v := Int32.ofInt 1) hm (by decide) (hc _ _ _ _ _) rfl (g_ok h0 h1 h2) (hs _ _ _ _ _ _)
  rw [n_cl (by omega) (by omega), show vp_nar .boolean (Int32.ofInt 1) = Int32.ofInt 1 by decide, n_upd, n_upI] at this
  exact this
/-- i of 40 names kept at k -/
def kpF {α : Type} (f a b : Nat → α) (k i x : Nat) : α := if 80 * k ≤ x ∧ x < 80 * k + i then a (x - 80 * k) else if 80 * k + 40 ≤ x ∧ x < 80 * k + 40 + i then b (x - (80 * k + 40)) else f x
theorem kpF_0 {α : Type} {f a b : Nat → α} {k : Nat} : kpF f a b k 0 = f := funext fun x => by
  unfold kpF
  rw [if_neg (by omega), if_neg (by omega)]
theorem kpF_s {α : Type} {f a b : Nat → α} {k i : Nat} (h : i < 40) : va_up (va_up (kpF f a b k i) (80 * k + i) (a i)) (80 * k + 40 + i) (b i) = kpF f a b k (i + 1) := funext fun x => by
  by_cases h1 : x = 80 * k + 40 + i
  · rw [h1, up_eq]
    unfold kpF
    rw [if_neg (by omega), if_pos (by omega), show 80 * k + 40 + i - (80 * k + 40) = i by omega]
  · rw [up_ne _ _ h1]
    by_cases h2 : x = 80 * k + i
    · rw [h2, up_eq]
      unfold kpF
      rw [if_pos (by omega), show 80 * k + i - 80 * k = i by omega]
    · rw [up_ne _ _ h2]
      unfold kpF
      by_cases h3 : 80 * k ≤ x ∧ x < 80 * k + i
      · rw [if_pos h3, if_pos (by omega)]
      · rw [if_neg h3, if_neg (show ¬ (80 * k ≤ x ∧ x < 80 * k + (i + 1)) by omega)]
        by_cases h4 : 80 * k + 40 ≤ x ∧ x < 80 * k + 40 + i
        · rw [if_pos h4, if_pos (by omega)]
        · rw [if_neg h4, if_neg (by omega)]
def kpS (s : RS) (k i : Nat) : RS := (s.1, s.2.1, va_up (va_up (va_up (va_up s.2.2.1 29 (va_up (s.2.2.1 29) k 1)) 27 (va_up (s.2.2.1 27) k (s.1 23))) 28 (va_up (s.2.2.1 28) k (s.1 24))) 26 (kpF (s.2.2.1 26) (s.2.2.1 21) (s.2.2.1 22) k i), va_up s.2.2.2 25 (kpF (s.2.2.2 25) (s.2.2.2 19) (s.2.2.2 20) k i))
/-- i of 40 names brought back from k -/
def bkF {α : Type} (f a : Nat → α) (b i x : Nat) : α := if x < i then a (b + x) else f x
theorem bkF_0 {α : Type} {f a : Nat → α} {b : Nat} : bkF f a b 0 = f := funext fun x => by unfold bkF; rw [if_neg (by omega)]
theorem bkF_s {α : Type} {f a : Nat → α} {b i : Nat} : va_up (bkF f a b i) i (a (b + i)) = bkF f a b (i + 1) := funext fun x => by
  by_cases h : x = i
  · rw [h, up_eq]; unfold bkF; rw [if_pos (by omega)]
  · rw [up_ne _ _ h]
    unfold bkF
    by_cases h2 : x < i
    · rw [if_pos h2, if_pos (by omega)]
    · rw [if_neg h2, if_neg (by omega)]
def bkS (s : RS) (k i : Nat) : RS := (va_up (va_up s.1 23 (s.2.2.1 27 k)) 24 (s.2.2.1 28 k), s.2.1, va_up (va_up s.2.2.1 21 (bkF (s.2.2.1 21) (s.2.2.1 26) (80 * k) i)) 22 (bkF (s.2.2.1 22) (s.2.2.1 26) (80 * k + 40) i), va_up (va_up s.2.2.2 19 (bkF (s.2.2.2 19) (s.2.2.2 25) (80 * k) i)) 20 (bkF (s.2.2.2 20) (s.2.2.2 25) (80 * k + 40) i))
theorem kpS_0 {s : RS} {k : Nat} : (s.1, s.2.1, va_up (va_up (va_up s.2.2.1 29 (va_up (s.2.2.1 29) k 1)) 27 (va_up (s.2.2.1 27) k (s.1 23))) 28 (va_up (s.2.2.1 28) k (s.1 24)), s.2.2.2) = kpS s k 0 := by
  unfold kpS
  rw [kpF_0, kpF_0, up_self]
  have e : va_up (va_up (va_up s.2.2.1 29 (va_up (s.2.2.1 29) k 1)) 27 (va_up (s.2.2.1 27) k (s.1 23))) 28 (va_up (s.2.2.1 28) k (s.1 24)) 26 = s.2.2.1 26 := by
    rw [up_ne _ _ (by decide), up_ne _ _ (by decide), up_ne _ _ (by decide)]
  have f := up_self (va_up (va_up (va_up s.2.2.1 29 (va_up (s.2.2.1 29) k 1)) 27 (va_up (s.2.2.1 27) k (s.1 23))) 28 (va_up (s.2.2.1 28) k (s.1 24))) 26
  rw [e] at f
  rw [f]
theorem bkS_0 {s : RS} {k : Nat} : (va_up (va_up s.1 23 (s.2.2.1 27 k)) 24 (s.2.2.1 28 k), s.2.1, s.2.2.1, s.2.2.2) = bkS s k 0 := by
  unfold bkS
  rw [bkF_0, bkF_0, bkF_0, bkF_0, up_self, up_self]
  have e : va_up s.2.2.1 21 (s.2.2.1 21) = s.2.2.1 := up_self _ _
  have f : va_up s.2.2.2 19 (s.2.2.2 19) = s.2.2.2 := up_self _ _
  first | rw [up_self, up_self] | rfl
set_option maxRecDepth 20000 in
theorem pm_X12_keep : mj_mmof pg_ms 312 = some ((⟨"ArrayCalculatorModel", "keep", "(I)Z"⟩, prog_14_method_119_code, 3, (Option.some Jvm.ClassFile.FieldType.boolean)), 12, false, mj_dec prog_14_method_119_code) := rfl
theorem dm_X12_keep_0 : mj_dec prog_14_method_119_code 0 = some (.iload_n 1, 1) := by decide +kernel
theorem dm_X12_keep_1 : mj_dec prog_14_method_119_code 1 = some (.ifCond .lt 8, 3) := by decide +kernel
theorem dm_X12_keep_4 : mj_dec prog_14_method_119_code 4 = some (.iload_n 1, 1) := by decide +kernel
theorem dm_X12_keep_5 : mj_dec prog_14_method_119_code 5 = some (.iconst 3, 1) := by decide +kernel
theorem dm_X12_keep_6 : mj_dec prog_14_method_119_code 6 = some (.if_icmp .le 5, 3) := by decide +kernel
theorem dm_X12_keep_9 : mj_dec prog_14_method_119_code 9 = some (.iconst 0, 1) := by decide +kernel
theorem dm_X12_keep_10 : mj_dec prog_14_method_119_code 10 = some (.ireturn, 1) := by decide +kernel
theorem r_keepN {xt : mj_X} {d : Nat} {pre post : mj_H} {s : RS} (hm : pre.length = 102) (hd : 1 ≤ d) {x : Int} (hx : -2147483648 ≤ x ∧ x ≤ 2147483647) (hno : x < 0 ∨ 3 < x) : pgV xt d 312 [.ref 102, ii x] (rS pre post s) (fun y h' => y = ii 0 ∧ h' = rS pre post s) := by
  refine x_enter pm_X12_keep (L0 := [(0, .ref 102), (1, ii x)]) rfl (Nat.le_of_ble_eq_true rfl) (by omega) ?_
  refine me1 (pc' := 1) (L' := [(0, .ref 102), (1, ii x)]) (S' := [ii x]) dm_X12_keep_0 rfl rfl rfl rfl ?_
  refine y_1lt (a := x) (t := 9) (pc' := 4) dm_X12_keep_1 rfl rfl (by omega) (fun hb1 => ?_) (fun hb1 => ?_)
  · refine me0 (pc' := 10) (S' := [ii 0]) dm_X12_keep_9 rfl rfl rfl rfl ?_
    refine y_ret (r := some (ii 0)) dm_X12_keep_10 rfl rfl rfl ?_
    exact ⟨_, rfl, rfl, rfl⟩
  · refine me1 (pc' := 5) (L' := [(0, .ref 102), (1, ii x)]) (S' := [ii x]) dm_X12_keep_4 rfl rfl rfl rfl ?_
    refine me0 (pc' := 6) (S' := [ii 3, ii x]) dm_X12_keep_5 rfl rfl rfl rfl ?_
    refine y_2le (a := x) (b := 3) (t := 11) (pc' := 9) dm_X12_keep_6 rfl rfl (by omega) (fun hb2 => ?_) (fun hb2 => ?_)
    · exfalso; omega
    · refine me0 (pc' := 10) (S' := [ii 0]) dm_X12_keep_9 rfl rfl rfl rfl ?_
      refine y_ret (r := some (ii 0)) dm_X12_keep_10 rfl rfl rfl ?_
      exact ⟨_, rfl, rfl, rfl⟩
set_option maxRecDepth 20000 in
theorem pm_X12_back : mj_mmof pg_ms 313 = some ((⟨"ArrayCalculatorModel", "back", "(I)Z"⟩, prog_14_method_120_code, 3, (Option.some Jvm.ClassFile.FieldType.boolean)), 12, false, mj_dec prog_14_method_120_code) := rfl
theorem dm_X12_back_0 : mj_dec prog_14_method_120_code 0 = some (.iload_n 1, 1) := by decide +kernel
theorem dm_X12_back_1 : mj_dec prog_14_method_120_code 1 = some (.ifCond .lt 17, 3) := by decide +kernel
theorem dm_X12_back_4 : mj_dec prog_14_method_120_code 4 = some (.iload_n 1, 1) := by decide +kernel
theorem dm_X12_back_5 : mj_dec prog_14_method_120_code 5 = some (.iconst 3, 1) := by decide +kernel
theorem dm_X12_back_6 : mj_dec prog_14_method_120_code 6 = some (.if_icmp .gt 12, 3) := by decide +kernel
theorem dm_X12_back_18 : mj_dec prog_14_method_120_code 18 = some (.iconst 0, 1) := by decide +kernel
theorem dm_X12_back_19 : mj_dec prog_14_method_120_code 19 = some (.ireturn, 1) := by decide +kernel
theorem r_backN {xt : mj_X} {d : Nat} {pre post : mj_H} {s : RS} (hm : pre.length = 102) (hd : 1 ≤ d) {x : Int} (hx : -2147483648 ≤ x ∧ x ≤ 2147483647) (hno : x < 0 ∨ 3 < x) : pgV xt d 313 [.ref 102, ii x] (rS pre post s) (fun y h' => y = ii 0 ∧ h' = rS pre post s) := by
  refine x_enter pm_X12_back (L0 := [(0, .ref 102), (1, ii x)]) rfl (Nat.le_of_ble_eq_true rfl) (by omega) ?_
  refine me1 (pc' := 1) (L' := [(0, .ref 102), (1, ii x)]) (S' := [ii x]) dm_X12_back_0 rfl rfl rfl rfl ?_
  refine y_1lt (a := x) (t := 18) (pc' := 4) dm_X12_back_1 rfl rfl (by omega) (fun hb1 => ?_) (fun hb1 => ?_)
  · refine me0 (pc' := 19) (S' := [ii 0]) dm_X12_back_18 rfl rfl rfl rfl ?_
    refine y_ret (r := some (ii 0)) dm_X12_back_19 rfl rfl rfl ?_
    exact ⟨_, rfl, rfl, rfl⟩
  · refine me1 (pc' := 5) (L' := [(0, .ref 102), (1, ii x)]) (S' := [ii x]) dm_X12_back_4 rfl rfl rfl rfl ?_
    refine me0 (pc' := 6) (S' := [ii 3, ii x]) dm_X12_back_5 rfl rfl rfl rfl ?_
    refine y_2gt (a := x) (b := 3) (t := 18) (pc' := 9) dm_X12_back_6 rfl rfl (by omega) (fun hb2 => ?_) (fun hb2 => ?_)
    · refine me0 (pc' := 19) (S' := [ii 0]) dm_X12_back_18 rfl rfl rfl rfl ?_
      refine y_ret (r := some (ii 0)) dm_X12_back_19 rfl rfl rfl ?_
      exact ⟨_, rfl, rfl, rfl⟩
    · exfalso; omega
theorem dm_X12_back_9 : mj_dec prog_14_method_120_code 9 = some (.aload_n 0, 1) := by decide +kernel
theorem dm_X12_back_10 : mj_dec prog_14_method_120_code 10 = some (.getfield 67, 3) := by decide +kernel
theorem dm_X12_back_13 : mj_dec prog_14_method_120_code 13 = some (.iload_n 1, 1) := by decide +kernel
theorem dm_X12_back_14 : mj_dec prog_14_method_120_code 14 = some (.baload, 1) := by decide +kernel
theorem dm_X12_back_15 : mj_dec prog_14_method_120_code 15 = some (.ifCond .ne 5, 3) := by decide +kernel
theorem r_backF {xt : mj_X} {d : Nat} {pre post : mj_H} {s : RS} (hm : pre.length = 102) (hd : 1 ≤ d) {k : Nat} (hk : k < 4) (h29 : s.2.2.1 29 k = 0) : pgV xt d 313 [.ref 102, ii (k : Int)] (rS pre post s) (fun y h' => y = ii 0 ∧ h' = rS pre post s) := by
  refine x_enter pm_X12_back (L0 := [(0, .ref 102), (1, ii (k : Int))]) rfl (Nat.le_of_ble_eq_true rfl) (by omega) ?_
  refine me1 (pc' := 1) (L' := [(0, .ref 102), (1, ii (k : Int))]) (S' := [ii (k : Int)]) dm_X12_back_0 rfl rfl rfl rfl ?_
  refine y_1lt (a := (k : Int)) (t := 18) (pc' := 4) dm_X12_back_1 rfl rfl (by omega) (fun hb1 => ?_) (fun hb1 => ?_)
  · exfalso; omega
  · refine me1 (pc' := 5) (L' := [(0, .ref 102), (1, ii (k : Int))]) (S' := [ii (k : Int)]) dm_X12_back_4 rfl rfl rfl rfl ?_
    refine me0 (pc' := 6) (S' := [ii 3, ii (k : Int)]) dm_X12_back_5 rfl rfl rfl rfl ?_
    refine y_2gt (a := (k : Int)) (b := 3) (t := 18) (pc' := 9) dm_X12_back_6 rfl rfl (by omega) (fun hb2 => ?_) (fun hb2 => ?_)
    · exfalso; omega
    · refine me1 (pc' := 10) (L' := [(0, .ref 102), (1, ii (k : Int))]) (S' := [.ref 102]) dm_X12_back_9 rfl rfl rfl rfl ?_
      refine me3 (pc' := 13) (S' := [.ref (102 + 16)]) dm_X12_back_10 (q_getr hm rfl (fun m i l => rg_29 m i l)) rfl rfl rfl ?_
      refine me1 (pc' := 14) (L' := [(0, .ref 102), (1, ii (k : Int))]) (S' := [ii (k : Int), .ref (102 + 16)]) dm_X12_back_13 rfl rfl rfl rfl ?_
      refine me3 (pc' := 15) (S' := [ii ((s.2.2.1 29) k)]) dm_X12_back_14 (q_zald (v := (s.2.2.1 29) k) (k := 29) (n := 4) hm (fun m i l I J => rc_29 m i l I J) (by omega) (by omega) (by decide) rfl) rfl rfl rfl ?_
      refine y_1ne (a := (s.2.2.1 29) k) (t := 20) (pc' := 18) dm_X12_back_15 rfl rfl (by omega) (fun hb3 => ?_) (fun hb3 => ?_)
      · exfalso; omega
      · refine me0 (pc' := 19) (S' := [ii 0]) dm_X12_back_18 rfl rfl rfl rfl ?_
        refine y_ret (r := some (ii 0)) dm_X12_back_19 rfl rfl rfl ?_
        exact ⟨_, rfl, rfl, rfl⟩
theorem kpS_s {s : RS} {k i : Nat} (h : i < 40) : ((kpS s k i).1, (kpS s k i).2.1, va_up (va_up (kpS s k i).2.2.1 26 (va_up ((kpS s k i).2.2.1 26) (80 * k + i) ((kpS s k i).2.2.1 21 i))) 26 (va_up (va_up ((kpS s k i).2.2.1 26) (80 * k + i) ((kpS s k i).2.2.1 21 i)) (80 * k + 40 + i) ((kpS s k i).2.2.1 22 i)), va_up (va_up (kpS s k i).2.2.2 25 (va_up ((kpS s k i).2.2.2 25) (80 * k + i) ((kpS s k i).2.2.2 19 i))) 25 (va_up (va_up ((kpS s k i).2.2.2 25) (80 * k + i) ((kpS s k i).2.2.2 19 i)) (80 * k + 40 + i) ((kpS s k i).2.2.2 20 i))) = kpS s k (i + 1) := by
  have e26 : (kpS s k i).2.2.1 26 = kpF (s.2.2.1 26) (s.2.2.1 21) (s.2.2.1 22) k i := by simp [kpS, va_up]
  have e21 : (kpS s k i).2.2.1 21 = s.2.2.1 21 := by
    unfold kpS
    show va_up (va_up (va_up (va_up s.2.2.1 29 (va_up (s.2.2.1 29) k 1)) 27 (va_up (s.2.2.1 27) k (s.1 23))) 28 (va_up (s.2.2.1 28) k (s.1 24))) 26 (kpF (s.2.2.1 26) (s.2.2.1 21) (s.2.2.1 22) k i) 21 = _
    rw [up_ne _ _ (by decide), up_ne _ _ (by decide), up_ne _ _ (by decide), up_ne _ _ (by decide)]
  have e22 : (kpS s k i).2.2.1 22 = s.2.2.1 22 := by
    unfold kpS
    show va_up (va_up (va_up (va_up s.2.2.1 29 (va_up (s.2.2.1 29) k 1)) 27 (va_up (s.2.2.1 27) k (s.1 23))) 28 (va_up (s.2.2.1 28) k (s.1 24))) 26 (kpF (s.2.2.1 26) (s.2.2.1 21) (s.2.2.1 22) k i) 22 = _
    rw [up_ne _ _ (by decide), up_ne _ _ (by decide), up_ne _ _ (by decide), up_ne _ _ (by decide)]
  have e25 : (kpS s k i).2.2.2 25 = kpF (s.2.2.2 25) (s.2.2.2 19) (s.2.2.2 20) k i := by simp [kpS, va_up]
  have e19 : (kpS s k i).2.2.2 19 = s.2.2.2 19 := by
    unfold kpS
    show va_up s.2.2.2 25 (kpF (s.2.2.2 25) (s.2.2.2 19) (s.2.2.2 20) k i) 19 = _
    rw [up_ne _ _ (by decide)]
  have e20 : (kpS s k i).2.2.2 20 = s.2.2.2 20 := by
    unfold kpS
    show va_up s.2.2.2 25 (kpF (s.2.2.2 25) (s.2.2.2 19) (s.2.2.2 20) k i) 20 = _
    rw [up_ne _ _ (by decide)]
  rw [e26, e21, e22, e25, e19, e20, kpF_s h, kpF_s h, up_up, up_up]
  unfold kpS
  show (s.1, s.2.1, va_up (va_up (va_up (va_up (va_up s.2.2.1 29 (va_up (s.2.2.1 29) k 1)) 27 (va_up (s.2.2.1 27) k (s.1 23))) 28 (va_up (s.2.2.1 28) k (s.1 24))) 26 (kpF (s.2.2.1 26) (s.2.2.1 21) (s.2.2.1 22) k i)) 26 (kpF (s.2.2.1 26) (s.2.2.1 21) (s.2.2.1 22) k (i + 1)), va_up (va_up s.2.2.2 25 (kpF (s.2.2.2 25) (s.2.2.2 19) (s.2.2.2 20) k i)) 25 (kpF (s.2.2.2 25) (s.2.2.2 19) (s.2.2.2 20) k (i + 1))) = _
  rw [up_up, up_up]
theorem dm_X12_keep_11 : mj_dec prog_14_method_119_code 11 = some (.aload_n 0, 1) := by decide +kernel
theorem dm_X12_keep_12 : mj_dec prog_14_method_119_code 12 = some (.getfield 67, 3) := by decide +kernel
theorem dm_X12_keep_15 : mj_dec prog_14_method_119_code 15 = some (.iload_n 1, 1) := by decide +kernel
theorem dm_X12_keep_16 : mj_dec prog_14_method_119_code 16 = some (.iconst 1, 1) := by decide +kernel
theorem dm_X12_keep_17 : mj_dec prog_14_method_119_code 17 = some (.bastore, 1) := by decide +kernel
theorem dm_X12_keep_18 : mj_dec prog_14_method_119_code 18 = some (.aload_n 0, 1) := by decide +kernel
theorem dm_X12_keep_19 : mj_dec prog_14_method_119_code 19 = some (.getfield 61, 3) := by decide +kernel
theorem dm_X12_keep_22 : mj_dec prog_14_method_119_code 22 = some (.iload_n 1, 1) := by decide +kernel
theorem dm_X12_keep_23 : mj_dec prog_14_method_119_code 23 = some (.aload_n 0, 1) := by decide +kernel
theorem dm_X12_keep_24 : mj_dec prog_14_method_119_code 24 = some (.getfield 357, 3) := by decide +kernel
theorem dm_X12_keep_27 : mj_dec prog_14_method_119_code 27 = some (.iastore, 1) := by decide +kernel
theorem dm_X12_keep_28 : mj_dec prog_14_method_119_code 28 = some (.aload_n 0, 1) := by decide +kernel
theorem dm_X12_keep_29 : mj_dec prog_14_method_119_code 29 = some (.getfield 64, 3) := by decide +kernel
theorem dm_X12_keep_32 : mj_dec prog_14_method_119_code 32 = some (.iload_n 1, 1) := by decide +kernel
theorem dm_X12_keep_33 : mj_dec prog_14_method_119_code 33 = some (.aload_n 0, 1) := by decide +kernel
theorem dm_X12_keep_34 : mj_dec prog_14_method_119_code 34 = some (.getfield 360, 3) := by decide +kernel
theorem dm_X12_keep_37 : mj_dec prog_14_method_119_code 37 = some (.iastore, 1) := by decide +kernel
theorem dm_X12_keep_38 : mj_dec prog_14_method_119_code 38 = some (.iconst 0, 1) := by decide +kernel
theorem dm_X12_keep_39 : mj_dec prog_14_method_119_code 39 = some (.istore_n 2, 1) := by decide +kernel
theorem dm_X12_keep_40 : mj_dec prog_14_method_119_code 40 = some (.iload_n 2, 1) := by decide +kernel
theorem dm_X12_keep_41 : mj_dec prog_14_method_119_code 41 = some (.bipush 40, 2) := by decide +kernel
theorem dm_X12_keep_43 : mj_dec prog_14_method_119_code 43 = some (.if_icmp .ge 83, 3) := by decide +kernel
theorem dm_X12_keep_46 : mj_dec prog_14_method_119_code 46 = some (.aload_n 0, 1) := by decide +kernel
theorem dm_X12_keep_47 : mj_dec prog_14_method_119_code 47 = some (.getfield 55, 3) := by decide +kernel
theorem dm_X12_keep_50 : mj_dec prog_14_method_119_code 50 = some (.bipush 80, 2) := by decide +kernel
theorem dm_X12_keep_52 : mj_dec prog_14_method_119_code 52 = some (.iload_n 1, 1) := by decide +kernel
theorem dm_X12_keep_53 : mj_dec prog_14_method_119_code 53 = some (.imul, 1) := by decide +kernel
theorem dm_X12_keep_54 : mj_dec prog_14_method_119_code 54 = some (.iload_n 2, 1) := by decide +kernel
theorem dm_X12_keep_55 : mj_dec prog_14_method_119_code 55 = some (.iadd, 1) := by decide +kernel
theorem dm_X12_keep_56 : mj_dec prog_14_method_119_code 56 = some (.aload_n 0, 1) := by decide +kernel
theorem dm_X12_keep_57 : mj_dec prog_14_method_119_code 57 = some (.getfield 43, 3) := by decide +kernel
theorem dm_X12_keep_60 : mj_dec prog_14_method_119_code 60 = some (.iload_n 2, 1) := by decide +kernel
theorem dm_X12_keep_61 : mj_dec prog_14_method_119_code 61 = some (.laload, 1) := by decide +kernel
theorem dm_X12_keep_62 : mj_dec prog_14_method_119_code 62 = some (.lastore, 1) := by decide +kernel
theorem dm_X12_keep_63 : mj_dec prog_14_method_119_code 63 = some (.aload_n 0, 1) := by decide +kernel
theorem dm_X12_keep_64 : mj_dec prog_14_method_119_code 64 = some (.getfield 58, 3) := by decide +kernel
theorem dm_X12_keep_67 : mj_dec prog_14_method_119_code 67 = some (.bipush 80, 2) := by decide +kernel
theorem dm_X12_keep_69 : mj_dec prog_14_method_119_code 69 = some (.iload_n 1, 1) := by decide +kernel
theorem dm_X12_keep_70 : mj_dec prog_14_method_119_code 70 = some (.imul, 1) := by decide +kernel
theorem dm_X12_keep_71 : mj_dec prog_14_method_119_code 71 = some (.iload_n 2, 1) := by decide +kernel
theorem dm_X12_keep_72 : mj_dec prog_14_method_119_code 72 = some (.iadd, 1) := by decide +kernel
theorem dm_X12_keep_73 : mj_dec prog_14_method_119_code 73 = some (.aload_n 0, 1) := by decide +kernel
theorem dm_X12_keep_74 : mj_dec prog_14_method_119_code 74 = some (.getfield 49, 3) := by decide +kernel
theorem dm_X12_keep_77 : mj_dec prog_14_method_119_code 77 = some (.iload_n 2, 1) := by decide +kernel
theorem dm_X12_keep_78 : mj_dec prog_14_method_119_code 78 = some (.iaload, 1) := by decide +kernel
theorem dm_X12_keep_79 : mj_dec prog_14_method_119_code 79 = some (.iastore, 1) := by decide +kernel
theorem dm_X12_keep_80 : mj_dec prog_14_method_119_code 80 = some (.aload_n 0, 1) := by decide +kernel
theorem dm_X12_keep_81 : mj_dec prog_14_method_119_code 81 = some (.getfield 55, 3) := by decide +kernel
theorem dm_X12_keep_84 : mj_dec prog_14_method_119_code 84 = some (.bipush 80, 2) := by decide +kernel
theorem dm_X12_keep_86 : mj_dec prog_14_method_119_code 86 = some (.iload_n 1, 1) := by decide +kernel
theorem dm_X12_keep_87 : mj_dec prog_14_method_119_code 87 = some (.imul, 1) := by decide +kernel
theorem dm_X12_keep_88 : mj_dec prog_14_method_119_code 88 = some (.bipush 40, 2) := by decide +kernel
theorem dm_X12_keep_90 : mj_dec prog_14_method_119_code 90 = some (.iadd, 1) := by decide +kernel
theorem dm_X12_keep_91 : mj_dec prog_14_method_119_code 91 = some (.iload_n 2, 1) := by decide +kernel
theorem dm_X12_keep_92 : mj_dec prog_14_method_119_code 92 = some (.iadd, 1) := by decide +kernel
theorem dm_X12_keep_93 : mj_dec prog_14_method_119_code 93 = some (.aload_n 0, 1) := by decide +kernel
theorem dm_X12_keep_94 : mj_dec prog_14_method_119_code 94 = some (.getfield 46, 3) := by decide +kernel
theorem dm_X12_keep_97 : mj_dec prog_14_method_119_code 97 = some (.iload_n 2, 1) := by decide +kernel
theorem dm_X12_keep_98 : mj_dec prog_14_method_119_code 98 = some (.laload, 1) := by decide +kernel
theorem dm_X12_keep_99 : mj_dec prog_14_method_119_code 99 = some (.lastore, 1) := by decide +kernel
theorem dm_X12_keep_100 : mj_dec prog_14_method_119_code 100 = some (.aload_n 0, 1) := by decide +kernel
theorem dm_X12_keep_101 : mj_dec prog_14_method_119_code 101 = some (.getfield 58, 3) := by decide +kernel
theorem dm_X12_keep_104 : mj_dec prog_14_method_119_code 104 = some (.bipush 80, 2) := by decide +kernel
theorem dm_X12_keep_106 : mj_dec prog_14_method_119_code 106 = some (.iload_n 1, 1) := by decide +kernel
theorem dm_X12_keep_107 : mj_dec prog_14_method_119_code 107 = some (.imul, 1) := by decide +kernel
theorem dm_X12_keep_108 : mj_dec prog_14_method_119_code 108 = some (.bipush 40, 2) := by decide +kernel
theorem dm_X12_keep_110 : mj_dec prog_14_method_119_code 110 = some (.iadd, 1) := by decide +kernel
theorem dm_X12_keep_111 : mj_dec prog_14_method_119_code 111 = some (.iload_n 2, 1) := by decide +kernel
theorem dm_X12_keep_112 : mj_dec prog_14_method_119_code 112 = some (.iadd, 1) := by decide +kernel
theorem dm_X12_keep_113 : mj_dec prog_14_method_119_code 113 = some (.aload_n 0, 1) := by decide +kernel
theorem dm_X12_keep_114 : mj_dec prog_14_method_119_code 114 = some (.getfield 52, 3) := by decide +kernel
theorem dm_X12_keep_117 : mj_dec prog_14_method_119_code 117 = some (.iload_n 2, 1) := by decide +kernel
theorem dm_X12_keep_118 : mj_dec prog_14_method_119_code 118 = some (.iaload, 1) := by decide +kernel
theorem dm_X12_keep_119 : mj_dec prog_14_method_119_code 119 = some (.iastore, 1) := by decide +kernel
theorem dm_X12_keep_120 : mj_dec prog_14_method_119_code 120 = some (.iinc 2 1, 3) := by decide +kernel
theorem dm_X12_keep_123 : mj_dec prog_14_method_119_code 123 = some (.goto (-83), 3) := by decide +kernel
theorem dm_X12_keep_126 : mj_dec prog_14_method_119_code 126 = some (.iconst 1, 1) := by decide +kernel
theorem dm_X12_keep_127 : mj_dec prog_14_method_119_code 127 = some (.ireturn, 1) := by decide +kernel
theorem r_keep_ {xt : mj_X} {d : Nat} {pre post : mj_H} {s : RS} (hm : pre.length = 102) (hd : 1 ≤ d) {k : Nat} (hk : k < 4) : pgV xt d 312 [.ref 102, ii (k : Int)] (rS pre post s) (fun y h' => y = ii 1 ∧ h' = rS pre post (kpS s k 40)) := by
  refine x_enter pm_X12_keep (L0 := [(0, .ref 102), (1, ii (k : Int))]) rfl (Nat.le_of_ble_eq_true rfl) (by omega) ?_
  refine me1 (pc' := 1) (L' := [(0, .ref 102), (1, ii (k : Int))]) (S' := [ii (k : Int)]) dm_X12_keep_0 rfl rfl rfl rfl ?_
  refine y_1lt (a := (k : Int)) (t := 9) (pc' := 4) dm_X12_keep_1 rfl rfl (by omega) (fun hb1 => ?_) (fun hb1 => ?_)
  · exfalso; omega
  · refine me1 (pc' := 5) (L' := [(0, .ref 102), (1, ii (k : Int))]) (S' := [ii (k : Int)]) dm_X12_keep_4 rfl rfl rfl rfl ?_
    refine me0 (pc' := 6) (S' := [ii 3, ii (k : Int)]) dm_X12_keep_5 rfl rfl rfl rfl ?_
    refine y_2le (a := (k : Int)) (b := 3) (t := 11) (pc' := 9) dm_X12_keep_6 rfl rfl (by omega) (fun hb2 => ?_) (fun hb2 => ?_)
    · refine me1 (pc' := 12) (L' := [(0, .ref 102), (1, ii (k : Int))]) (S' := [.ref 102]) dm_X12_keep_11 rfl rfl rfl rfl ?_
      refine me3 (pc' := 15) (S' := [.ref (102 + 16)]) dm_X12_keep_12 (q_getr hm rfl (fun m i l => rg_29 m i l)) rfl rfl rfl ?_
      refine me1 (pc' := 16) (L' := [(0, .ref 102), (1, ii (k : Int))]) (S' := [ii (k : Int), .ref (102 + 16)]) dm_X12_keep_15 rfl rfl rfl rfl ?_
      refine me0 (pc' := 17) (S' := [ii 1, ii (k : Int), .ref (102 + 16)]) dm_X12_keep_16 rfl rfl rfl rfl ?_
      refine me3 (pc' := 18) (S' := []) (h1 := rI pre post s.1 s.2.1 (va_up s.2.2.1 29 (va_up (s.2.2.1 29) k 1)) s.2.2.2) dm_X12_keep_17 (q_zast (j := (k : Int)) (k := 29) (n := 4) hm (fun m i l I J => rc_29 m i l I J) (fun m i l I J f => rs_29 m i l I J f) (by omega) (by omega) (by decide)) rfl rfl rfl ?_
      refine me1 (pc' := 19) (L' := [(0, .ref 102), (1, ii (k : Int))]) (S' := [.ref 102]) dm_X12_keep_18 rfl rfl rfl rfl ?_
      refine me3 (pc' := 22) (S' := [.ref (102 + 14)]) dm_X12_keep_19 (q_getr hm rfl (fun m i l => rg_27 m i l)) rfl rfl rfl ?_
      refine me1 (pc' := 23) (L' := [(0, .ref 102), (1, ii (k : Int))]) (S' := [ii (k : Int), .ref (102 + 14)]) dm_X12_keep_22 rfl rfl rfl rfl ?_
      refine me1 (pc' := 24) (L' := [(0, .ref 102), (1, ii (k : Int))]) (S' := [.ref 102, ii (k : Int), .ref (102 + 14)]) dm_X12_keep_23 rfl rfl rfl rfl ?_
      refine me3 (pc' := 27) (S' := [ii (s.1 23), ii (k : Int), .ref (102 + 14)]) dm_X12_keep_24 (q_geti (v := s.1 23) hm rfl (fun m i l => rg_23 m i l) rfl) rfl rfl rfl ?_
      refine me3 (pc' := 28) (S' := []) (h1 := rI pre post s.1 s.2.1 (va_up (va_up s.2.2.1 29 (va_up (s.2.2.1 29) k 1)) 27 (va_up (s.2.2.1 27) k (s.1 23))) s.2.2.2) dm_X12_keep_27 (q_iast (j := (k : Int)) (k := 27) (n := 4) hm (fun m i l I J => rc_27 m i l I J) (fun m i l I J f => rs_27 m i l I J f) (by omega) (by omega) (by decide)) rfl rfl rfl ?_
      refine me1 (pc' := 29) (L' := [(0, .ref 102), (1, ii (k : Int))]) (S' := [.ref 102]) dm_X12_keep_28 rfl rfl rfl rfl ?_
      refine me3 (pc' := 32) (S' := [.ref (102 + 15)]) dm_X12_keep_29 (q_getr hm rfl (fun m i l => rg_28 m i l)) rfl rfl rfl ?_
      refine me1 (pc' := 33) (L' := [(0, .ref 102), (1, ii (k : Int))]) (S' := [ii (k : Int), .ref (102 + 15)]) dm_X12_keep_32 rfl rfl rfl rfl ?_
      refine me1 (pc' := 34) (L' := [(0, .ref 102), (1, ii (k : Int))]) (S' := [.ref 102, ii (k : Int), .ref (102 + 15)]) dm_X12_keep_33 rfl rfl rfl rfl ?_
      refine me3 (pc' := 37) (S' := [ii (s.1 24), ii (k : Int), .ref (102 + 15)]) dm_X12_keep_34 (q_geti (v := s.1 24) hm rfl (fun m i l => rg_24 m i l) rfl) rfl rfl rfl ?_
      refine me3 (pc' := 38) (S' := []) (h1 := rI pre post s.1 s.2.1 (va_up (va_up (va_up s.2.2.1 29 (va_up (s.2.2.1 29) k 1)) 27 (va_up (s.2.2.1 27) k (s.1 23))) 28 (va_up (s.2.2.1 28) k (s.1 24))) s.2.2.2) dm_X12_keep_37 (q_iast (j := (k : Int)) (k := 28) (n := 4) hm (fun m i l I J => rc_28 m i l I J) (fun m i l I J f => rs_28 m i l I J f) (by omega) (by omega) (by decide)) rfl rfl rfl ?_
      refine me0 (pc' := 39) (S' := [ii 0]) dm_X12_keep_38 rfl rfl rfl rfl ?_
      refine me1 (pc' := 40) (L' := [(2, ii 0), (0, .ref 102), (1, ii (k : Int))]) (S' := []) dm_X12_keep_39 rfl rfl rfl rfl ?_
      have lp40 : ∀ (n40 : Nat) (i : Nat), 40 - i = n40 → (i ≤ 40) → pgE xt (d - 1) 12 3 false (Option.some Jvm.ClassFile.FieldType.boolean) (mj_dec prog_14_method_119_code) 40 [(0, .ref 102), (1, ii (k : Int)), (2, ii ((i : Nat) : Int))] [] (rI pre post ((kpS s k i).1) ((kpS s k i).2.1) ((kpS s k i).2.2.1) ((kpS s k i).2.2.2)) (fun r h' => ∃ x, r = some x ∧ x = ii 1 ∧ h' = rS pre post (kpS s k 40)) := by
        intro n40
        induction n40 using Nat.strongRecOn with
        | ind n40 ih40 =>
          intro i hm40 hi
          refine me1 (pc' := 41) (L' := [(0, .ref 102), (1, ii (k : Int)), (2, ii ((i : Nat) : Int))]) (S' := [ii ((i : Nat) : Int)]) dm_X12_keep_40 rfl rfl rfl rfl ?_
          refine me0 (pc' := 43) (S' := [ii 40, ii ((i : Nat) : Int)]) dm_X12_keep_41 rfl rfl rfl rfl ?_
          refine y_2ge (a := ((i : Nat) : Int)) (b := 40) (t := 126) (pc' := 46) dm_X12_keep_43 rfl rfl (by omega) (fun hb3 => ?_) (fun hb3 => ?_)
          · refine pg_cast (h2 := rI pre post ((kpS s k 40).1) ((kpS s k 40).2.1) ((kpS s k 40).2.2.1) ((kpS s k 40).2.2.2)) (by rw [show i = 40 by omega]) ?_
            refine me0 (pc' := 127) (S' := [ii 1]) dm_X12_keep_126 rfl rfl rfl rfl ?_
            refine y_ret (r := some (ii 1)) dm_X12_keep_127 rfl rfl rfl ?_
            exact ⟨_, rfl, rfl, rfl⟩
          · refine me1 (pc' := 47) (L' := [(0, .ref 102), (1, ii (k : Int)), (2, ii ((i : Nat) : Int))]) (S' := [.ref 102]) dm_X12_keep_46 rfl rfl rfl rfl ?_
            refine me3 (pc' := 50) (S' := [.ref (102 + 12)]) dm_X12_keep_47 (q_getr hm rfl (fun m i l => rg_25 m i l)) rfl rfl rfl ?_
            refine me0 (pc' := 52) (S' := [ii 80, .ref (102 + 12)]) dm_X12_keep_50 rfl rfl rfl rfl ?_
            refine me1 (pc' := 53) (L' := [(0, .ref 102), (1, ii (k : Int)), (2, ii ((i : Nat) : Int))]) (S' := [ii (k : Int), ii 80, .ref (102 + 12)]) dm_X12_keep_52 rfl rfl rfl rfl ?_
            refine y_imul (a := 80) (b := (k : Int)) dm_X12_keep_53 (pc' := 54) rfl ?_
            refine me1 (pc' := 55) (L' := [(0, .ref 102), (1, ii (k : Int)), (2, ii ((i : Nat) : Int))]) (S' := [ii ((i : Nat) : Int), ii (80 * (k : Int)), .ref (102 + 12)]) dm_X12_keep_54 rfl rfl rfl rfl ?_
            refine y_iadd (a := 80 * (k : Int)) (b := ((i : Nat) : Int)) dm_X12_keep_55 (pc' := 56) rfl ?_
            refine pg_st0 (S' := [ii ((80 * k + i : Nat) : Int), .ref (102 + 12)]) (congrArg (fun z => ii z :: [.ref (102 + 12)]) (by push_cast; rfl)) ?_
            refine me1 (pc' := 57) (L' := [(0, .ref 102), (1, ii (k : Int)), (2, ii ((i : Nat) : Int))]) (S' := [.ref 102, ii ((80 * k + i : Nat) : Int), .ref (102 + 12)]) dm_X12_keep_56 rfl rfl rfl rfl ?_
            refine me3 (pc' := 60) (S' := [.ref (102 + 8), ii ((80 * k + i : Nat) : Int), .ref (102 + 12)]) dm_X12_keep_57 (q_getr hm rfl (fun m i l => rg_19 m i l)) rfl rfl rfl ?_
            refine me1 (pc' := 61) (L' := [(0, .ref 102), (1, ii (k : Int)), (2, ii ((i : Nat) : Int))]) (S' := [ii ((i : Nat) : Int), .ref (102 + 8), ii ((80 * k + i : Nat) : Int), .ref (102 + 12)]) dm_X12_keep_60 rfl rfl rfl rfl ?_
            refine me3 (pc' := 62) (S' := [.long ((((kpS s k i).2.2.2) 19) i), ii ((80 * k + i : Nat) : Int), .ref (102 + 12)]) dm_X12_keep_61 (q_lald (v := (((kpS s k i).2.2.2) 19) i) (k := 19) (n := 40) hm (fun m i l I J => rc_19 m i l I J) (by omega) (by omega) (by decide) rfl) rfl rfl rfl ?_
            refine me3 (pc' := 63) (S' := []) (h1 := rI pre post ((kpS s k i).1) ((kpS s k i).2.1) ((kpS s k i).2.2.1) (va_up ((kpS s k i).2.2.2) 25 (va_up (((kpS s k i).2.2.2) 25) (80 * k + i) ((((kpS s k i).2.2.2) 19) i)))) dm_X12_keep_62 (q_last (j := ((80 * k + i : Nat) : Int)) (k := 25) (n := 320) hm (fun m i l I J => rc_25 m i l I J) (fun m i l I J f => rs_25 m i l I J f) (by omega) (by omega) (by decide)) rfl rfl rfl ?_
            refine me1 (pc' := 64) (L' := [(0, .ref 102), (1, ii (k : Int)), (2, ii ((i : Nat) : Int))]) (S' := [.ref 102]) dm_X12_keep_63 rfl rfl rfl rfl ?_
            refine me3 (pc' := 67) (S' := [.ref (102 + 13)]) dm_X12_keep_64 (q_getr hm rfl (fun m i l => rg_26 m i l)) rfl rfl rfl ?_
            refine me0 (pc' := 69) (S' := [ii 80, .ref (102 + 13)]) dm_X12_keep_67 rfl rfl rfl rfl ?_
            refine me1 (pc' := 70) (L' := [(0, .ref 102), (1, ii (k : Int)), (2, ii ((i : Nat) : Int))]) (S' := [ii (k : Int), ii 80, .ref (102 + 13)]) dm_X12_keep_69 rfl rfl rfl rfl ?_
            refine y_imul (a := 80) (b := (k : Int)) dm_X12_keep_70 (pc' := 71) rfl ?_
            refine me1 (pc' := 72) (L' := [(0, .ref 102), (1, ii (k : Int)), (2, ii ((i : Nat) : Int))]) (S' := [ii ((i : Nat) : Int), ii (80 * (k : Int)), .ref (102 + 13)]) dm_X12_keep_71 rfl rfl rfl rfl ?_
            refine y_iadd (a := 80 * (k : Int)) (b := ((i : Nat) : Int)) dm_X12_keep_72 (pc' := 73) rfl ?_
            refine pg_st0 (S' := [ii ((80 * k + i : Nat) : Int), .ref (102 + 13)]) (congrArg (fun z => ii z :: [.ref (102 + 13)]) (by push_cast; rfl)) ?_
            refine me1 (pc' := 74) (L' := [(0, .ref 102), (1, ii (k : Int)), (2, ii ((i : Nat) : Int))]) (S' := [.ref 102, ii ((80 * k + i : Nat) : Int), .ref (102 + 13)]) dm_X12_keep_73 rfl rfl rfl rfl ?_
            refine me3 (pc' := 77) (S' := [.ref (102 + 10), ii ((80 * k + i : Nat) : Int), .ref (102 + 13)]) dm_X12_keep_74 (q_getr hm rfl (fun m i l => rg_21 m i l)) rfl rfl rfl ?_
            refine me1 (pc' := 78) (L' := [(0, .ref 102), (1, ii (k : Int)), (2, ii ((i : Nat) : Int))]) (S' := [ii ((i : Nat) : Int), .ref (102 + 10), ii ((80 * k + i : Nat) : Int), .ref (102 + 13)]) dm_X12_keep_77 rfl rfl rfl rfl ?_
            refine me3 (pc' := 79) (S' := [ii ((((kpS s k i).2.2.1) 21) i), ii ((80 * k + i : Nat) : Int), .ref (102 + 13)]) dm_X12_keep_78 (q_iald (v := (((kpS s k i).2.2.1) 21) i) (k := 21) (n := 40) hm (fun m i l I J => rc_21 m i l I J) (by omega) (by omega) (by decide) rfl) rfl rfl rfl ?_
            refine me3 (pc' := 80) (S' := []) (h1 := rI pre post ((kpS s k i).1) ((kpS s k i).2.1) (va_up ((kpS s k i).2.2.1) 26 (va_up (((kpS s k i).2.2.1) 26) (80 * k + i) ((((kpS s k i).2.2.1) 21) i))) (va_up ((kpS s k i).2.2.2) 25 (va_up (((kpS s k i).2.2.2) 25) (80 * k + i) ((((kpS s k i).2.2.2) 19) i)))) dm_X12_keep_79 (q_iast (j := ((80 * k + i : Nat) : Int)) (k := 26) (n := 320) hm (fun m i l I J => rc_26 m i l I J) (fun m i l I J f => rs_26 m i l I J f) (by omega) (by omega) (by decide)) rfl rfl rfl ?_
            refine me1 (pc' := 81) (L' := [(0, .ref 102), (1, ii (k : Int)), (2, ii ((i : Nat) : Int))]) (S' := [.ref 102]) dm_X12_keep_80 rfl rfl rfl rfl ?_
            refine me3 (pc' := 84) (S' := [.ref (102 + 12)]) dm_X12_keep_81 (q_getr hm rfl (fun m i l => rg_25 m i l)) rfl rfl rfl ?_
            refine me0 (pc' := 86) (S' := [ii 80, .ref (102 + 12)]) dm_X12_keep_84 rfl rfl rfl rfl ?_
            refine me1 (pc' := 87) (L' := [(0, .ref 102), (1, ii (k : Int)), (2, ii ((i : Nat) : Int))]) (S' := [ii (k : Int), ii 80, .ref (102 + 12)]) dm_X12_keep_86 rfl rfl rfl rfl ?_
            refine y_imul (a := 80) (b := (k : Int)) dm_X12_keep_87 (pc' := 88) rfl ?_
            refine me0 (pc' := 90) (S' := [ii 40, ii (80 * (k : Int)), .ref (102 + 12)]) dm_X12_keep_88 rfl rfl rfl rfl ?_
            refine y_iadd (a := 80 * (k : Int)) (b := 40) dm_X12_keep_90 (pc' := 91) rfl ?_
            refine me1 (pc' := 92) (L' := [(0, .ref 102), (1, ii (k : Int)), (2, ii ((i : Nat) : Int))]) (S' := [ii ((i : Nat) : Int), ii ((80 * (k : Int)) + 40), .ref (102 + 12)]) dm_X12_keep_91 rfl rfl rfl rfl ?_
            refine y_iadd (a := (80 * (k : Int)) + 40) (b := ((i : Nat) : Int)) dm_X12_keep_92 (pc' := 93) rfl ?_
            refine pg_st0 (S' := [ii ((80 * k + 40 + i : Nat) : Int), .ref (102 + 12)]) (congrArg (fun z => ii z :: [.ref (102 + 12)]) (by push_cast; rfl)) ?_
            refine me1 (pc' := 94) (L' := [(0, .ref 102), (1, ii (k : Int)), (2, ii ((i : Nat) : Int))]) (S' := [.ref 102, ii ((80 * k + 40 + i : Nat) : Int), .ref (102 + 12)]) dm_X12_keep_93 rfl rfl rfl rfl ?_
            refine me3 (pc' := 97) (S' := [.ref (102 + 9), ii ((80 * k + 40 + i : Nat) : Int), .ref (102 + 12)]) dm_X12_keep_94 (q_getr hm rfl (fun m i l => rg_20 m i l)) rfl rfl rfl ?_
            refine me1 (pc' := 98) (L' := [(0, .ref 102), (1, ii (k : Int)), (2, ii ((i : Nat) : Int))]) (S' := [ii ((i : Nat) : Int), .ref (102 + 9), ii ((80 * k + 40 + i : Nat) : Int), .ref (102 + 12)]) dm_X12_keep_97 rfl rfl rfl rfl ?_
            refine me3 (pc' := 99) (S' := [.long ((((kpS s k i).2.2.2) 20) i), ii ((80 * k + 40 + i : Nat) : Int), .ref (102 + 12)]) dm_X12_keep_98 (q_lald (v := (((kpS s k i).2.2.2) 20) i) (k := 20) (n := 40) hm (fun m i l I J => rc_20 m i l I J) (by omega) (by omega) (by decide) rfl) rfl rfl rfl ?_
            refine me3 (pc' := 100) (S' := []) (h1 := rI pre post ((kpS s k i).1) ((kpS s k i).2.1) (va_up ((kpS s k i).2.2.1) 26 (va_up (((kpS s k i).2.2.1) 26) (80 * k + i) ((((kpS s k i).2.2.1) 21) i))) (va_up (va_up ((kpS s k i).2.2.2) 25 (va_up (((kpS s k i).2.2.2) 25) (80 * k + i) ((((kpS s k i).2.2.2) 19) i))) 25 (va_up (va_up (((kpS s k i).2.2.2) 25) (80 * k + i) ((((kpS s k i).2.2.2) 19) i)) (80 * k + 40 + i) ((((kpS s k i).2.2.2) 20) i)))) dm_X12_keep_99 (q_last (j := ((80 * k + 40 + i : Nat) : Int)) (k := 25) (n := 320) hm (fun m i l I J => rc_25 m i l I J) (fun m i l I J f => rs_25 m i l I J f) (by omega) (by omega) (by decide)) rfl rfl rfl ?_
            refine me1 (pc' := 101) (L' := [(0, .ref 102), (1, ii (k : Int)), (2, ii ((i : Nat) : Int))]) (S' := [.ref 102]) dm_X12_keep_100 rfl rfl rfl rfl ?_
            refine me3 (pc' := 104) (S' := [.ref (102 + 13)]) dm_X12_keep_101 (q_getr hm rfl (fun m i l => rg_26 m i l)) rfl rfl rfl ?_
            refine me0 (pc' := 106) (S' := [ii 80, .ref (102 + 13)]) dm_X12_keep_104 rfl rfl rfl rfl ?_
            refine me1 (pc' := 107) (L' := [(0, .ref 102), (1, ii (k : Int)), (2, ii ((i : Nat) : Int))]) (S' := [ii (k : Int), ii 80, .ref (102 + 13)]) dm_X12_keep_106 rfl rfl rfl rfl ?_
            refine y_imul (a := 80) (b := (k : Int)) dm_X12_keep_107 (pc' := 108) rfl ?_
            refine me0 (pc' := 110) (S' := [ii 40, ii (80 * (k : Int)), .ref (102 + 13)]) dm_X12_keep_108 rfl rfl rfl rfl ?_
            refine y_iadd (a := 80 * (k : Int)) (b := 40) dm_X12_keep_110 (pc' := 111) rfl ?_
            refine me1 (pc' := 112) (L' := [(0, .ref 102), (1, ii (k : Int)), (2, ii ((i : Nat) : Int))]) (S' := [ii ((i : Nat) : Int), ii ((80 * (k : Int)) + 40), .ref (102 + 13)]) dm_X12_keep_111 rfl rfl rfl rfl ?_
            refine y_iadd (a := (80 * (k : Int)) + 40) (b := ((i : Nat) : Int)) dm_X12_keep_112 (pc' := 113) rfl ?_
            refine pg_st0 (S' := [ii ((80 * k + 40 + i : Nat) : Int), .ref (102 + 13)]) (congrArg (fun z => ii z :: [.ref (102 + 13)]) (by push_cast; rfl)) ?_
            refine me1 (pc' := 114) (L' := [(0, .ref 102), (1, ii (k : Int)), (2, ii ((i : Nat) : Int))]) (S' := [.ref 102, ii ((80 * k + 40 + i : Nat) : Int), .ref (102 + 13)]) dm_X12_keep_113 rfl rfl rfl rfl ?_
            refine me3 (pc' := 117) (S' := [.ref (102 + 11), ii ((80 * k + 40 + i : Nat) : Int), .ref (102 + 13)]) dm_X12_keep_114 (q_getr hm rfl (fun m i l => rg_22 m i l)) rfl rfl rfl ?_
            refine me1 (pc' := 118) (L' := [(0, .ref 102), (1, ii (k : Int)), (2, ii ((i : Nat) : Int))]) (S' := [ii ((i : Nat) : Int), .ref (102 + 11), ii ((80 * k + 40 + i : Nat) : Int), .ref (102 + 13)]) dm_X12_keep_117 rfl rfl rfl rfl ?_
            refine me3 (pc' := 119) (S' := [ii ((((kpS s k i).2.2.1) 22) i), ii ((80 * k + 40 + i : Nat) : Int), .ref (102 + 13)]) dm_X12_keep_118 (q_iald (v := (((kpS s k i).2.2.1) 22) i) (k := 22) (n := 40) hm (fun m i l I J => rc_22 m i l I J) (by omega) (by omega) (by decide) rfl) rfl rfl rfl ?_
            refine me3 (pc' := 120) (S' := []) (h1 := rI pre post ((kpS s k i).1) ((kpS s k i).2.1) (va_up (va_up ((kpS s k i).2.2.1) 26 (va_up (((kpS s k i).2.2.1) 26) (80 * k + i) ((((kpS s k i).2.2.1) 21) i))) 26 (va_up (va_up (((kpS s k i).2.2.1) 26) (80 * k + i) ((((kpS s k i).2.2.1) 21) i)) (80 * k + 40 + i) ((((kpS s k i).2.2.1) 22) i))) (va_up (va_up ((kpS s k i).2.2.2) 25 (va_up (((kpS s k i).2.2.2) 25) (80 * k + i) ((((kpS s k i).2.2.2) 19) i))) 25 (va_up (va_up (((kpS s k i).2.2.2) 25) (80 * k + i) ((((kpS s k i).2.2.2) 19) i)) (80 * k + 40 + i) ((((kpS s k i).2.2.2) 20) i)))) dm_X12_keep_119 (q_iast (j := ((80 * k + 40 + i : Nat) : Int)) (k := 26) (n := 320) hm (fun m i l I J => rc_26 m i l I J) (fun m i l I J f => rs_26 m i l I J f) (by omega) (by omega) (by decide)) rfl rfl rfl ?_
            refine pg_cast (h2 := rI pre post ((kpS s k (i + 1)).1) ((kpS s k (i + 1)).2.1) ((kpS s k (i + 1)).2.2.1) ((kpS s k (i + 1)).2.2.2)) (by first | exact congrArg (rS pre post) (kpS_s (by omega)) | exact kpS_s (by omega)) ?_
            refine y_iinc (pc' := 123) (L' := [(2, ii (((i : Nat) : Int) + 1)), (0, .ref 102), (1, ii (k : Int))]) dm_X12_keep_120 (y_incp (a := ((i : Nat) : Int)) (c := 1) rfl rfl (by decide)) rfl ?_
            refine me2 (pc' := 40) (S' := []) dm_X12_keep_123 rfl rfl rfl ?_
            exact pg_sub (L := [(0, .ref 102), (1, ii (k : Int)), (2, ii (((i + 1) : Nat) : Int))]) rfl rfl rfl (ih40 (40 - (i + 1)) (by omega) (i + 1) rfl (by omega))
      refine pg_cast (h2 := rI pre post ((kpS s k 0).1) ((kpS s k 0).2.1) ((kpS s k 0).2.2.1) ((kpS s k 0).2.2.2)) (by first | exact congrArg (rS pre post) kpS_0 | rfl) ?_
      exact pg_sub (L := [(0, .ref 102), (1, ii (k : Int)), (2, ii ((0 : Nat) : Int))]) rfl rfl rfl (lp40 _ 0 rfl (Nat.zero_le _))
    · exfalso; omega
set_option maxRecDepth 20000 in
theorem pm_X12_point : mj_mmof pg_ms 306 = some ((⟨"ArrayCalculatorModel", "point", "(II)Z"⟩, prog_14_method_113_code, 3, (Option.some Jvm.ClassFile.FieldType.boolean)), 12, false, mj_dec prog_14_method_113_code) := rfl
theorem dm_X12_point_0 : mj_dec prog_14_method_113_code 0 = some (.iload_n 1, 1) := by decide +kernel
theorem dm_X12_point_1 : mj_dec prog_14_method_113_code 1 = some (.ifCond .ne 13, 3) := by decide +kernel
theorem dm_X12_point_4 : mj_dec prog_14_method_113_code 4 = some (.aload_n 0, 1) := by decide +kernel
theorem dm_X12_point_5 : mj_dec prog_14_method_113_code 5 = some (.aload_n 0, 1) := by decide +kernel
theorem dm_X12_point_6 : mj_dec prog_14_method_113_code 6 = some (.getfield 109, 3) := by decide +kernel
theorem dm_X12_point_9 : mj_dec prog_14_method_113_code 9 = some (.putfield 112, 3) := by decide +kernel
theorem dm_X12_point_12 : mj_dec prog_14_method_113_code 12 = some (.iconst 1, 1) := by decide +kernel
theorem dm_X12_point_13 : mj_dec prog_14_method_113_code 13 = some (.ireturn, 1) := by decide +kernel
theorem r_pt0 {xt : mj_X} {d : Nat} {pre post : mj_H} {s : RS} (hm : pre.length = 102) (hd : 10 ≤ d) {what k : Int} (hwh : -2147483648 ≤ what ∧ what ≤ 2147483647) (hk : -2147483648 ≤ k ∧ k ≤ 2147483647) (h0 : what = 0) : pgV xt d 306 [.ref 102, ii what, ii k] (rS pre post s) (fun y h' => y = ii 1 ∧ h' = rS pre post (fiS s 31 (s.1 30))) := by
  refine x_enter pm_X12_point (L0 := [(0, .ref 102), (1, ii what), (2, ii k)]) rfl (Nat.le_of_ble_eq_true rfl) (by omega) ?_
  refine me1 (pc' := 1) (L' := [(0, .ref 102), (1, ii what), (2, ii k)]) (S' := [ii what]) dm_X12_point_0 rfl rfl rfl rfl ?_
  refine y_1ne (a := what) (t := 14) (pc' := 4) dm_X12_point_1 rfl rfl (by omega) (fun hb1 => ?_) (fun hb1 => ?_)
  · exfalso; omega
  · refine me1 (pc' := 5) (L' := [(0, .ref 102), (1, ii what), (2, ii k)]) (S' := [.ref 102]) dm_X12_point_4 rfl rfl rfl rfl ?_
    refine me1 (pc' := 6) (L' := [(0, .ref 102), (1, ii what), (2, ii k)]) (S' := [.ref 102, .ref 102]) dm_X12_point_5 rfl rfl rfl rfl ?_
    refine me3 (pc' := 9) (S' := [ii (s.1 30), .ref 102]) dm_X12_point_6 (q_geti (v := s.1 30) hm rfl (fun m i l => rg_30 m i l) rfl) rfl rfl rfl ?_
    refine me3 (pc' := 12) (S' := []) (h1 := rI pre post (va_up s.1 31 (s.1 30)) s.2.1 s.2.2.1 s.2.2.2) dm_X12_point_9 (q_puti hm rfl rfl (fun m i l v => rf_31 m i l v)) rfl rfl rfl ?_
    refine me0 (pc' := 13) (S' := [ii 1]) dm_X12_point_12 rfl rfl rfl rfl ?_
    refine y_ret (r := some (ii 1)) dm_X12_point_13 rfl rfl rfl ?_
    exact ⟨_, rfl, rfl, rfl⟩
theorem dm_X12_point_14 : mj_dec prog_14_method_113_code 14 = some (.iload_n 1, 1) := by decide +kernel
theorem dm_X12_point_15 : mj_dec prog_14_method_113_code 15 = some (.iconst 1, 1) := by decide +kernel
theorem dm_X12_point_16 : mj_dec prog_14_method_113_code 16 = some (.if_icmp .ne 29, 3) := by decide +kernel
theorem dm_X12_point_19 : mj_dec prog_14_method_113_code 19 = some (.iload_n 2, 1) := by decide +kernel
theorem dm_X12_point_20 : mj_dec prog_14_method_113_code 20 = some (.ifCond .lt 11, 3) := by decide +kernel
theorem dm_X12_point_23 : mj_dec prog_14_method_113_code 23 = some (.iload_n 2, 1) := by decide +kernel
theorem dm_X12_point_24 : mj_dec prog_14_method_113_code 24 = some (.aload_n 0, 1) := by decide +kernel
theorem dm_X12_point_25 : mj_dec prog_14_method_113_code 25 = some (.getfield 357, 3) := by decide +kernel
theorem dm_X12_point_28 : mj_dec prog_14_method_113_code 28 = some (.if_icmp .lt 5, 3) := by decide +kernel
theorem dm_X12_point_31 : mj_dec prog_14_method_113_code 31 = some (.iconst 0, 1) := by decide +kernel
theorem dm_X12_point_32 : mj_dec prog_14_method_113_code 32 = some (.ireturn, 1) := by decide +kernel
theorem r_pt1N {xt : mj_X} {d : Nat} {pre post : mj_H} {s : RS} (hm : pre.length = 102) (hd : 10 ≤ d) {what k : Int} (hwh : -2147483648 ≤ what ∧ what ≤ 2147483647) (hk : -2147483648 ≤ k ∧ k ≤ 2147483647) (h0 : what = 1) (h23 : 0 ≤ s.1 23 ∧ s.1 23 ≤ 40) (hno : k < 0 ∨ s.1 23 ≤ k) : pgV xt d 306 [.ref 102, ii what, ii k] (rS pre post s) (fun y h' => y = ii 0 ∧ h' = rS pre post s) := by
  refine x_enter pm_X12_point (L0 := [(0, .ref 102), (1, ii what), (2, ii k)]) rfl (Nat.le_of_ble_eq_true rfl) (by omega) ?_
  refine me1 (pc' := 1) (L' := [(0, .ref 102), (1, ii what), (2, ii k)]) (S' := [ii what]) dm_X12_point_0 rfl rfl rfl rfl ?_
  refine y_1ne (a := what) (t := 14) (pc' := 4) dm_X12_point_1 rfl rfl (by omega) (fun hb1 => ?_) (fun hb1 => ?_)
  · refine me1 (pc' := 15) (L' := [(0, .ref 102), (1, ii what), (2, ii k)]) (S' := [ii what]) dm_X12_point_14 rfl rfl rfl rfl ?_
    refine me0 (pc' := 16) (S' := [ii 1, ii what]) dm_X12_point_15 rfl rfl rfl rfl ?_
    refine y_2ne (a := what) (b := 1) (t := 45) (pc' := 19) dm_X12_point_16 rfl rfl (by omega) (fun hb2 => ?_) (fun hb2 => ?_)
    · exfalso; omega
    · refine me1 (pc' := 20) (L' := [(0, .ref 102), (1, ii what), (2, ii k)]) (S' := [ii k]) dm_X12_point_19 rfl rfl rfl rfl ?_
      refine y_1lt (a := k) (t := 31) (pc' := 23) dm_X12_point_20 rfl rfl (by omega) (fun hb3 => ?_) (fun hb3 => ?_)
      · refine me0 (pc' := 32) (S' := [ii 0]) dm_X12_point_31 rfl rfl rfl rfl ?_
        refine y_ret (r := some (ii 0)) dm_X12_point_32 rfl rfl rfl ?_
        exact ⟨_, rfl, rfl, rfl⟩
      · refine me1 (pc' := 24) (L' := [(0, .ref 102), (1, ii what), (2, ii k)]) (S' := [ii k]) dm_X12_point_23 rfl rfl rfl rfl ?_
        refine me1 (pc' := 25) (L' := [(0, .ref 102), (1, ii what), (2, ii k)]) (S' := [.ref 102, ii k]) dm_X12_point_24 rfl rfl rfl rfl ?_
        refine me3 (pc' := 28) (S' := [ii (s.1 23), ii k]) dm_X12_point_25 (q_geti (v := s.1 23) hm rfl (fun m i l => rg_23 m i l) rfl) rfl rfl rfl ?_
        refine y_2lt (a := k) (b := s.1 23) (t := 33) (pc' := 31) dm_X12_point_28 rfl rfl (by omega) (fun hb4 => ?_) (fun hb4 => ?_)
        · exfalso; omega
        · refine me0 (pc' := 32) (S' := [ii 0]) dm_X12_point_31 rfl rfl rfl rfl ?_
          refine y_ret (r := some (ii 0)) dm_X12_point_32 rfl rfl rfl ?_
          exact ⟨_, rfl, rfl, rfl⟩
  · exfalso; omega
theorem dm_X12_point_33 : mj_dec prog_14_method_113_code 33 = some (.aload_n 0, 1) := by decide +kernel
theorem dm_X12_point_34 : mj_dec prog_14_method_113_code 34 = some (.aload_n 0, 1) := by decide +kernel
theorem dm_X12_point_35 : mj_dec prog_14_method_113_code 35 = some (.getfield 49, 3) := by decide +kernel
theorem dm_X12_point_38 : mj_dec prog_14_method_113_code 38 = some (.iload_n 2, 1) := by decide +kernel
theorem dm_X12_point_39 : mj_dec prog_14_method_113_code 39 = some (.iaload, 1) := by decide +kernel
theorem dm_X12_point_40 : mj_dec prog_14_method_113_code 40 = some (.putfield 112, 3) := by decide +kernel
theorem dm_X12_point_43 : mj_dec prog_14_method_113_code 43 = some (.iconst 1, 1) := by decide +kernel
theorem dm_X12_point_44 : mj_dec prog_14_method_113_code 44 = some (.ireturn, 1) := by decide +kernel
theorem r_pt1Y {xt : mj_X} {d : Nat} {pre post : mj_H} {s : RS} (hm : pre.length = 102) (hd : 10 ≤ d) {what : Int} (hwh : -2147483648 ≤ what ∧ what ≤ 2147483647) {j : Nat} (h0 : what = 1) (h23 : s.1 23 ≤ 40) (hj : (j : Int) < s.1 23) : pgV xt d 306 [.ref 102, ii what, ii (j : Int)] (rS pre post s) (fun y h' => y = ii 1 ∧ h' = rS pre post (fiS s 31 (s.2.2.1 21 j))) := by
  refine x_enter pm_X12_point (L0 := [(0, .ref 102), (1, ii what), (2, ii (j : Int))]) rfl (Nat.le_of_ble_eq_true rfl) (by omega) ?_
  refine me1 (pc' := 1) (L' := [(0, .ref 102), (1, ii what), (2, ii (j : Int))]) (S' := [ii what]) dm_X12_point_0 rfl rfl rfl rfl ?_
  refine y_1ne (a := what) (t := 14) (pc' := 4) dm_X12_point_1 rfl rfl (by omega) (fun hb1 => ?_) (fun hb1 => ?_)
  · refine me1 (pc' := 15) (L' := [(0, .ref 102), (1, ii what), (2, ii (j : Int))]) (S' := [ii what]) dm_X12_point_14 rfl rfl rfl rfl ?_
    refine me0 (pc' := 16) (S' := [ii 1, ii what]) dm_X12_point_15 rfl rfl rfl rfl ?_
    refine y_2ne (a := what) (b := 1) (t := 45) (pc' := 19) dm_X12_point_16 rfl rfl (by omega) (fun hb2 => ?_) (fun hb2 => ?_)
    · exfalso; omega
    · refine me1 (pc' := 20) (L' := [(0, .ref 102), (1, ii what), (2, ii (j : Int))]) (S' := [ii (j : Int)]) dm_X12_point_19 rfl rfl rfl rfl ?_
      refine y_1lt (a := (j : Int)) (t := 31) (pc' := 23) dm_X12_point_20 rfl rfl (by omega) (fun hb3 => ?_) (fun hb3 => ?_)
      · exfalso; omega
      · refine me1 (pc' := 24) (L' := [(0, .ref 102), (1, ii what), (2, ii (j : Int))]) (S' := [ii (j : Int)]) dm_X12_point_23 rfl rfl rfl rfl ?_
        refine me1 (pc' := 25) (L' := [(0, .ref 102), (1, ii what), (2, ii (j : Int))]) (S' := [.ref 102, ii (j : Int)]) dm_X12_point_24 rfl rfl rfl rfl ?_
        refine me3 (pc' := 28) (S' := [ii (s.1 23), ii (j : Int)]) dm_X12_point_25 (q_geti (v := s.1 23) hm rfl (fun m i l => rg_23 m i l) rfl) rfl rfl rfl ?_
        refine y_2lt (a := (j : Int)) (b := s.1 23) (t := 33) (pc' := 31) dm_X12_point_28 rfl rfl (by omega) (fun hb4 => ?_) (fun hb4 => ?_)
        · refine me1 (pc' := 34) (L' := [(0, .ref 102), (1, ii what), (2, ii (j : Int))]) (S' := [.ref 102]) dm_X12_point_33 rfl rfl rfl rfl ?_
          refine me1 (pc' := 35) (L' := [(0, .ref 102), (1, ii what), (2, ii (j : Int))]) (S' := [.ref 102, .ref 102]) dm_X12_point_34 rfl rfl rfl rfl ?_
          refine me3 (pc' := 38) (S' := [.ref (102 + 10), .ref 102]) dm_X12_point_35 (q_getr hm rfl (fun m i l => rg_21 m i l)) rfl rfl rfl ?_
          refine me1 (pc' := 39) (L' := [(0, .ref 102), (1, ii what), (2, ii (j : Int))]) (S' := [ii (j : Int), .ref (102 + 10), .ref 102]) dm_X12_point_38 rfl rfl rfl rfl ?_
          refine me3 (pc' := 40) (S' := [ii ((s.2.2.1 21) j), .ref 102]) dm_X12_point_39 (q_iald (v := (s.2.2.1 21) j) (k := 21) (n := 40) hm (fun m i l I J => rc_21 m i l I J) (by omega) (by omega) (by decide) rfl) rfl rfl rfl ?_
          refine me3 (pc' := 43) (S' := []) (h1 := rI pre post (va_up s.1 31 ((s.2.2.1 21) j)) s.2.1 s.2.2.1 s.2.2.2) dm_X12_point_40 (q_puti hm rfl rfl (fun m i l v => rf_31 m i l v)) rfl rfl rfl ?_
          refine me0 (pc' := 44) (S' := [ii 1]) dm_X12_point_43 rfl rfl rfl rfl ?_
          refine y_ret (r := some (ii 1)) dm_X12_point_44 rfl rfl rfl ?_
          exact ⟨_, rfl, rfl, rfl⟩
        · exfalso; omega
  · exfalso; omega
theorem dm_X12_point_45 : mj_dec prog_14_method_113_code 45 = some (.iload_n 1, 1) := by decide +kernel
theorem dm_X12_point_46 : mj_dec prog_14_method_113_code 46 = some (.iconst 2, 1) := by decide +kernel
theorem dm_X12_point_47 : mj_dec prog_14_method_113_code 47 = some (.if_icmp .ne 32, 3) := by decide +kernel
theorem dm_X12_point_50 : mj_dec prog_14_method_113_code 50 = some (.aload_n 0, 1) := by decide +kernel
theorem dm_X12_point_51 : mj_dec prog_14_method_113_code 51 = some (.aload_n 0, 1) := by decide +kernel
theorem dm_X12_point_52 : mj_dec prog_14_method_113_code 52 = some (.getfield 112, 3) := by decide +kernel
theorem dm_X12_point_55 : mj_dec prog_14_method_113_code 55 = some (.invokevirtual 146, 3) := by decide +kernel
theorem dm_X12_point_58 : mj_dec prog_14_method_113_code 58 = some (.bipush 6, 2) := by decide +kernel
theorem dm_X12_point_60 : mj_dec prog_14_method_113_code 60 = some (.if_icmp .lt 19, 3) := by decide +kernel
theorem dm_X12_point_63 : mj_dec prog_14_method_113_code 63 = some (.iload_n 2, 1) := by decide +kernel
theorem dm_X12_point_64 : mj_dec prog_14_method_113_code 64 = some (.ifCond .lt 15, 3) := by decide +kernel
theorem dm_X12_point_67 : mj_dec prog_14_method_113_code 67 = some (.iload_n 2, 1) := by decide +kernel
theorem dm_X12_point_68 : mj_dec prog_14_method_113_code 68 = some (.aload_n 0, 1) := by decide +kernel
theorem dm_X12_point_69 : mj_dec prog_14_method_113_code 69 = some (.aload_n 0, 1) := by decide +kernel
theorem dm_X12_point_70 : mj_dec prog_14_method_113_code 70 = some (.getfield 112, 3) := by decide +kernel
theorem dm_X12_point_73 : mj_dec prog_14_method_113_code 73 = some (.invokevirtual 134, 3) := by decide +kernel
theorem dm_X12_point_76 : mj_dec prog_14_method_113_code 76 = some (.if_icmp .lt 5, 3) := by decide +kernel
theorem dm_X12_point_79 : mj_dec prog_14_method_113_code 79 = some (.iconst 0, 1) := by decide +kernel
theorem dm_X12_point_80 : mj_dec prog_14_method_113_code 80 = some (.ireturn, 1) := by decide +kernel
theorem r_ptN {xt : mj_X} {d : Nat} {pre post : mj_H} {s : RS} (hm : pre.length = 102) (hd : 10 ≤ d) {what k : Int} (hwh : -2147483648 ≤ what ∧ what ≤ 2147483647) (hk : -2147483648 ≤ k ∧ k ≤ 2147483647) (h0 : what ≠ 0 ∧ what ≠ 1) {q : Nat} {v : VV} (hB : rB s) (h31 : s.1 31 = (q : Int)) (hv : rv s 7 q v) (hno : what ≠ 2 ∨ vk v < 6 ∨ k < 0 ∨ (vm v : Int) ≤ k) : pgV xt d 306 [.ref 102, ii what, ii k] (rS pre post s) (fun y h' => y = ii 0 ∧ h' = rS pre post s) := by
  have hB0 := hB
  obtain ⟨hB1, hB2, hB3, hB4⟩ := hB
  obtain ⟨fr, hfr, hsh, hlt, hcl, hvk, hvm, hvc, hvq, hvcl⟩ := rv_val hv
  refine x_enter pm_X12_point (L0 := [(0, .ref 102), (1, ii what), (2, ii k)]) rfl (Nat.le_of_ble_eq_true rfl) (by omega) ?_
  refine me1 (pc' := 1) (L' := [(0, .ref 102), (1, ii what), (2, ii k)]) (S' := [ii what]) dm_X12_point_0 rfl rfl rfl rfl ?_
  refine y_1ne (a := what) (t := 14) (pc' := 4) dm_X12_point_1 rfl rfl (by omega) (fun hb1 => ?_) (fun hb1 => ?_)
  · refine me1 (pc' := 15) (L' := [(0, .ref 102), (1, ii what), (2, ii k)]) (S' := [ii what]) dm_X12_point_14 rfl rfl rfl rfl ?_
    refine me0 (pc' := 16) (S' := [ii 1, ii what]) dm_X12_point_15 rfl rfl rfl rfl ?_
    refine y_2ne (a := what) (b := 1) (t := 45) (pc' := 19) dm_X12_point_16 rfl rfl (by omega) (fun hb2 => ?_) (fun hb2 => ?_)
    · refine me1 (pc' := 46) (L' := [(0, .ref 102), (1, ii what), (2, ii k)]) (S' := [ii what]) dm_X12_point_45 rfl rfl rfl rfl ?_
      refine me0 (pc' := 47) (S' := [ii 2, ii what]) dm_X12_point_46 rfl rfl rfl rfl ?_
      refine y_2ne (a := what) (b := 2) (t := 79) (pc' := 50) dm_X12_point_47 rfl rfl (by omega) (fun hb3 => ?_) (fun hb3 => ?_)
      · refine me0 (pc' := 80) (S' := [ii 0]) dm_X12_point_79 rfl rfl rfl rfl ?_
        refine y_ret (r := some (ii 0)) dm_X12_point_80 rfl rfl rfl ?_
        exact ⟨_, rfl, rfl, rfl⟩
      · refine me1 (pc' := 51) (L' := [(0, .ref 102), (1, ii what), (2, ii k)]) (S' := [.ref 102]) dm_X12_point_50 rfl rfl rfl rfl ?_
        refine me1 (pc' := 52) (L' := [(0, .ref 102), (1, ii what), (2, ii k)]) (S' := [.ref 102, .ref 102]) dm_X12_point_51 rfl rfl rfl rfl ?_
        refine me3 (pc' := 55) (S' := [ii (s.1 31), .ref 102]) dm_X12_point_52 (q_geti (v := s.1 31) hm rfl (fun m i l => rg_31 m i l) rfl) rfl rfl rfl ?_
        refine pg_st0 (S' := [ii (q : Int), .ref 102]) (congrArg (fun z => ii z :: [.ref 102]) (h31)) ?_
        refine x_cp (pc' := 58) (v := ii (vk v : Int)) (rest := []) dm_X12_point_55 rfl (q_inv (As := [ii (q : Int)]) (S := []) hm rfl rfl rfl) rfl rfl rfl (r_kindOf_ (e := 6) hm (by omega) hB0 hv) ?_
        refine me0 (pc' := 60) (S' := [ii 6, ii (vk v : Int)]) dm_X12_point_58 rfl rfl rfl rfl ?_
        refine y_2lt (a := (vk v : Int)) (b := 6) (t := 79) (pc' := 63) dm_X12_point_60 rfl rfl (by omega) (fun hb4 => ?_) (fun hb4 => ?_)
        · refine me0 (pc' := 80) (S' := [ii 0]) dm_X12_point_79 rfl rfl rfl rfl ?_
          refine y_ret (r := some (ii 0)) dm_X12_point_80 rfl rfl rfl ?_
          exact ⟨_, rfl, rfl, rfl⟩
        · refine me1 (pc' := 64) (L' := [(0, .ref 102), (1, ii what), (2, ii k)]) (S' := [ii k]) dm_X12_point_63 rfl rfl rfl rfl ?_
          refine y_1lt (a := k) (t := 79) (pc' := 67) dm_X12_point_64 rfl rfl (by omega) (fun hb5 => ?_) (fun hb5 => ?_)
          · refine me0 (pc' := 80) (S' := [ii 0]) dm_X12_point_79 rfl rfl rfl rfl ?_
            refine y_ret (r := some (ii 0)) dm_X12_point_80 rfl rfl rfl ?_
            exact ⟨_, rfl, rfl, rfl⟩
          · refine me1 (pc' := 68) (L' := [(0, .ref 102), (1, ii what), (2, ii k)]) (S' := [ii k]) dm_X12_point_67 rfl rfl rfl rfl ?_
            refine me1 (pc' := 69) (L' := [(0, .ref 102), (1, ii what), (2, ii k)]) (S' := [.ref 102, ii k]) dm_X12_point_68 rfl rfl rfl rfl ?_
            refine me1 (pc' := 70) (L' := [(0, .ref 102), (1, ii what), (2, ii k)]) (S' := [.ref 102, .ref 102, ii k]) dm_X12_point_69 rfl rfl rfl rfl ?_
            refine me3 (pc' := 73) (S' := [ii (s.1 31), .ref 102, ii k]) dm_X12_point_70 (q_geti (v := s.1 31) hm rfl (fun m i l => rg_31 m i l) rfl) rfl rfl rfl ?_
            refine pg_st0 (S' := [ii (q : Int), .ref 102, ii k]) (congrArg (fun z => ii z :: [.ref 102, ii k]) (h31)) ?_
            refine x_cp (pc' := 76) (v := ii (vm v : Int)) (rest := [ii k]) dm_X12_point_73 rfl (q_inv (As := [ii (q : Int)]) (S := [ii k]) hm rfl rfl rfl) rfl rfl rfl (r_many_ (e := 6) hm (by omega) hB0 hv) ?_
            refine y_2lt (a := k) (b := (vm v : Int)) (t := 81) (pc' := 79) dm_X12_point_76 rfl rfl (by omega) (fun hb6 => ?_) (fun hb6 => ?_)
            · exfalso; omega
            · refine me0 (pc' := 80) (S' := [ii 0]) dm_X12_point_79 rfl rfl rfl rfl ?_
              refine y_ret (r := some (ii 0)) dm_X12_point_80 rfl rfl rfl ?_
              exact ⟨_, rfl, rfl, rfl⟩
    · exfalso; omega
  · exfalso; omega
theorem dm_X12_point_81 : mj_dec prog_14_method_113_code 81 = some (.aload_n 0, 1) := by decide +kernel
theorem dm_X12_point_82 : mj_dec prog_14_method_113_code 82 = some (.aload_n 0, 1) := by decide +kernel
theorem dm_X12_point_83 : mj_dec prog_14_method_113_code 83 = some (.aload_n 0, 1) := by decide +kernel
theorem dm_X12_point_84 : mj_dec prog_14_method_113_code 84 = some (.getfield 112, 3) := by decide +kernel
theorem dm_X12_point_87 : mj_dec prog_14_method_113_code 87 = some (.iload_n 2, 1) := by decide +kernel
theorem dm_X12_point_88 : mj_dec prog_14_method_113_code 88 = some (.iconst 2, 1) := by decide +kernel
theorem dm_X12_point_89 : mj_dec prog_14_method_113_code 89 = some (.invokevirtual 159, 3) := by decide +kernel
theorem dm_X12_point_92 : mj_dec prog_14_method_113_code 92 = some (.putfield 112, 3) := by decide +kernel
theorem dm_X12_point_95 : mj_dec prog_14_method_113_code 95 = some (.iconst 1, 1) := by decide +kernel
theorem dm_X12_point_96 : mj_dec prog_14_method_113_code 96 = some (.ireturn, 1) := by decide +kernel
theorem r_pt2Y {xt : mj_X} {d : Nat} {pre post : mj_H} {s : RS} (hm : pre.length = 102) (hd : 10 ≤ d) {what : Int} (hwh : -2147483648 ≤ what ∧ what ≤ 2147483647) {j : Nat} (h0 : what = 2) {q : Nat} {v : VV} (hB : rB s) (h31 : s.1 31 = (q : Int)) (hv : rv s 7 q v) (hk6 : 6 ≤ vk v) (hj : j < vm v) : pgV xt d 306 [.ref 102, ii what, ii (j : Int)] (rS pre post s) (fun y h' => y = ii 1 ∧ ∃ (p : Nat) (s1 : RS), h' = rS pre post (fiS s1 31 (p : Int)) ∧ rv s1 7 p (vit v j) ∧ vwS s 2 s1 ∧ (3 ≤ p ∨ p = q ∨ p = 2)) := by
  have hB0 := hB
  obtain ⟨hB1, hB2, hB3, hB4⟩ := hB
  obtain ⟨fr, hfr, hsh, hlt, hcl, hvk, hvm, hvc, hvq, hvcl⟩ := rv_val hv
  refine x_enter pm_X12_point (L0 := [(0, .ref 102), (1, ii what), (2, ii (j : Int))]) rfl (Nat.le_of_ble_eq_true rfl) (by omega) ?_
  refine me1 (pc' := 1) (L' := [(0, .ref 102), (1, ii what), (2, ii (j : Int))]) (S' := [ii what]) dm_X12_point_0 rfl rfl rfl rfl ?_
  refine y_1ne (a := what) (t := 14) (pc' := 4) dm_X12_point_1 rfl rfl (by omega) (fun hb1 => ?_) (fun hb1 => ?_)
  · refine me1 (pc' := 15) (L' := [(0, .ref 102), (1, ii what), (2, ii (j : Int))]) (S' := [ii what]) dm_X12_point_14 rfl rfl rfl rfl ?_
    refine me0 (pc' := 16) (S' := [ii 1, ii what]) dm_X12_point_15 rfl rfl rfl rfl ?_
    refine y_2ne (a := what) (b := 1) (t := 45) (pc' := 19) dm_X12_point_16 rfl rfl (by omega) (fun hb2 => ?_) (fun hb2 => ?_)
    · refine me1 (pc' := 46) (L' := [(0, .ref 102), (1, ii what), (2, ii (j : Int))]) (S' := [ii what]) dm_X12_point_45 rfl rfl rfl rfl ?_
      refine me0 (pc' := 47) (S' := [ii 2, ii what]) dm_X12_point_46 rfl rfl rfl rfl ?_
      refine y_2ne (a := what) (b := 2) (t := 79) (pc' := 50) dm_X12_point_47 rfl rfl (by omega) (fun hb3 => ?_) (fun hb3 => ?_)
      · exfalso; omega
      · refine me1 (pc' := 51) (L' := [(0, .ref 102), (1, ii what), (2, ii (j : Int))]) (S' := [.ref 102]) dm_X12_point_50 rfl rfl rfl rfl ?_
        refine me1 (pc' := 52) (L' := [(0, .ref 102), (1, ii what), (2, ii (j : Int))]) (S' := [.ref 102, .ref 102]) dm_X12_point_51 rfl rfl rfl rfl ?_
        refine me3 (pc' := 55) (S' := [ii (s.1 31), .ref 102]) dm_X12_point_52 (q_geti (v := s.1 31) hm rfl (fun m i l => rg_31 m i l) rfl) rfl rfl rfl ?_
        refine pg_st0 (S' := [ii (q : Int), .ref 102]) (congrArg (fun z => ii z :: [.ref 102]) (h31)) ?_
        refine x_cp (pc' := 58) (v := ii (vk v : Int)) (rest := []) dm_X12_point_55 rfl (q_inv (As := [ii (q : Int)]) (S := []) hm rfl rfl rfl) rfl rfl rfl (r_kindOf_ (e := 6) hm (by omega) hB0 hv) ?_
        refine me0 (pc' := 60) (S' := [ii 6, ii (vk v : Int)]) dm_X12_point_58 rfl rfl rfl rfl ?_
        refine y_2lt (a := (vk v : Int)) (b := 6) (t := 79) (pc' := 63) dm_X12_point_60 rfl rfl (by omega) (fun hb4 => ?_) (fun hb4 => ?_)
        · exfalso; omega
        · refine me1 (pc' := 64) (L' := [(0, .ref 102), (1, ii what), (2, ii (j : Int))]) (S' := [ii (j : Int)]) dm_X12_point_63 rfl rfl rfl rfl ?_
          refine y_1lt (a := (j : Int)) (t := 79) (pc' := 67) dm_X12_point_64 rfl rfl (by omega) (fun hb5 => ?_) (fun hb5 => ?_)
          · exfalso; omega
          · refine me1 (pc' := 68) (L' := [(0, .ref 102), (1, ii what), (2, ii (j : Int))]) (S' := [ii (j : Int)]) dm_X12_point_67 rfl rfl rfl rfl ?_
            refine me1 (pc' := 69) (L' := [(0, .ref 102), (1, ii what), (2, ii (j : Int))]) (S' := [.ref 102, ii (j : Int)]) dm_X12_point_68 rfl rfl rfl rfl ?_
            refine me1 (pc' := 70) (L' := [(0, .ref 102), (1, ii what), (2, ii (j : Int))]) (S' := [.ref 102, .ref 102, ii (j : Int)]) dm_X12_point_69 rfl rfl rfl rfl ?_
            refine me3 (pc' := 73) (S' := [ii (s.1 31), .ref 102, ii (j : Int)]) dm_X12_point_70 (q_geti (v := s.1 31) hm rfl (fun m i l => rg_31 m i l) rfl) rfl rfl rfl ?_
            refine pg_st0 (S' := [ii (q : Int), .ref 102, ii (j : Int)]) (congrArg (fun z => ii z :: [.ref 102, ii (j : Int)]) (h31)) ?_
            refine x_cp (pc' := 76) (v := ii (vm v : Int)) (rest := [ii (j : Int)]) dm_X12_point_73 rfl (q_inv (As := [ii (q : Int)]) (S := [ii (j : Int)]) hm rfl rfl rfl) rfl rfl rfl (r_many_ (e := 6) hm (by omega) hB0 hv) ?_
            refine y_2lt (a := (j : Int)) (b := (vm v : Int)) (t := 81) (pc' := 79) dm_X12_point_76 rfl rfl (by omega) (fun hb6 => ?_) (fun hb6 => ?_)
            · refine me1 (pc' := 82) (L' := [(0, .ref 102), (1, ii what), (2, ii (j : Int))]) (S' := [.ref 102]) dm_X12_point_81 rfl rfl rfl rfl ?_
              refine me1 (pc' := 83) (L' := [(0, .ref 102), (1, ii what), (2, ii (j : Int))]) (S' := [.ref 102, .ref 102]) dm_X12_point_82 rfl rfl rfl rfl ?_
              refine me1 (pc' := 84) (L' := [(0, .ref 102), (1, ii what), (2, ii (j : Int))]) (S' := [.ref 102, .ref 102, .ref 102]) dm_X12_point_83 rfl rfl rfl rfl ?_
              refine me3 (pc' := 87) (S' := [ii (s.1 31), .ref 102, .ref 102]) dm_X12_point_84 (q_geti (v := s.1 31) hm rfl (fun m i l => rg_31 m i l) rfl) rfl rfl rfl ?_
              refine pg_st0 (S' := [ii (q : Int), .ref 102, .ref 102]) (congrArg (fun z => ii z :: [.ref 102, .ref 102]) (h31)) ?_
              refine me1 (pc' := 88) (L' := [(0, .ref 102), (1, ii what), (2, ii (j : Int))]) (S' := [ii (j : Int), ii (q : Int), .ref 102, .ref 102]) dm_X12_point_87 rfl rfl rfl rfl ?_
              refine me0 (pc' := 89) (S' := [ii 2, ii (j : Int), ii (q : Int), .ref 102, .ref 102]) dm_X12_point_88 rfl rfl rfl rfl ?_
              refine x_cv (pc' := 92) (rest := [.ref 102]) dm_X12_point_89 rfl (q_inv (As := [ii (q : Int), ii (j : Int), ii 2]) (S := [.ref 102]) hm rfl rfl rfl) rfl rfl rfl (r_itemAt_ (k := j) (t := 2) (e := 6) hm (by omega) hB0 hv (Or.inr (by omega)) (by omega) (by omega)) ?_
              rintro _ _ ⟨p, s1, rfl, rfl, hpv, hws, hp3⟩
              refine me3 (pc' := 95) (S' := []) (h1 := rI pre post (va_up s1.1 31 ((p : Nat) : Int)) s1.2.1 s1.2.2.1 s1.2.2.2) dm_X12_point_92 (q_puti hm rfl rfl (fun m i l v => rf_31 m i l v)) rfl rfl rfl ?_
              refine me0 (pc' := 96) (S' := [ii 1]) dm_X12_point_95 rfl rfl rfl rfl ?_
              refine y_ret (r := some (ii 1)) dm_X12_point_96 rfl rfl rfl ?_
              exact ⟨_, rfl, rfl, p, s1, rfl, hpv, hws, hp3⟩
            · exfalso; omega
    · exfalso; omega
  · exfalso; omega
