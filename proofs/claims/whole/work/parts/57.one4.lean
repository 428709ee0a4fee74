/-! sorting, as both sides do it -/
def ins (lt : Nat → Nat → Bool) (k : Nat) : Nat → (Nat → Nat) → (Nat → Nat)
  | 0, o => va_up o 0 k
  | i + 1, o => if lt k (o i) = true then ins lt k i (va_up o (i + 1) (o i)) else va_up o (i + 1) k
def srt (lt : Nat → Nat → Bool) : Nat → (Nat → Nat)
  | 0 => fun _ => 0
  | k + 1 => ins lt k k (srt lt k)
theorem up_at {α : Type} (f : Nat → α) (k j : Nat) (v : α) : va_up f k v j = if j = k then v else f j := rfl
theorem ins_stop {lt : Nat → Nat → Bool} {k i : Nat} {o : Nat → Nat} (h : i = 0 ∨ lt k (o (i - 1)) = false) : ins lt k i o = va_up o i k := by
  cases i with
  | zero => rfl
  | succ i =>
    rcases h with h | h
    · omega
    · show (if lt k (o i) = true then _ else _) = _
      rw [if_neg (by rw [show lt k (o i) = false from h]; decide)]
theorem ins_go {lt : Nat → Nat → Bool} {k i : Nat} {o : Nat → Nat} (h : 0 < i) (hl : lt k (o (i - 1)) = true) : ins lt k i o = ins lt k (i - 1) (va_up o i (o (i - 1))) := by
  obtain ⟨m, rfl⟩ : ∃ m, i = m + 1 := ⟨i - 1, by omega⟩
  show (if lt k (o m) = true then ins lt k m (va_up o (m + 1) (o m)) else _) = ins lt k m (va_up o (m + 1) (o m))
  rw [if_pos (show lt k (o m) = true from hl)]
theorem ins_lt {lt : Nat → Nat → Bool} {k n : Nat} (hk : k < n) : ∀ (i : Nat) (o : Nat → Nat), i ≤ k → (∀ j, j ≤ k → j ≠ i → o j < n) → ∀ j, j ≤ k → ins lt k i o j < n := by
  intro i
  induction i with
  | zero =>
    intro o _ ho j hj
    show va_up o 0 k j < n
    rw [up_at]
    split
    · exact hk
    · exact ho j hj (by omega)
  | succ i ih =>
    intro o hi ho j hj
    show (if lt k (o i) = true then ins lt k i (va_up o (i + 1) (o i)) else va_up o (i + 1) k) j < n
    split
    · refine ih _ (by omega) (fun j2 h1 h2 => ?_) j hj
      rw [up_at]
      split
      · exact ho i (by omega) (by omega)
      · exact ho j2 h1 (by omega)
    · rw [up_at]
      split
      · exact hk
      · exact ho j hj (by omega)
theorem srt_lt (lt : Nat → Nat → Bool) (k : Nat) : ∀ j, j < k → srt lt k j < k := by
  induction k with
  | zero => intro j hj; omega
  | succ k ih =>
    intro j hj
    exact ins_lt (by omega) k (srt lt k) (Nat.le_refl _) (fun j2 h1 h2 => by have := ih j2 (by omega); omega) j (by omega)
/-- whether one number goes ahead of another -/
def ahd (verb : Int) (x y : Int64) : Bool := if verb = 62 then decide (y.toInt < x.toInt) else decide (x.toInt < y.toInt)
abbrev vlt (verb : Int) (v : VV) : Nat → Nat → Bool := fun a b => ahd verb (vn v a) (vn v b)
/-- < > ^ -/
def m_sort (verb : Int) (v : VV) : Nat ⊕ VV := if 2 ≤ vk v ∧ vk v ≤ 5 then (if verb = 94 then .inr (vpick v (srt (vlt verb v) (vm v)) (vm v)) else .inr (vrow 4 (vm v) (fun k => Int64.ofInt ((srt (vlt verb v) (vm v) k : Nat) : Int)))) else .inl 3
theorem pg_st0 {xt : mj_X} {d own nL : Nat} {ini : Bool} {ret : Option FieldType} {cf : Nat → Option (Instr × Nat)} {pc : Nat} {L : mj_L} {S S' : List Value} {h : mj_H} {P : Option Value → mj_H → Prop} (e : S = S') (k : pgE xt d own nL ini ret cf pc L S' h P) : pgE xt d own nL ini ret cf pc L S h P := by
  rw [e]
  exact k
set_option maxRecDepth 20000 in
theorem pm_X3_isAhead : mj_mmof pg_ms 117 = some ((⟨"ArrayCalculator$OneAct", "isAhead", "(IJJ)Z"⟩, prog_5_method_7_code, 5, (Option.some Jvm.ClassFile.FieldType.boolean)), 3, false, mj_dec prog_5_method_7_code) := rfl
theorem dm_X3_isAhead_0 : mj_dec prog_5_method_7_code 0 = some (.iload_n 0, 1) := by decide +kernel
theorem dm_X3_isAhead_1 : mj_dec prog_5_method_7_code 1 = some (.bipush 62, 2) := by decide +kernel
theorem dm_X3_isAhead_3 : mj_dec prog_5_method_7_code 3 = some (.if_icmp .ne 17, 3) := by decide +kernel
theorem dm_X3_isAhead_6 : mj_dec prog_5_method_7_code 6 = some (.lload_n 1, 1) := by decide +kernel
theorem dm_X3_isAhead_7 : mj_dec prog_5_method_7_code 7 = some (.lload_n 3, 1) := by decide +kernel
theorem dm_X3_isAhead_8 : mj_dec prog_5_method_7_code 8 = some (.lcmp, 1) := by decide +kernel
theorem dm_X3_isAhead_9 : mj_dec prog_5_method_7_code 9 = some (.ifCond .le 7, 3) := by decide +kernel
theorem dm_X3_isAhead_12 : mj_dec prog_5_method_7_code 12 = some (.iconst 1, 1) := by decide +kernel
theorem dm_X3_isAhead_13 : mj_dec prog_5_method_7_code 13 = some (.goto 18, 3) := by decide +kernel
theorem dm_X3_isAhead_16 : mj_dec prog_5_method_7_code 16 = some (.iconst 0, 1) := by decide +kernel
theorem dm_X3_isAhead_17 : mj_dec prog_5_method_7_code 17 = some (.goto 14, 3) := by decide +kernel
theorem dm_X3_isAhead_20 : mj_dec prog_5_method_7_code 20 = some (.lload_n 1, 1) := by decide +kernel
theorem dm_X3_isAhead_21 : mj_dec prog_5_method_7_code 21 = some (.lload_n 3, 1) := by decide +kernel
theorem dm_X3_isAhead_22 : mj_dec prog_5_method_7_code 22 = some (.lcmp, 1) := by decide +kernel
theorem dm_X3_isAhead_23 : mj_dec prog_5_method_7_code 23 = some (.ifCond .ge 7, 3) := by decide +kernel
theorem dm_X3_isAhead_26 : mj_dec prog_5_method_7_code 26 = some (.iconst 1, 1) := by decide +kernel
theorem dm_X3_isAhead_27 : mj_dec prog_5_method_7_code 27 = some (.goto 4, 3) := by decide +kernel
theorem dm_X3_isAhead_30 : mj_dec prog_5_method_7_code 30 = some (.iconst 0, 1) := by decide +kernel
theorem dm_X3_isAhead_31 : mj_dec prog_5_method_7_code 31 = some (.ireturn, 1) := by decide +kernel
theorem o_isAhead {xt : mj_X} {d : Nat} {h : mj_H} {verb : Int} {x y : Int64} (hd : 1 ≤ d) (hverb : -2147483648 ≤ verb ∧ verb ≤ 2147483647) : pgP xt d 117 [ii verb, .long x, .long y] h (zz (ahd verb x y)) := by
  refine x_enter pm_X3_isAhead (L0 := [(0, ii verb), (1, .long x), (3, .long y)]) rfl (Nat.le_of_ble_eq_true rfl) (by omega) ?_
  refine me1 (pc' := 1) (L' := [(0, ii verb), (1, .long x), (3, .long y)]) (S' := [ii verb]) dm_X3_isAhead_0 rfl rfl rfl rfl ?_
  refine me0 (pc' := 3) (S' := [ii 62, ii verb]) dm_X3_isAhead_1 rfl rfl rfl rfl ?_
  refine y_2ne (a := verb) (b := 62) (t := 20) (pc' := 6) dm_X3_isAhead_3 rfl rfl (by omega) (fun hb1 => ?_) (fun hb1 => ?_)
  · refine me1 (pc' := 21) (L' := [(0, ii verb), (1, .long x), (3, .long y)]) (S' := [.long x]) dm_X3_isAhead_20 rfl rfl rfl rfl ?_
    refine me1 (pc' := 22) (L' := [(0, ii verb), (1, .long x), (3, .long y)]) (S' := [.long y, .long x]) dm_X3_isAhead_21 rfl rfl rfl rfl ?_
    refine y_lge (x := x) (y := y) (t := 30) (pc1 := 23) (pc' := 26) dm_X3_isAhead_22 rfl dm_X3_isAhead_23 rfl rfl (fun hb2 => ?_) (fun hb2 => ?_)
    · refine me0 (pc' := 31) (S' := [ii 0]) dm_X3_isAhead_30 rfl rfl rfl rfl ?_
      refine y_ret (r := some (ii 0)) dm_X3_isAhead_31 rfl rfl rfl ?_
      refine ⟨congrArg some ?_, rfl⟩
      unfold ahd
      first | (rw [if_pos (by omega)]; exact zf (by omega)) | (rw [if_neg (by omega)]; exact zf (by omega))
    · refine me0 (pc' := 27) (S' := [ii 1]) dm_X3_isAhead_26 rfl rfl rfl rfl ?_
      refine me2 (pc' := 31) (S' := [ii 1]) dm_X3_isAhead_27 rfl rfl rfl ?_
      refine y_ret (r := some (ii 1)) dm_X3_isAhead_31 rfl rfl rfl ?_
      refine ⟨congrArg some ?_, rfl⟩
      unfold ahd
      first | (rw [if_pos (by omega)]; exact zt (by omega)) | (rw [if_neg (by omega)]; exact zt (by omega))
  · refine me1 (pc' := 7) (L' := [(0, ii verb), (1, .long x), (3, .long y)]) (S' := [.long x]) dm_X3_isAhead_6 rfl rfl rfl rfl ?_
    refine me1 (pc' := 8) (L' := [(0, ii verb), (1, .long x), (3, .long y)]) (S' := [.long y, .long x]) dm_X3_isAhead_7 rfl rfl rfl rfl ?_
    refine y_lle (x := x) (y := y) (t := 16) (pc1 := 9) (pc' := 12) dm_X3_isAhead_8 rfl dm_X3_isAhead_9 rfl rfl (fun hb3 => ?_) (fun hb3 => ?_)
    · refine me0 (pc' := 17) (S' := [ii 0]) dm_X3_isAhead_16 rfl rfl rfl rfl ?_
      refine me2 (pc' := 31) (S' := [ii 0]) dm_X3_isAhead_17 rfl rfl rfl ?_
      refine y_ret (r := some (ii 0)) dm_X3_isAhead_31 rfl rfl rfl ?_
      refine ⟨congrArg some ?_, rfl⟩
      unfold ahd
      first | (rw [if_pos (by omega)]; exact zf (by omega)) | (rw [if_neg (by omega)]; exact zf (by omega))
    · refine me0 (pc' := 13) (S' := [ii 1]) dm_X3_isAhead_12 rfl rfl rfl rfl ?_
      refine me2 (pc' := 31) (S' := [ii 1]) dm_X3_isAhead_13 rfl rfl rfl ?_
      refine y_ret (r := some (ii 1)) dm_X3_isAhead_31 rfl rfl rfl ?_
      refine ⟨congrArg some ?_, rfl⟩
      unfold ahd
      first | (rw [if_pos (by omega)]; exact zt (by omega)) | (rw [if_neg (by omega)]; exact zt (by omega))
set_option maxRecDepth 20000 in
theorem pm_X3_placesMade : mj_mmof pg_ms 118 = some ((⟨"ArrayCalculator$OneAct", "placesMade", "(I)LArrayCalculator$Value;"⟩, prog_5_method_8_code, 4, (Option.some (Jvm.ClassFile.FieldType.object "ArrayCalculator$Value"))), 3, false, mj_dec prog_5_method_8_code) := rfl
theorem dm_X3_placesMade_0 : mj_dec prog_5_method_8_code 0 = some (.iload_n 1, 1) := by decide +kernel
theorem dm_X3_placesMade_1 : mj_dec prog_5_method_8_code 1 = some (.newarray .long, 2) := by decide +kernel
theorem dm_X3_placesMade_3 : mj_dec prog_5_method_8_code 3 = some (.astore_n 2, 1) := by decide +kernel
theorem dm_X3_placesMade_4 : mj_dec prog_5_method_8_code 4 = some (.iconst 0, 1) := by decide +kernel
theorem dm_X3_placesMade_5 : mj_dec prog_5_method_8_code 5 = some (.istore_n 3, 1) := by decide +kernel
theorem dm_X3_placesMade_6 : mj_dec prog_5_method_8_code 6 = some (.iload_n 3, 1) := by decide +kernel
theorem dm_X3_placesMade_7 : mj_dec prog_5_method_8_code 7 = some (.iload_n 1, 1) := by decide +kernel
theorem dm_X3_placesMade_8 : mj_dec prog_5_method_8_code 8 = some (.if_icmp .ge 19, 3) := by decide +kernel
theorem dm_X3_placesMade_11 : mj_dec prog_5_method_8_code 11 = some (.aload_n 2, 1) := by decide +kernel
theorem dm_X3_placesMade_12 : mj_dec prog_5_method_8_code 12 = some (.iload_n 3, 1) := by decide +kernel
theorem dm_X3_placesMade_13 : mj_dec prog_5_method_8_code 13 = some (.aload_n 0, 1) := by decide +kernel
theorem dm_X3_placesMade_14 : mj_dec prog_5_method_8_code 14 = some (.getfield 9, 3) := by decide +kernel
theorem dm_X3_placesMade_17 : mj_dec prog_5_method_8_code 17 = some (.iload_n 3, 1) := by decide +kernel
theorem dm_X3_placesMade_18 : mj_dec prog_5_method_8_code 18 = some (.iaload, 1) := by decide +kernel
theorem dm_X3_placesMade_19 : mj_dec prog_5_method_8_code 19 = some (.i2l, 1) := by decide +kernel
theorem dm_X3_placesMade_20 : mj_dec prog_5_method_8_code 20 = some (.lastore, 1) := by decide +kernel
theorem dm_X3_placesMade_21 : mj_dec prog_5_method_8_code 21 = some (.iinc 3 1, 3) := by decide +kernel
theorem dm_X3_placesMade_24 : mj_dec prog_5_method_8_code 24 = some (.goto (-18), 3) := by decide +kernel
theorem dm_X3_placesMade_27 : mj_dec prog_5_method_8_code 27 = some (.iconst 4, 1) := by decide +kernel
theorem dm_X3_placesMade_28 : mj_dec prog_5_method_8_code 28 = some (.aload_n 2, 1) := by decide +kernel
theorem dm_X3_placesMade_29 : mj_dec prog_5_method_8_code 29 = some (.invokestatic 153, 3) := by decide +kernel
theorem dm_X3_placesMade_32 : mj_dec prog_5_method_8_code 32 = some (.areturn, 1) := by decide +kernel
theorem o_placesMade {xt : mj_X} {d e n : Nat} {A : Nat → Prop} {h : mj_H} {pf : Nat → Int} {f1 : Nat → Value} (hx1 : xt 1 = some (.long, 0, f1)) (hd : 4 ≤ d) (hl : 127 ≤ h.length) (h17 : h[17]? = some (cO 3 [.ref 18, .ref 19, .ref 20, .ref 23, .ref 25])) (h18 : h[18]? = some (cI 144 pf)) (hn : n ≤ 120) (hpf : ∀ k, k < n → 0 ≤ pf k ∧ pf k ≤ 1000) : pgV xt d 118 [.ref 17, ii (n : Int)] h (vres A h (e + 1) (vrow 4 n (fun k : Nat => Int64.ofInt (pf k))) 2 (n + 9)) := by
  refine x_enter pm_X3_placesMade (L0 := [(0, .ref 17), (1, ii (n : Int))]) rfl (Nat.le_of_ble_eq_true rfl) (by omega) ?_
  refine me1 (pc' := 1) (L' := [(0, .ref 17), (1, ii (n : Int))]) (S' := [ii (n : Int)]) dm_X3_placesMade_0 rfl rfl rfl rfl ?_
  refine me3 (pc' := 3) (S' := [.ref h.length]) (h1 := h ++ [cJ n (fun _ => 0)]) dm_X3_placesMade_1 (yh_newJ (by omega) (by omega) (by omega) rfl) rfl rfl rfl ?_
  refine me1 (pc' := 4) (L' := [(2, .ref h.length), (0, .ref 17), (1, ii (n : Int))]) (S' := []) dm_X3_placesMade_3 rfl rfl rfl rfl ?_
  refine me0 (pc' := 5) (S' := [ii 0]) dm_X3_placesMade_4 rfl rfl rfl rfl ?_
  refine me1 (pc' := 6) (L' := [(3, ii 0), (2, .ref h.length), (0, .ref 17), (1, ii (n : Int))]) (S' := []) dm_X3_placesMade_5 rfl rfl rfl rfl ?_
  have lp6 : ∀ (n6 : Nat) (k : Nat), n - k = n6 → (k ≤ n) → pgE xt (d - 1) 3 4 false (Option.some (Jvm.ClassFile.FieldType.object "ArrayCalculator$Value")) (mj_dec prog_5_method_8_code) 6 [(0, .ref 17), (1, ii (n : Int)), (2, .ref h.length), (3, ii (k : Int))] [] (h ++ [cJ n (fl k (fun k : Nat => Int64.ofInt (pf k)) (fun _ => 0))]) (fun r h' => ∃ x, r = some x ∧ vres A h (e + 1) (vrow 4 n (fun k : Nat => Int64.ofInt (pf k))) 2 (n + 9) x h') := by
    intro n6
    induction n6 using Nat.strongRecOn with
    | ind n6 ih6 =>
      intro k hm6 hk
      refine me1 (pc' := 7) (L' := [(0, .ref 17), (1, ii (n : Int)), (2, .ref h.length), (3, ii (k : Int))]) (S' := [ii (k : Int)]) dm_X3_placesMade_6 rfl rfl rfl rfl ?_
      refine me1 (pc' := 8) (L' := [(0, .ref 17), (1, ii (n : Int)), (2, .ref h.length), (3, ii (k : Int))]) (S' := [ii (n : Int), ii (k : Int)]) dm_X3_placesMade_7 rfl rfl rfl rfl ?_
      refine y_2ge (a := (k : Int)) (b := (n : Int)) (t := 27) (pc' := 11) dm_X3_placesMade_8 rfl rfl (by omega) (fun hb1 => ?_) (fun hb1 => ?_)
      · refine me0 (pc' := 28) (S' := [ii 4]) dm_X3_placesMade_27 rfl rfl rfl rfl ?_
        refine me1 (pc' := 29) (L' := [(0, .ref 17), (1, ii (n : Int)), (2, .ref h.length), (3, ii (k : Int))]) (S' := [.ref h.length, ii 4]) dm_X3_placesMade_28 rfl rfl rfl rfl ?_
        refine x_cv (pc' := 32) (rest := []) dm_X3_placesMade_29 rfl (g_invs (As := [ii 4, .ref h.length]) (S := []) rfl rfl rfl) rfl rfl rfl (c_row (hx1 := hx1) (q := h.length + 1) (by omega) (by simp; omega) (by simp) (by omega) (show rowAt (fun _ => True) _ _ _ _ from Or.inr ⟨by omega, hl_new, by omega, trivial⟩) (by omega)) ?_
        rintro _ _ ⟨rfl, rfl⟩
        refine y_ret (r := some (.ref (h.length + 1))) dm_X3_placesMade_32 rfl rfl rfl ?_
        have hkn : k = n := by omega
        subst hkn
        exact ⟨_, rfl, vres_flat (w := vrow 4 k (fun k : Nat => Int64.ofInt (pf k))) (by omega) (vw1_row (by omega) (by omega) hn) (by show 2 ≤ 4; omega) (by show 4 ≤ 6; omega) (vq_row (by omega)) (fun j hj => fl_at _ _ hj) (by omega) (by omega)⟩
      · have hpk := hpf k (by omega)
        refine me1 (pc' := 12) (L' := [(0, .ref 17), (1, ii (n : Int)), (2, .ref h.length), (3, ii (k : Int))]) (S' := [.ref h.length]) dm_X3_placesMade_11 rfl rfl rfl rfl ?_
        refine me1 (pc' := 13) (L' := [(0, .ref 17), (1, ii (n : Int)), (2, .ref h.length), (3, ii (k : Int))]) (S' := [ii (k : Int), .ref h.length]) dm_X3_placesMade_12 rfl rfl rfl rfl ?_
        refine me1 (pc' := 14) (L' := [(0, .ref 17), (1, ii (n : Int)), (2, .ref h.length), (3, ii (k : Int))]) (S' := [.ref 17, ii (k : Int), .ref h.length]) dm_X3_placesMade_13 rfl rfl rfl rfl ?_
        refine me3 (pc' := 17) (S' := [.ref 18, ii (k : Int), .ref h.length]) dm_X3_placesMade_14 (g_get (v := .ref 18) (hl_app h17) rfl rfl (by decide)) rfl rfl rfl ?_
        refine me1 (pc' := 18) (L' := [(0, .ref 17), (1, ii (n : Int)), (2, .ref h.length), (3, ii (k : Int))]) (S' := [ii (k : Int), .ref 18, ii (k : Int), .ref h.length]) dm_X3_placesMade_17 rfl rfl rfl rfl ?_
        refine me3 (pc' := 19) (S' := [ii (pf k), ii (k : Int), .ref h.length]) dm_X3_placesMade_18 (yh_iald (v := pf k) (hl_app h18) (by omega) (by omega) (by omega) (by decide) rfl) rfl rfl rfl ?_
        refine y_i2l (a := pf k) dm_X3_placesMade_19 (pc' := 20) rfl (by omega) (by omega) ?_
        refine me3 (pc' := 21) (S' := []) (h1 := h ++ [cJ n (va_up (fl k (fun k : Nat => Int64.ofInt (pf k)) (fun _ => 0)) k (Int64.ofInt (pf k)))]) dm_X3_placesMade_20 (y_hs (yh_last (j := (k : Int)) hl_new (by omega) (by omega) (by omega) (by omega)) (by rw [show (k : Int).toNat = k from rfl]; exact (hl_setl))) rfl rfl rfl ?_
        refine y_iinc (pc' := 24) (L' := [(3, ii ((k : Int) + 1)), (0, .ref 17), (1, ii (n : Int)), (2, .ref h.length)]) dm_X3_placesMade_21 (y_incp (a := (k : Int)) (c := 1) rfl rfl (by decide)) rfl ?_
        refine me2 (pc' := 6) (S' := []) dm_X3_placesMade_24 rfl rfl rfl ?_
        refine pg_cast (h2 := h ++ [cJ n (fl (k + 1) (fun k : Nat => Int64.ofInt (pf k)) (fun _ => 0))]) (congrArg (fun z => h ++ [cJ n z]) (fl_s k (fun k : Nat => Int64.ofInt (pf k)) (fun _ => 0))) ?_
        exact pg_sub (L := [(0, .ref 17), (1, ii (n : Int)), (2, .ref h.length), (3, ii ((k + 1) : Int))]) rfl rfl rfl (ih6 (n - (k + 1)) (by omega) (k + 1) rfl (by omega))
  refine pg_cast (h2 := h ++ [cJ n (fl 0 (fun k : Nat => Int64.ofInt (pf k)) (fun _ => 0))]) (congrArg (fun z => h ++ [cJ n z]) (fl_0 _ _).symm) ?_
  exact pg_sub (L := [(0, .ref 17), (1, ii (n : Int)), (2, .ref h.length), (3, ii (0 : Int))]) rfl rfl rfl (lp6 _ 0 rfl (Nat.zero_le _))
set_option maxRecDepth 20000 in
theorem pm_X3_ordered : mj_mmof pg_ms 116 = some ((⟨"ArrayCalculator$OneAct", "ordered", "(ILArrayCalculator$Value;)LArrayCalculator$Value;"⟩, prog_5_method_6_code, 5, (Option.some (Jvm.ClassFile.FieldType.object "ArrayCalculator$Value"))), 3, false, mj_dec prog_5_method_6_code) := rfl
theorem dm_X3_ordered_0 : mj_dec prog_5_method_6_code 0 = some (.aload_n 2, 1) := by decide +kernel
theorem dm_X3_ordered_1 : mj_dec prog_5_method_6_code 1 = some (.invokevirtual 126, 3) := by decide +kernel
theorem dm_X3_ordered_4 : mj_dec prog_5_method_6_code 4 = some (.ifCond .ne 8, 3) := by decide +kernel
theorem dm_X3_ordered_7 : mj_dec prog_5_method_6_code 7 = some (.iconst 3, 1) := by decide +kernel
theorem dm_X3_ordered_8 : mj_dec prog_5_method_6_code 8 = some (.invokestatic 68, 3) := by decide +kernel
theorem dm_X3_ordered_11 : mj_dec prog_5_method_6_code 11 = some (.areturn, 1) := by decide +kernel
theorem dm_X3_ordered_12 : mj_dec prog_5_method_6_code 12 = some (.iconst 0, 1) := by decide +kernel
theorem dm_X3_ordered_13 : mj_dec prog_5_method_6_code 13 = some (.istore_n 3, 1) := by decide +kernel
theorem dm_X3_ordered_14 : mj_dec prog_5_method_6_code 14 = some (.iload_n 3, 1) := by decide +kernel
theorem dm_X3_ordered_15 : mj_dec prog_5_method_6_code 15 = some (.aload_n 2, 1) := by decide +kernel
theorem dm_X3_ordered_16 : mj_dec prog_5_method_6_code 16 = some (.getfield 76, 3) := by decide +kernel
theorem dm_X3_ordered_19 : mj_dec prog_5_method_6_code 19 = some (.if_icmp .ge 72, 3) := by decide +kernel
theorem dm_X3_ordered_22 : mj_dec prog_5_method_6_code 22 = some (.iload_n 3, 1) := by decide +kernel
theorem dm_X3_ordered_23 : mj_dec prog_5_method_6_code 23 = some (.istore 4, 2) := by decide +kernel
theorem dm_X3_ordered_25 : mj_dec prog_5_method_6_code 25 = some (.iload 4, 2) := by decide +kernel
theorem dm_X3_ordered_27 : mj_dec prog_5_method_6_code 27 = some (.ifCond .le 50, 3) := by decide +kernel
theorem dm_X3_ordered_30 : mj_dec prog_5_method_6_code 30 = some (.iload_n 1, 1) := by decide +kernel
theorem dm_X3_ordered_31 : mj_dec prog_5_method_6_code 31 = some (.aload_n 2, 1) := by decide +kernel
theorem dm_X3_ordered_32 : mj_dec prog_5_method_6_code 32 = some (.iload_n 3, 1) := by decide +kernel
theorem dm_X3_ordered_33 : mj_dec prog_5_method_6_code 33 = some (.invokevirtual 118, 3) := by decide +kernel
theorem dm_X3_ordered_36 : mj_dec prog_5_method_6_code 36 = some (.aload_n 2, 1) := by decide +kernel
theorem dm_X3_ordered_37 : mj_dec prog_5_method_6_code 37 = some (.aload_n 0, 1) := by decide +kernel
theorem dm_X3_ordered_38 : mj_dec prog_5_method_6_code 38 = some (.getfield 9, 3) := by decide +kernel
theorem dm_X3_ordered_41 : mj_dec prog_5_method_6_code 41 = some (.iload 4, 2) := by decide +kernel
theorem dm_X3_ordered_43 : mj_dec prog_5_method_6_code 43 = some (.iconst 1, 1) := by decide +kernel
theorem dm_X3_ordered_44 : mj_dec prog_5_method_6_code 44 = some (.isub, 1) := by decide +kernel
theorem dm_X3_ordered_45 : mj_dec prog_5_method_6_code 45 = some (.iaload, 1) := by decide +kernel
theorem dm_X3_ordered_46 : mj_dec prog_5_method_6_code 46 = some (.invokevirtual 118, 3) := by decide +kernel
theorem dm_X3_ordered_49 : mj_dec prog_5_method_6_code 49 = some (.invokestatic 146, 3) := by decide +kernel
theorem dm_X3_ordered_52 : mj_dec prog_5_method_6_code 52 = some (.ifCond .eq 25, 3) := by decide +kernel
theorem dm_X3_ordered_55 : mj_dec prog_5_method_6_code 55 = some (.aload_n 0, 1) := by decide +kernel
theorem dm_X3_ordered_56 : mj_dec prog_5_method_6_code 56 = some (.getfield 9, 3) := by decide +kernel
theorem dm_X3_ordered_59 : mj_dec prog_5_method_6_code 59 = some (.iload 4, 2) := by decide +kernel
theorem dm_X3_ordered_61 : mj_dec prog_5_method_6_code 61 = some (.aload_n 0, 1) := by decide +kernel
theorem dm_X3_ordered_62 : mj_dec prog_5_method_6_code 62 = some (.getfield 9, 3) := by decide +kernel
theorem dm_X3_ordered_65 : mj_dec prog_5_method_6_code 65 = some (.iload 4, 2) := by decide +kernel
theorem dm_X3_ordered_67 : mj_dec prog_5_method_6_code 67 = some (.iconst 1, 1) := by decide +kernel
theorem dm_X3_ordered_68 : mj_dec prog_5_method_6_code 68 = some (.isub, 1) := by decide +kernel
theorem dm_X3_ordered_69 : mj_dec prog_5_method_6_code 69 = some (.iaload, 1) := by decide +kernel
theorem dm_X3_ordered_70 : mj_dec prog_5_method_6_code 70 = some (.iastore, 1) := by decide +kernel
theorem dm_X3_ordered_71 : mj_dec prog_5_method_6_code 71 = some (.iinc 4 (-1), 3) := by decide +kernel
theorem dm_X3_ordered_74 : mj_dec prog_5_method_6_code 74 = some (.goto (-49), 3) := by decide +kernel
theorem dm_X3_ordered_77 : mj_dec prog_5_method_6_code 77 = some (.aload_n 0, 1) := by decide +kernel
theorem dm_X3_ordered_78 : mj_dec prog_5_method_6_code 78 = some (.getfield 9, 3) := by decide +kernel
theorem dm_X3_ordered_81 : mj_dec prog_5_method_6_code 81 = some (.iload 4, 2) := by decide +kernel
theorem dm_X3_ordered_83 : mj_dec prog_5_method_6_code 83 = some (.iload_n 3, 1) := by decide +kernel
theorem dm_X3_ordered_84 : mj_dec prog_5_method_6_code 84 = some (.iastore, 1) := by decide +kernel
theorem dm_X3_ordered_85 : mj_dec prog_5_method_6_code 85 = some (.iinc 3 1, 3) := by decide +kernel
theorem dm_X3_ordered_88 : mj_dec prog_5_method_6_code 88 = some (.goto (-74), 3) := by decide +kernel
theorem dm_X3_ordered_91 : mj_dec prog_5_method_6_code 91 = some (.iload_n 1, 1) := by decide +kernel
theorem dm_X3_ordered_92 : mj_dec prog_5_method_6_code 92 = some (.bipush 94, 2) := by decide +kernel
theorem dm_X3_ordered_94 : mj_dec prog_5_method_6_code 94 = some (.if_icmp .ne 18, 3) := by decide +kernel
theorem dm_X3_ordered_97 : mj_dec prog_5_method_6_code 97 = some (.aload_n 2, 1) := by decide +kernel
theorem dm_X3_ordered_98 : mj_dec prog_5_method_6_code 98 = some (.aload_n 0, 1) := by decide +kernel
theorem dm_X3_ordered_99 : mj_dec prog_5_method_6_code 99 = some (.getfield 9, 3) := by decide +kernel
theorem dm_X3_ordered_102 : mj_dec prog_5_method_6_code 102 = some (.aload_n 2, 1) := by decide +kernel
theorem dm_X3_ordered_103 : mj_dec prog_5_method_6_code 103 = some (.getfield 76, 3) := by decide +kernel
theorem dm_X3_ordered_106 : mj_dec prog_5_method_6_code 106 = some (.invokevirtual 142, 3) := by decide +kernel
theorem dm_X3_ordered_109 : mj_dec prog_5_method_6_code 109 = some (.goto 11, 3) := by decide +kernel
theorem dm_X3_ordered_112 : mj_dec prog_5_method_6_code 112 = some (.aload_n 0, 1) := by decide +kernel
theorem dm_X3_ordered_113 : mj_dec prog_5_method_6_code 113 = some (.aload_n 2, 1) := by decide +kernel
theorem dm_X3_ordered_114 : mj_dec prog_5_method_6_code 114 = some (.getfield 76, 3) := by decide +kernel
theorem dm_X3_ordered_117 : mj_dec prog_5_method_6_code 117 = some (.invokevirtual 150, 3) := by decide +kernel
theorem dm_X3_ordered_120 : mj_dec prog_5_method_6_code 120 = some (.areturn, 1) := by decide +kernel
theorem o_ordered {verb : Int} (hverb : -2147483648 ≤ verb ∧ verb ≤ 2147483647) {xt : mj_X} {d e p : Nat} {A : Nat → Prop} {h : mj_H} {v : VV} {f1 : Nat → Value} (hx1 : xt 1 = some (.long, 0, f1)) (hd : 8 ≤ d) (hl : 127 ≤ h.length) (hA : okA A h) (hH : actH h) (hv : cv A h (e + 1) p v) (he : e ≤ 20) (hset : vsz (e + 1) v ≤ 1000) : pgV xt d 116 [.ref 17, ii verb, .ref p] h (aact A h (e + 1) (m_sort verb v) 2 (vm v + 9)) := by
  have h17 := hH.1
  obtain ⟨pf0, h18⟩ := hH.2.1
  obtain ⟨nf0, h19⟩ := hH.2.2.1
  have hcv := vw1_c hv.1
  obtain ⟨row, fr, vals, hp, hp2, hpA, hvk, hvm, hvc, hvs, hvl⟩ := cv_val hv
  have hpb := hA p hpA
  have hvq9 : vk v = 6 ∨ vk v = 7 ∨ vq v = vm v := by by_cases z : vk v = 6; exact Or.inl z; by_cases y : vk v = 7; exact Or.inr (Or.inl y); exact Or.inr (Or.inr (by unfold vq; rw [if_neg z, if_neg y]))
  refine x_enter pm_X3_ordered (L0 := [(0, .ref 17), (1, ii verb), (2, .ref p)]) rfl (Nat.le_of_ble_eq_true rfl) (by omega) ?_
  refine me1 (pc' := 1) (L' := [(0, .ref 17), (1, ii verb), (2, .ref p)]) (S' := [.ref p]) dm_X3_ordered_0 rfl rfl rfl rfl ?_
  refine x_cp (pc' := 4) (v := zz (decide (2 ≤ vk v ∧ vk v ≤ 5))) (rest := []) dm_X3_ordered_1 rfl (g_inv (As := []) (S := []) hp rfl rfl rfl (by omega)) rfl rfl rfl (c_isRow (by omega) hv) ?_
  refine y_zne (c := decide (2 ≤ vk v ∧ vk v ≤ 5)) (t := 12) (pc' := 7) dm_X3_ordered_4 rfl rfl (fun hb1 => ?_) (fun hb1 => ?_)
  · replace hb1 := dT hb1
    refine me0 (pc' := 13) (S' := [ii 0]) dm_X3_ordered_12 rfl rfl rfl rfl ?_
    refine me1 (pc' := 14) (L' := [(3, ii 0), (0, .ref 17), (1, ii verb), (2, .ref p)]) (S' := []) dm_X3_ordered_13 rfl rfl rfl rfl ?_
    have lp14 : ∀ (n14 : Nat) (k : Nat) (P : Nat → Int), vm v - k = n14 → (k ≤ vm v) → (∀ j, j < k → P j = ((srt (vlt verb v) k j : Nat) : Int)) → pgE xt (d - 1) 3 5 false (Option.some (Jvm.ClassFile.FieldType.object "ArrayCalculator$Value")) (mj_dec prog_5_method_6_code) 14 [(0, .ref 17), (1, ii verb), (2, .ref p), (3, ii (k : Int))] [] ((h).set 18 (cI 144 P)) (fun r h' => ∃ x, r = some x ∧ aact A h (e + 1) (m_sort verb v) 2 (vm v + 9) x h') := by
      intro n14
      induction n14 using Nat.strongRecOn with
      | ind n14 ih14 =>
        intro k P hm14 hk hP
        refine me1 (pc' := 15) (L' := [(0, .ref 17), (1, ii verb), (2, .ref p), (3, ii (k : Int))]) (S' := [ii (k : Int)]) dm_X3_ordered_14 rfl rfl rfl rfl ?_
        refine me1 (pc' := 16) (L' := [(0, .ref 17), (1, ii verb), (2, .ref p), (3, ii (k : Int))]) (S' := [.ref p, ii (k : Int)]) dm_X3_ordered_15 rfl rfl rfl rfl ?_
        refine me3 (pc' := 19) (S' := [ii (vm v : Int), ii (k : Int)]) dm_X3_ordered_16 (g_get (v := ii (vm v : Int)) (hl_ne (by omega) hp) rfl rfl (by omega)) rfl rfl rfl ?_
        refine y_2ge (a := (k : Int)) (b := (vm v : Int)) (t := 91) (pc' := 22) dm_X3_ordered_19 rfl rfl (by omega) (fun hb2 => ?_) (fun hb2 => ?_)
        · refine me1 (pc' := 92) (L' := [(0, .ref 17), (1, ii verb), (2, .ref p), (3, ii (k : Int))]) (S' := [ii verb]) dm_X3_ordered_91 rfl rfl rfl rfl ?_
          refine me0 (pc' := 94) (S' := [ii 94, ii verb]) dm_X3_ordered_92 rfl rfl rfl rfl ?_
          refine y_2ne (a := verb) (b := 94) (t := 112) (pc' := 97) dm_X3_ordered_94 rfl rfl (by omega) (fun hb3 => ?_) (fun hb3 => ?_)
          · refine me1 (pc' := 113) (L' := [(0, .ref 17), (1, ii verb), (2, .ref p), (3, ii (k : Int))]) (S' := [.ref 17]) dm_X3_ordered_112 rfl rfl rfl rfl ?_
            refine me1 (pc' := 114) (L' := [(0, .ref 17), (1, ii verb), (2, .ref p), (3, ii (k : Int))]) (S' := [.ref p, .ref 17]) dm_X3_ordered_113 rfl rfl rfl rfl ?_
            refine me3 (pc' := 117) (S' := [ii (vm v : Int), .ref 17]) dm_X3_ordered_114 (g_get (v := ii (vm v : Int)) (hl_ne (by omega) hp) rfl rfl (by omega)) rfl rfl rfl ?_
            have hkn : k = vm v := by omega
            have hsl := srt_lt (vlt verb v) k
            have hs1 : scrS h ((h).set 18 (cI 144 P)) := scrS_set (by unfold scr; decide) h18 rfl
            have hl1 : 127 ≤ ((h).set 18 (cI 144 P)).length := by rw [hs1.1]; exact hl
            refine x_cv (pc' := 120) (rest := []) dm_X3_ordered_117 rfl (g_inv (As := [ii (vm v : Int)]) (S := []) (hl_ne (by decide) h17) rfl rfl rfl (by decide)) rfl rfl rfl (o_placesMade (A := A) (e := e) (n := vm v) (pf := P) hx1 (by omega) hl1 (hl_ne (by decide) h17) (hl_set (hl_lt h18)) (by omega) (fun j hj => by have a1 := hP j (by omega); have a2 := hsl j (by omega); omega)) ?_
            rintro x h2 hres
            obtain ⟨q, rfl⟩ := vres_ref hres
            refine y_ret (r := some (.ref q)) dm_X3_ordered_120 rfl rfl rfl ?_
            refine ⟨_, rfl, _, hs1, actH_18 hH _, ?_⟩
            first | (rw [show m_sort verb v = .inr (vpick v (srt (vlt verb v) (vm v)) (vm v)) by unfold m_sort; rw [if_pos (by omega), if_pos (by omega)]]; rw [s_pick_w hv.1, pcl_n (by omega)] at hres; exact ares_congr hres (vpick_congr (by omega) (fun j hj => by rw [hP j (by omega), hkn]; rfl))) | (rw [show m_sort verb v = .inr (vrow 4 (vm v) (fun k => Int64.ofInt ((srt (vlt verb v) (vm v) k : Nat) : Int))) by unfold m_sort; rw [if_pos (by omega), if_neg (by omega)]]; exact ares_congr (o := .inr _) hres ⟨rfl, rfl, rfl, fun j hj => by (have hj2 : j < vm v := (by rw [vq_row (by omega)] at hj; exact hj); show Int64.ofInt (P j) = Int64.ofInt _; rw [hP j (by omega), hkn]), fun z => absurd z (by show ¬ 4 = 7; omega)⟩)
          · have hkn : k = vm v := by omega
            have hsl := srt_lt (vlt verb v) k
            have hpk : ∀ j, j < vm v → -2147483648 ≤ P j ∧ P j ≤ 2147483647 ∧ (vk v ≤ 1 ∨ 0 ≤ P j ∧ P j < vm v) := fun j hj => by have a1 := hP j (by omega); have a2 := hsl j (by omega); omega
            refine me1 (pc' := 98) (L' := [(0, .ref 17), (1, ii verb), (2, .ref p), (3, ii (k : Int))]) (S' := [.ref p]) dm_X3_ordered_97 rfl rfl rfl rfl ?_
            refine me1 (pc' := 99) (L' := [(0, .ref 17), (1, ii verb), (2, .ref p), (3, ii (k : Int))]) (S' := [.ref 17, .ref p]) dm_X3_ordered_98 rfl rfl rfl rfl ?_
            refine me3 (pc' := 102) (S' := [.ref 18, .ref p]) dm_X3_ordered_99 (g_get (v := .ref 18) (hl_ne (by decide) h17) rfl rfl (by decide)) rfl rfl rfl ?_
            refine me1 (pc' := 103) (L' := [(0, .ref 17), (1, ii verb), (2, .ref p), (3, ii (k : Int))]) (S' := [.ref p, .ref 18, .ref p]) dm_X3_ordered_102 rfl rfl rfl rfl ?_
            refine me3 (pc' := 106) (S' := [ii (vm v : Int), .ref 18, .ref p]) dm_X3_ordered_103 (g_get (v := ii (vm v : Int)) (hl_ne (by omega) hp) rfl rfl (by omega)) rfl rfl rfl ?_
            have hs1 : scrS h ((h).set 18 (cI 144 P)) := scrS_set (by unfold scr; decide) h18 rfl
            have hA1 := okA_scr hA hs1
            have hl1 : 127 ≤ ((h).set 18 (cI 144 P)).length := by rw [hs1.1]; exact hl
            refine x_cv (pc' := 109) (rest := []) dm_X3_ordered_106 rfl (g_inv (As := [.ref 18, ii (vm v : Int)]) (S := []) (hl_ne (by omega) hp) rfl rfl rfl (by omega)) rfl rfl rfl (c_pick hx1 (by omega) hA1 hl1 (cv_set (nA hA (Or.inl (by decide))) hv) (hl_set (hl_lt h18)) (by decide) (by decide) (by omega) he hset (by omega) hpk) ?_
            rintro x h2 hres
            obtain ⟨q, rfl⟩ := ares_ref hres
            refine me2 (pc' := 120) (S' := [.ref q]) dm_X3_ordered_109 rfl rfl rfl ?_
            refine y_ret (r := some (.ref q)) dm_X3_ordered_120 rfl rfl rfl ?_
            refine ⟨_, rfl, _, hs1, actH_18 hH _, ?_⟩
            first | (rw [show m_sort verb v = .inr (vpick v (srt (vlt verb v) (vm v)) (vm v)) by unfold m_sort; rw [if_pos (by omega), if_pos (by omega)]]; rw [s_pick_w hv.1, pcl_n (by omega)] at hres; exact ares_congr hres (vpick_congr (by omega) (fun j hj => by rw [hP j (by omega), hkn]; rfl))) | (rw [show m_sort verb v = .inr (vrow 4 (vm v) (fun k => Int64.ofInt ((srt (vlt verb v) (vm v) k : Nat) : Int))) by unfold m_sort; rw [if_pos (by omega), if_neg (by omega)]]; exact ares_congr (o := .inr _) hres ⟨rfl, rfl, rfl, fun j hj => by (have hj2 : j < vm v := (by rw [vq_row (by omega)] at hj; exact hj); show Int64.ofInt (P j) = Int64.ofInt _; rw [hP j (by omega), hkn]), fun z => absurd z (by show ¬ 4 = 7; omega)⟩)
        · refine me1 (pc' := 23) (L' := [(0, .ref 17), (1, ii verb), (2, .ref p), (3, ii (k : Int))]) (S' := [ii (k : Int)]) dm_X3_ordered_22 rfl rfl rfl rfl ?_
          refine me1 (pc' := 25) (L' := [(4, ii (k : Int)), (0, .ref 17), (1, ii verb), (2, .ref p), (3, ii (k : Int))]) (S' := []) dm_X3_ordered_23 rfl rfl rfl rfl ?_
          have lp25 : ∀ (n25 : Nat) (i : Nat) (Q : Nat → Int) (o : Nat → Nat), i = n25 → (i ≤ k) → (srt (vlt verb v) (k + 1) = ins (vlt verb v) k i o) → (∀ j, j ≤ k → j ≠ i → Q j = ((o j : Nat) : Int)) → (∀ j, j ≤ k → j ≠ i → o j < vm v) → pgE xt (d - 1) 3 5 false (Option.some (Jvm.ClassFile.FieldType.object "ArrayCalculator$Value")) (mj_dec prog_5_method_6_code) 25 [(0, .ref 17), (1, ii verb), (2, .ref p), (3, ii (k : Int)), (4, ii ((i : Nat) : Int))] [] ((h).set 18 (cI 144 Q)) (fun r h' => ∃ x, r = some x ∧ aact A h (e + 1) (m_sort verb v) 2 (vm v + 9) x h') := by
            intro n25
            induction n25 using Nat.strongRecOn with
            | ind n25 ih25 =>
              intro i Q o hm25 hi hE hQ ho
              refine me1 (pc' := 27) (L' := [(0, .ref 17), (1, ii verb), (2, .ref p), (3, ii (k : Int)), (4, ii ((i : Nat) : Int))]) (S' := [ii ((i : Nat) : Int)]) dm_X3_ordered_25 rfl rfl rfl rfl ?_
              refine y_1le (a := ((i : Nat) : Int)) (t := 77) (pc' := 30) dm_X3_ordered_27 rfl rfl (by omega) (fun hb4 => ?_) (fun hb4 => ?_)
              · have hstop : i = 0 ∨ vlt verb v k (o (i - 1)) = false := Or.inl (by omega)
                refine me1 (pc' := 78) (L' := [(0, .ref 17), (1, ii verb), (2, .ref p), (3, ii (k : Int)), (4, ii ((i : Nat) : Int))]) (S' := [.ref 17]) dm_X3_ordered_77 rfl rfl rfl rfl ?_
                refine me3 (pc' := 81) (S' := [.ref 18]) dm_X3_ordered_78 (g_get (v := .ref 18) (hl_ne (by decide) h17) rfl rfl (by decide)) rfl rfl rfl ?_
                refine me1 (pc' := 83) (L' := [(0, .ref 17), (1, ii verb), (2, .ref p), (3, ii (k : Int)), (4, ii ((i : Nat) : Int))]) (S' := [ii ((i : Nat) : Int), .ref 18]) dm_X3_ordered_81 rfl rfl rfl rfl ?_
                refine me1 (pc' := 84) (L' := [(0, .ref 17), (1, ii verb), (2, .ref p), (3, ii (k : Int)), (4, ii ((i : Nat) : Int))]) (S' := [ii (k : Int), ii ((i : Nat) : Int), .ref 18]) dm_X3_ordered_83 rfl rfl rfl rfl ?_
                refine me3 (pc' := 85) (S' := []) (h1 := (h).set 18 (cI 144 (va_up Q i (k : Int)))) dm_X3_ordered_84 (y_hs (yh_iast (j := ((i : Nat) : Int)) (hl_set (hl_lt h18)) (by omega) (by omega) (by omega) (by decide)) (by rw [show ((i : Nat) : Int).toNat = i from rfl]; rw [List.set_set])) rfl rfl rfl ?_
                refine y_iinc (pc' := 88) (L' := [(3, ii ((k : Int) + 1)), (0, .ref 17), (1, ii verb), (2, .ref p), (4, ii ((i : Nat) : Int))]) dm_X3_ordered_85 (y_incp (a := (k : Int)) (c := 1) rfl rfl (by decide)) rfl ?_
                refine me2 (pc' := 14) (S' := []) dm_X3_ordered_88 rfl rfl rfl ?_
                exact pg_sub (L := [(0, .ref 17), (1, ii verb), (2, .ref p), (3, ii ((k + 1) : Int))]) rfl rfl rfl (ih14 (vm v - (k + 1)) (by omega) (k + 1) (va_up Q i (k : Int)) rfl (by omega) (fun j hj => by rw [hE, ins_stop hstop, up_at, up_at]; by_cases z : j = i; (rw [if_pos z, if_pos z]); (rw [if_neg z, if_neg z]; exact hQ j (by omega) z)))
              · have hoi := ho (i - 1) (by omega) (by omega)
                have hQi : Q ((i : Int) - 1).toNat = ((o (i - 1) : Nat) : Int) := by rw [show ((i : Int) - 1).toNat = i - 1 by omega]; exact hQ _ (by omega) (by omega)
                have hv1 : vnum v (k : Int) = vn v k := by rw [vnum_r (by omega) (by omega) (by omega)]; rfl
                have hv2 : vnum v ((o (i - 1) : Nat) : Int) = vn v (o (i - 1)) := by rw [vnum_r (by omega) (by omega) (by omega)]; rfl
                refine me1 (pc' := 31) (L' := [(0, .ref 17), (1, ii verb), (2, .ref p), (3, ii (k : Int)), (4, ii ((i : Nat) : Int))]) (S' := [ii verb]) dm_X3_ordered_30 rfl rfl rfl rfl ?_
                refine me1 (pc' := 32) (L' := [(0, .ref 17), (1, ii verb), (2, .ref p), (3, ii (k : Int)), (4, ii ((i : Nat) : Int))]) (S' := [.ref p, ii verb]) dm_X3_ordered_31 rfl rfl rfl rfl ?_
                refine me1 (pc' := 33) (L' := [(0, .ref 17), (1, ii verb), (2, .ref p), (3, ii (k : Int)), (4, ii ((i : Nat) : Int))]) (S' := [ii (k : Int), .ref p, ii verb]) dm_X3_ordered_32 rfl rfl rfl rfl ?_
                refine x_cp (pc' := 36) (v := .long (vnum v (k : Int))) (rest := [ii verb]) dm_X3_ordered_33 rfl (g_inv (As := [ii (k : Int)]) (S := [ii verb]) (hl_ne (by omega) hp) rfl rfl rfl (by omega)) rfl rfl rfl (c_numberAt (i := (k : Int)) hx1 (by omega) (cv_set (nA hA (Or.inl (by decide))) hv) (by omega)) ?_
                refine me1 (pc' := 37) (L' := [(0, .ref 17), (1, ii verb), (2, .ref p), (3, ii (k : Int)), (4, ii ((i : Nat) : Int))]) (S' := [.ref p, .long (vnum v (k : Int)), ii verb]) dm_X3_ordered_36 rfl rfl rfl rfl ?_
                refine me1 (pc' := 38) (L' := [(0, .ref 17), (1, ii verb), (2, .ref p), (3, ii (k : Int)), (4, ii ((i : Nat) : Int))]) (S' := [.ref 17, .ref p, .long (vnum v (k : Int)), ii verb]) dm_X3_ordered_37 rfl rfl rfl rfl ?_
                refine me3 (pc' := 41) (S' := [.ref 18, .ref p, .long (vnum v (k : Int)), ii verb]) dm_X3_ordered_38 (g_get (v := .ref 18) (hl_ne (by decide) h17) rfl rfl (by decide)) rfl rfl rfl ?_
                refine me1 (pc' := 43) (L' := [(0, .ref 17), (1, ii verb), (2, .ref p), (3, ii (k : Int)), (4, ii ((i : Nat) : Int))]) (S' := [ii ((i : Nat) : Int), .ref 18, .ref p, .long (vnum v (k : Int)), ii verb]) dm_X3_ordered_41 rfl rfl rfl rfl ?_
                refine me0 (pc' := 44) (S' := [ii 1, ii ((i : Nat) : Int), .ref 18, .ref p, .long (vnum v (k : Int)), ii verb]) dm_X3_ordered_43 rfl rfl rfl rfl ?_
                refine y_isub (a := ((i : Nat) : Int)) (b := 1) dm_X3_ordered_44 (pc' := 45) rfl ?_
                refine me3 (pc' := 46) (S' := [ii (Q ((((i : Nat) : Int) - 1).toNat)), .ref p, .long (vnum v (k : Int)), ii verb]) dm_X3_ordered_45 (yh_iald (v := Q ((((i : Nat) : Int) - 1).toNat)) (hl_set (hl_lt h18)) (by omega) (by omega) (by omega) (by decide) rfl) rfl rfl rfl ?_
                refine pg_st0 (S' := [ii ((o (i - 1) : Nat) : Int), .ref p, .long (vnum v (k : Int)), ii verb]) (congrArg (fun z => ii z :: [.ref p, .long (vnum v (k : Int)), ii verb]) (hQi)) ?_
                refine x_cp (pc' := 49) (v := .long (vnum v ((o (i - 1) : Nat) : Int))) (rest := [.long (vnum v (k : Int)), ii verb]) dm_X3_ordered_46 rfl (g_inv (As := [ii ((o (i - 1) : Nat) : Int)]) (S := [.long (vnum v (k : Int)), ii verb]) (hl_ne (by omega) hp) rfl rfl rfl (by omega)) rfl rfl rfl (c_numberAt (i := ((o (i - 1) : Nat) : Int)) hx1 (by omega) (cv_set (nA hA (Or.inl (by decide))) hv) (by omega)) ?_
                refine x_cp (pc' := 52) (v := zz (ahd verb (vnum v (k : Int)) (vnum v ((o (i - 1) : Nat) : Int)))) (rest := []) dm_X3_ordered_49 rfl (g_invs (As := [ii verb, .long (vnum v (k : Int)), .long (vnum v ((o (i - 1) : Nat) : Int))]) (S := []) rfl rfl rfl) rfl rfl rfl (o_isAhead (by omega) hverb) ?_
                refine y_zeq (c := ahd verb (vnum v (k : Int)) (vnum v ((o (i - 1) : Nat) : Int))) (t := 77) (pc' := 55) dm_X3_ordered_52 rfl rfl (fun hb5 => ?_) (fun hb5 => ?_)
                · have hstop : i = 0 ∨ vlt verb v k (o (i - 1)) = false := Or.inr (by show ahd verb (vn v k) (vn v (o (i - 1))) = false; rw [← hv1, ← hv2]; exact hb5)
                  refine me1 (pc' := 78) (L' := [(0, .ref 17), (1, ii verb), (2, .ref p), (3, ii (k : Int)), (4, ii ((i : Nat) : Int))]) (S' := [.ref 17]) dm_X3_ordered_77 rfl rfl rfl rfl ?_
                  refine me3 (pc' := 81) (S' := [.ref 18]) dm_X3_ordered_78 (g_get (v := .ref 18) (hl_ne (by decide) h17) rfl rfl (by decide)) rfl rfl rfl ?_
                  refine me1 (pc' := 83) (L' := [(0, .ref 17), (1, ii verb), (2, .ref p), (3, ii (k : Int)), (4, ii ((i : Nat) : Int))]) (S' := [ii ((i : Nat) : Int), .ref 18]) dm_X3_ordered_81 rfl rfl rfl rfl ?_
                  refine me1 (pc' := 84) (L' := [(0, .ref 17), (1, ii verb), (2, .ref p), (3, ii (k : Int)), (4, ii ((i : Nat) : Int))]) (S' := [ii (k : Int), ii ((i : Nat) : Int), .ref 18]) dm_X3_ordered_83 rfl rfl rfl rfl ?_
                  refine me3 (pc' := 85) (S' := []) (h1 := (h).set 18 (cI 144 (va_up Q i (k : Int)))) dm_X3_ordered_84 (y_hs (yh_iast (j := ((i : Nat) : Int)) (hl_set (hl_lt h18)) (by omega) (by omega) (by omega) (by decide)) (by rw [show ((i : Nat) : Int).toNat = i from rfl]; rw [List.set_set])) rfl rfl rfl ?_
                  refine y_iinc (pc' := 88) (L' := [(3, ii ((k : Int) + 1)), (0, .ref 17), (1, ii verb), (2, .ref p), (4, ii ((i : Nat) : Int))]) dm_X3_ordered_85 (y_incp (a := (k : Int)) (c := 1) rfl rfl (by decide)) rfl ?_
                  refine me2 (pc' := 14) (S' := []) dm_X3_ordered_88 rfl rfl rfl ?_
                  exact pg_sub (L := [(0, .ref 17), (1, ii verb), (2, .ref p), (3, ii ((k + 1) : Int))]) rfl rfl rfl (ih14 (vm v - (k + 1)) (by omega) (k + 1) (va_up Q i (k : Int)) rfl (by omega) (fun j hj => by rw [hE, ins_stop hstop, up_at, up_at]; by_cases z : j = i; (rw [if_pos z, if_pos z]); (rw [if_neg z, if_neg z]; exact hQ j (by omega) z)))
                · have hlt : vlt verb v k (o (i - 1)) = true := by show ahd verb (vn v k) (vn v (o (i - 1))) = true; rw [← hv1, ← hv2]; exact hb5
                  refine me1 (pc' := 56) (L' := [(0, .ref 17), (1, ii verb), (2, .ref p), (3, ii (k : Int)), (4, ii ((i : Nat) : Int))]) (S' := [.ref 17]) dm_X3_ordered_55 rfl rfl rfl rfl ?_
                  refine me3 (pc' := 59) (S' := [.ref 18]) dm_X3_ordered_56 (g_get (v := .ref 18) (hl_ne (by decide) h17) rfl rfl (by decide)) rfl rfl rfl ?_
                  refine me1 (pc' := 61) (L' := [(0, .ref 17), (1, ii verb), (2, .ref p), (3, ii (k : Int)), (4, ii ((i : Nat) : Int))]) (S' := [ii ((i : Nat) : Int), .ref 18]) dm_X3_ordered_59 rfl rfl rfl rfl ?_
                  refine me1 (pc' := 62) (L' := [(0, .ref 17), (1, ii verb), (2, .ref p), (3, ii (k : Int)), (4, ii ((i : Nat) : Int))]) (S' := [.ref 17, ii ((i : Nat) : Int), .ref 18]) dm_X3_ordered_61 rfl rfl rfl rfl ?_
                  refine me3 (pc' := 65) (S' := [.ref 18, ii ((i : Nat) : Int), .ref 18]) dm_X3_ordered_62 (g_get (v := .ref 18) (hl_ne (by decide) h17) rfl rfl (by decide)) rfl rfl rfl ?_
                  refine me1 (pc' := 67) (L' := [(0, .ref 17), (1, ii verb), (2, .ref p), (3, ii (k : Int)), (4, ii ((i : Nat) : Int))]) (S' := [ii ((i : Nat) : Int), .ref 18, ii ((i : Nat) : Int), .ref 18]) dm_X3_ordered_65 rfl rfl rfl rfl ?_
                  refine me0 (pc' := 68) (S' := [ii 1, ii ((i : Nat) : Int), .ref 18, ii ((i : Nat) : Int), .ref 18]) dm_X3_ordered_67 rfl rfl rfl rfl ?_
                  refine y_isub (a := ((i : Nat) : Int)) (b := 1) dm_X3_ordered_68 (pc' := 69) rfl ?_
                  refine me3 (pc' := 70) (S' := [ii (Q ((((i : Nat) : Int) - 1).toNat)), ii ((i : Nat) : Int), .ref 18]) dm_X3_ordered_69 (yh_iald (v := Q ((((i : Nat) : Int) - 1).toNat)) (hl_set (hl_lt h18)) (by omega) (by omega) (by omega) (by decide) rfl) rfl rfl rfl ?_
                  refine pg_st0 (S' := [ii ((o (i - 1) : Nat) : Int), ii ((i : Nat) : Int), .ref 18]) (congrArg (fun z => ii z :: [ii ((i : Nat) : Int), .ref 18]) (hQi)) ?_
                  refine me3 (pc' := 71) (S' := []) (h1 := (h).set 18 (cI 144 (va_up Q i ((o (i - 1) : Nat) : Int)))) dm_X3_ordered_70 (y_hs (yh_iast (j := ((i : Nat) : Int)) (hl_set (hl_lt h18)) (by omega) (by omega) (by omega) (by decide)) (by rw [show ((i : Nat) : Int).toNat = i from rfl]; rw [List.set_set])) rfl rfl rfl ?_
                  refine y_iinc (pc' := 74) (L' := [(4, ii (((i : Nat) : Int) + (-1))), (0, .ref 17), (1, ii verb), (2, .ref p), (3, ii (k : Int))]) dm_X3_ordered_71 (y_incp (a := ((i : Nat) : Int)) (c := (-1)) rfl rfl (by decide)) rfl ?_
                  rw [show ((i : Nat) : Int) + (-1) = ((i - 1 : Nat) : Int) by omega]
                  refine me2 (pc' := 25) (S' := []) dm_X3_ordered_74 rfl rfl rfl ?_
                  exact pg_sub (L := [(0, .ref 17), (1, ii verb), (2, .ref p), (3, ii (k : Int)), (4, ii (((i - 1) : Nat) : Int))]) rfl rfl rfl (ih25 (i - 1) (by omega) (i - 1) (va_up Q i ((o (i - 1) : Nat) : Int)) (va_up o i (o (i - 1))) rfl (by omega) (hE.trans (ins_go (by omega) hlt)) (fun j h1 h2 => by rw [up_at, up_at]; by_cases z : j = i; (rw [if_pos z, if_pos z]); (rw [if_neg z, if_neg z]; exact hQ j h1 z)) (fun j h1 h2 => by rw [up_at]; by_cases z : j = i; (rw [if_pos z]; exact ho (i - 1) (by omega) (by omega)); (rw [if_neg z]; exact ho j h1 z)))
          exact pg_sub (L := [(0, .ref 17), (1, ii verb), (2, .ref p), (3, ii (k : Int)), (4, ii ((k : Nat) : Int))]) rfl rfl rfl (lp25 _ k P (srt (vlt verb v) k) rfl (Nat.le_refl _) rfl (fun j h1 h2 => hP j (by omega)) (fun j h1 h2 => by have := srt_lt (vlt verb v) k j (by omega); omega))
    refine pg_cast (h2 := (h).set 18 (cI 144 pf0)) (hl_self h18).symm ?_
    exact pg_sub (L := [(0, .ref 17), (1, ii verb), (2, .ref p), (3, ii (0 : Int))]) rfl rfl rfl (lp14 _ 0 pf0 rfl (Nat.zero_le _) (fun j hj => absurd hj (Nat.not_lt_zero j)))
  · replace hb1 := dF hb1
    refine me0 (pc' := 8) (S' := [ii 3]) dm_X3_ordered_7 rfl rfl rfl rfl ?_
    refine x_cv (pc' := 11) (rest := []) dm_X3_ordered_8 rfl (g_invs (As := [ii 3]) (S := []) rfl rfl rfl) rfl rfl rfl (c_fault (q := h.length) (by omega) (by omega) rfl (by omega)) ?_
    rintro _ _ ⟨rfl, rfl⟩
    refine y_ret (r := some (.ref h.length)) dm_X3_ordered_11 rfl rfl rfl ?_
    exact ⟨_, rfl, h, scrS_rf h, hH, by rw [show m_sort verb v = .inl 3 by unfold m_sort; rw [if_neg (by omega)]]; exact ares_f 3 (by omega) (by omega) (by omega)⟩
