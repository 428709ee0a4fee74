theorem n_nar {c : Int} (h1 : -128 ≤ c) (h2 : c ≤ 127) : (Int32.ofInt c).toInt8.toInt32 = Int32.ofInt c := by
  apply Int32.toInt_inj.mp
  rw [Int8.toInt_toInt32, Int32.toInt_toInt8, n_to (by omega) (by omega)]
  exact Int.bmod_eq_of_le (by omega) (by omega)
theorem y_i2b {xt : mj_X} {d own nL : Nat} {ini : Bool} {ret : Option FieldType} {cf : Nat → Option (Instr × Nat)} {pc pc' : Nat} {L : mj_L} {S : List Value} {h : mj_H} {P : Option Value → mj_H → Prop} {a : Int} (hc : cf pc = some (.i2b, 1)) (hp : pc + 1 = pc') (h1 : -128 ≤ a) (h2 : a ≤ 127) (k : pgE xt d own nL ini ret cf pc' L (ii a :: S) h P) : pgE xt d own nL ini ret cf pc L (ii a :: S) h P :=
  me0 hc (show mj_alu .i2b (ii a :: S) = some (ii a :: S) by show some (Value.int (Int32.ofInt a).toInt8.toInt32 :: S) = _; rw [n_nar h1 h2]) rfl rfl hp k
theorem yh_bast {T : mj_T} {xt : mj_X} {ini : Bool} {S : List Value} {h : mj_H} {a n : Nat} {j v : Int} {f : Nat → Int} (hg : h[a]? = some (cB n f)) (h0 : 0 ≤ j) (h1 : j < n) (h2 : (n : Int) ≤ 2147483647) (ha : 2 ≤ a) (h3 : -128 ≤ v) (h4 : v ≤ 127) : mj_hp T xt pg_tl 2 ini .bastore (ii v :: ii j :: .ref a :: S) h = some (S, h.set a (cB n (va_up f j.toNat v))) :=
  g_bast hg (by rw [n_cl (by omega) (by omega), show vp_nar .byte (Int32.ofInt v) = Int32.ofInt v from n_nar h3 h4, n_upd]) rfl (g_ok h0 h1 h2) ha
/-- one byte more, where there is room -/
def addP (h : mj_H) (o b g n : Nat) (f : Nat → Int) (m : Nat) (c : Int) : mj_H := if m < n then (h.set b (cB n (va_up f m c))).set o (cO 6 [.ref b, .ref g, ii ((m + 1 : Nat) : Int)]) else h
set_option maxRecDepth 20000 in
theorem pm_X6_clear : mj_mmof pg_ms 134 = some ((⟨"ArrayCalculator$Printer", "clear", "()V"⟩, prog_8_method_2_code, 1, (Option.none : Option Jvm.ClassFile.FieldType)), 6, false, mj_dec prog_8_method_2_code) := rfl
theorem dm_X6_clear_0 : mj_dec prog_8_method_2_code 0 = some (.aload_n 0, 1) := by decide +kernel
theorem dm_X6_clear_1 : mj_dec prog_8_method_2_code 1 = some (.iconst 0, 1) := by decide +kernel
theorem dm_X6_clear_2 : mj_dec prog_8_method_2_code 2 = some (.putfield 18, 3) := by decide +kernel
theorem dm_X6_clear_5 : mj_dec prog_8_method_2_code 5 = some (.return_, 1) := by decide +kernel
theorem k_clear {xt : mj_X} {d : Nat} {h : mj_H} {o b g n m : Nat} {f : Nat → Int} (hd : 1 ≤ d) (ho2 : 2 ≤ o ∧ 2 ≤ b ∧ o ≠ b) (ho : h[o]? = some (cO 6 [.ref b, .ref g, ii (m : Int)])) (hb_ : h[b]? = some (cB n f)) (hm : m ≤ n) (hn : n ≤ 100000) : pgN xt d 134 [.ref o] h (fun h' => h' = h.set o (cO 6 [.ref b, .ref g, ii 0])) := by
  refine x_enter pm_X6_clear (L0 := [(0, .ref o)]) rfl (Nat.le_of_ble_eq_true rfl) (by omega) ?_
  refine me1 (pc' := 1) (L' := [(0, .ref o)]) (S' := [.ref o]) dm_X6_clear_0 rfl rfl rfl rfl ?_
  refine me0 (pc' := 2) (S' := [ii 0, .ref o]) dm_X6_clear_1 rfl rfl rfl rfl ?_
  refine me3 (pc' := 5) (S' := []) (h1 := (h).set o (cO 6 [.ref b, .ref g, ii 0])) dm_X6_clear_2 (g_put (fs' := [.ref b, .ref g, ii 0]) ho rfl rfl rfl (by simp) rfl (by decide) (fun z => by cases z) (by omega)) rfl rfl rfl ?_
  refine y_ret (r := none) dm_X6_clear_5 rfl rfl rfl ?_
  exact ⟨rfl, rfl⟩
set_option maxRecDepth 20000 in
theorem pm_X6_length : mj_mmof pg_ms 140 = some ((⟨"ArrayCalculator$Printer", "length", "()I"⟩, prog_8_method_3_code, 1, (Option.some Jvm.ClassFile.FieldType.int)), 6, false, mj_dec prog_8_method_3_code) := rfl
theorem dm_X6_length_0 : mj_dec prog_8_method_3_code 0 = some (.aload_n 0, 1) := by decide +kernel
theorem dm_X6_length_1 : mj_dec prog_8_method_3_code 1 = some (.getfield 18, 3) := by decide +kernel
theorem dm_X6_length_4 : mj_dec prog_8_method_3_code 4 = some (.ireturn, 1) := by decide +kernel
theorem k_length {xt : mj_X} {d : Nat} {h : mj_H} {o b g n m : Nat} {f : Nat → Int} (hd : 1 ≤ d) (ho2 : 2 ≤ o ∧ 2 ≤ b ∧ o ≠ b) (ho : h[o]? = some (cO 6 [.ref b, .ref g, ii (m : Int)])) (hb_ : h[b]? = some (cB n f)) (hm : m ≤ n) (hn : n ≤ 100000) : pgP xt d 140 [.ref o] h (ii (m : Int)) := by
  refine x_enter pm_X6_length (L0 := [(0, .ref o)]) rfl (Nat.le_of_ble_eq_true rfl) (by omega) ?_
  refine me1 (pc' := 1) (L' := [(0, .ref o)]) (S' := [.ref o]) dm_X6_length_0 rfl rfl rfl rfl ?_
  refine me3 (pc' := 4) (S' := [ii (m : Int)]) dm_X6_length_1 (g_get (v := ii (m : Int)) ho rfl rfl (by omega)) rfl rfl rfl ?_
  refine y_ret (r := some (ii (m : Int))) dm_X6_length_4 rfl rfl rfl ?_
  exact ⟨rfl, rfl⟩
set_option maxRecDepth 20000 in
theorem pm_X6_byteAt : mj_mmof pg_ms 141 = some ((⟨"ArrayCalculator$Printer", "byteAt", "(I)I"⟩, prog_8_method_4_code, 2, (Option.some Jvm.ClassFile.FieldType.int)), 6, false, mj_dec prog_8_method_4_code) := rfl
theorem dm_X6_byteAt_0 : mj_dec prog_8_method_4_code 0 = some (.iload_n 1, 1) := by decide +kernel
theorem dm_X6_byteAt_1 : mj_dec prog_8_method_4_code 1 = some (.ifCond .lt 20, 3) := by decide +kernel
theorem dm_X6_byteAt_4 : mj_dec prog_8_method_4_code 4 = some (.iload_n 1, 1) := by decide +kernel
theorem dm_X6_byteAt_5 : mj_dec prog_8_method_4_code 5 = some (.aload_n 0, 1) := by decide +kernel
theorem dm_X6_byteAt_6 : mj_dec prog_8_method_4_code 6 = some (.getfield 18, 3) := by decide +kernel
theorem dm_X6_byteAt_9 : mj_dec prog_8_method_4_code 9 = some (.if_icmp .ge 12, 3) := by decide +kernel
theorem dm_X6_byteAt_12 : mj_dec prog_8_method_4_code 12 = some (.aload_n 0, 1) := by decide +kernel
theorem dm_X6_byteAt_13 : mj_dec prog_8_method_4_code 13 = some (.getfield 15, 3) := by decide +kernel
theorem dm_X6_byteAt_16 : mj_dec prog_8_method_4_code 16 = some (.iload_n 1, 1) := by decide +kernel
theorem dm_X6_byteAt_17 : mj_dec prog_8_method_4_code 17 = some (.baload, 1) := by decide +kernel
theorem dm_X6_byteAt_18 : mj_dec prog_8_method_4_code 18 = some (.goto 4, 3) := by decide +kernel
theorem dm_X6_byteAt_21 : mj_dec prog_8_method_4_code 21 = some (.iconst (-1), 1) := by decide +kernel
theorem dm_X6_byteAt_22 : mj_dec prog_8_method_4_code 22 = some (.ireturn, 1) := by decide +kernel
theorem k_byteAt {xt : mj_X} {d : Nat} {h : mj_H} {o b g n m : Nat} {f : Nat → Int} (hd : 1 ≤ d) (ho2 : 2 ≤ o ∧ 2 ≤ b ∧ o ≠ b) (ho : h[o]? = some (cO 6 [.ref b, .ref g, ii (m : Int)])) (hb_ : h[b]? = some (cB n f)) (hm : m ≤ n) (hn : n ≤ 100000) {k : Int} (hk : -2147483648 ≤ k ∧ k ≤ 2147483647) : pgP xt d 141 [.ref o, ii k] h (ii (if 0 ≤ k ∧ k < (m : Int) then f k.toNat else -1)) := by
  refine x_enter pm_X6_byteAt (L0 := [(0, .ref o), (1, ii k)]) rfl (Nat.le_of_ble_eq_true rfl) (by omega) ?_
  refine me1 (pc' := 1) (L' := [(0, .ref o), (1, ii k)]) (S' := [ii k]) dm_X6_byteAt_0 rfl rfl rfl rfl ?_
  refine y_1lt (a := k) (t := 21) (pc' := 4) dm_X6_byteAt_1 rfl rfl (by omega) (fun hb1 => ?_) (fun hb1 => ?_)
  · refine me0 (pc' := 22) (S' := [ii (-1)]) dm_X6_byteAt_21 rfl rfl rfl rfl ?_
    refine y_ret (r := some (ii (-1))) dm_X6_byteAt_22 rfl rfl rfl ?_
    refine ⟨congrArg some (n_ii ?_), rfl⟩
    rw [if_neg (by omega)]
  · refine me1 (pc' := 5) (L' := [(0, .ref o), (1, ii k)]) (S' := [ii k]) dm_X6_byteAt_4 rfl rfl rfl rfl ?_
    refine me1 (pc' := 6) (L' := [(0, .ref o), (1, ii k)]) (S' := [.ref o, ii k]) dm_X6_byteAt_5 rfl rfl rfl rfl ?_
    refine me3 (pc' := 9) (S' := [ii (m : Int), ii k]) dm_X6_byteAt_6 (g_get (v := ii (m : Int)) ho rfl rfl (by omega)) rfl rfl rfl ?_
    refine y_2ge (a := k) (b := (m : Int)) (t := 21) (pc' := 12) dm_X6_byteAt_9 rfl rfl (by omega) (fun hb2 => ?_) (fun hb2 => ?_)
    · refine me0 (pc' := 22) (S' := [ii (-1)]) dm_X6_byteAt_21 rfl rfl rfl rfl ?_
      refine y_ret (r := some (ii (-1))) dm_X6_byteAt_22 rfl rfl rfl ?_
      refine ⟨congrArg some (n_ii ?_), rfl⟩
      rw [if_neg (by omega)]
    · refine me1 (pc' := 13) (L' := [(0, .ref o), (1, ii k)]) (S' := [.ref o]) dm_X6_byteAt_12 rfl rfl rfl rfl ?_
      refine me3 (pc' := 16) (S' := [.ref b]) dm_X6_byteAt_13 (g_get (v := .ref b) ho rfl rfl (by omega)) rfl rfl rfl ?_
      refine me1 (pc' := 17) (L' := [(0, .ref o), (1, ii k)]) (S' := [ii k, .ref b]) dm_X6_byteAt_16 rfl rfl rfl rfl ?_
      refine me3 (pc' := 18) (S' := [ii (f k.toNat)]) dm_X6_byteAt_17 (yh_bald (v := f k.toNat) hb_ (by omega) (by omega) (by omega) (by omega) rfl) rfl rfl rfl ?_
      refine me2 (pc' := 22) (S' := [ii (f k.toNat)]) dm_X6_byteAt_18 rfl rfl rfl ?_
      refine y_ret (r := some (ii (f k.toNat))) dm_X6_byteAt_22 rfl rfl rfl ?_
      refine ⟨congrArg some (n_ii ?_), rfl⟩
      rw [if_pos (by omega)]
set_option maxRecDepth 20000 in
theorem pm_X6_add : mj_mmof pg_ms 138 = some ((⟨"ArrayCalculator$Printer", "add", "(I)V"⟩, prog_8_method_6_code, 2, (Option.none : Option Jvm.ClassFile.FieldType)), 6, false, mj_dec prog_8_method_6_code) := rfl
theorem dm_X6_add_0 : mj_dec prog_8_method_6_code 0 = some (.aload_n 0, 1) := by decide +kernel
theorem dm_X6_add_1 : mj_dec prog_8_method_6_code 1 = some (.getfield 18, 3) := by decide +kernel
theorem dm_X6_add_4 : mj_dec prog_8_method_6_code 4 = some (.aload_n 0, 1) := by decide +kernel
theorem dm_X6_add_5 : mj_dec prog_8_method_6_code 5 = some (.getfield 15, 3) := by decide +kernel
theorem dm_X6_add_8 : mj_dec prog_8_method_6_code 8 = some (.arraylength, 1) := by decide +kernel
theorem dm_X6_add_9 : mj_dec prog_8_method_6_code 9 = some (.if_icmp .ge 24, 3) := by decide +kernel
theorem dm_X6_add_12 : mj_dec prog_8_method_6_code 12 = some (.aload_n 0, 1) := by decide +kernel
theorem dm_X6_add_13 : mj_dec prog_8_method_6_code 13 = some (.getfield 15, 3) := by decide +kernel
theorem dm_X6_add_16 : mj_dec prog_8_method_6_code 16 = some (.aload_n 0, 1) := by decide +kernel
theorem dm_X6_add_17 : mj_dec prog_8_method_6_code 17 = some (.getfield 18, 3) := by decide +kernel
theorem dm_X6_add_20 : mj_dec prog_8_method_6_code 20 = some (.iload_n 1, 1) := by decide +kernel
theorem dm_X6_add_21 : mj_dec prog_8_method_6_code 21 = some (.i2b, 1) := by decide +kernel
theorem dm_X6_add_22 : mj_dec prog_8_method_6_code 22 = some (.bastore, 1) := by decide +kernel
theorem dm_X6_add_23 : mj_dec prog_8_method_6_code 23 = some (.aload_n 0, 1) := by decide +kernel
theorem dm_X6_add_24 : mj_dec prog_8_method_6_code 24 = some (.dup, 1) := by decide +kernel
theorem dm_X6_add_25 : mj_dec prog_8_method_6_code 25 = some (.getfield 18, 3) := by decide +kernel
theorem dm_X6_add_28 : mj_dec prog_8_method_6_code 28 = some (.iconst 1, 1) := by decide +kernel
theorem dm_X6_add_29 : mj_dec prog_8_method_6_code 29 = some (.iadd, 1) := by decide +kernel
theorem dm_X6_add_30 : mj_dec prog_8_method_6_code 30 = some (.putfield 18, 3) := by decide +kernel
theorem dm_X6_add_33 : mj_dec prog_8_method_6_code 33 = some (.return_, 1) := by decide +kernel
theorem k_add {xt : mj_X} {d : Nat} {h : mj_H} {o b g n m : Nat} {f : Nat → Int} (hd : 1 ≤ d) (ho2 : 2 ≤ o ∧ 2 ≤ b ∧ o ≠ b) (ho : h[o]? = some (cO 6 [.ref b, .ref g, ii (m : Int)])) (hb_ : h[b]? = some (cB n f)) (hm : m ≤ n) (hn : n ≤ 100000) {c : Int} (hc : -128 ≤ c ∧ c ≤ 127) : pgN xt d 138 [.ref o, ii c] h (fun h' => h' = addP h o b g n f m c) := by
  refine x_enter pm_X6_add (L0 := [(0, .ref o), (1, ii c)]) rfl (Nat.le_of_ble_eq_true rfl) (by omega) ?_
  refine me1 (pc' := 1) (L' := [(0, .ref o), (1, ii c)]) (S' := [.ref o]) dm_X6_add_0 rfl rfl rfl rfl ?_
  refine me3 (pc' := 4) (S' := [ii (m : Int)]) dm_X6_add_1 (g_get (v := ii (m : Int)) ho rfl rfl (by omega)) rfl rfl rfl ?_
  refine me1 (pc' := 5) (L' := [(0, .ref o), (1, ii c)]) (S' := [.ref o, ii (m : Int)]) dm_X6_add_4 rfl rfl rfl rfl ?_
  refine me3 (pc' := 8) (S' := [.ref b, ii (m : Int)]) dm_X6_add_5 (g_get (v := .ref b) ho rfl rfl (by omega)) rfl rfl rfl ?_
  refine me3 (pc' := 9) (S' := [ii n, ii (m : Int)]) dm_X6_add_8 (yh_len (n := n) rfl hb_ (by omega)) rfl rfl rfl ?_
  refine y_2ge (a := (m : Int)) (b := n) (t := 33) (pc' := 12) dm_X6_add_9 rfl rfl (by omega) (fun hb1 => ?_) (fun hb1 => ?_)
  · refine y_ret (r := none) dm_X6_add_33 rfl rfl rfl ?_
    refine ⟨rfl, ?_⟩
    unfold addP
    rw [if_neg (by omega)]
  · refine me1 (pc' := 13) (L' := [(0, .ref o), (1, ii c)]) (S' := [.ref o]) dm_X6_add_12 rfl rfl rfl rfl ?_
    refine me3 (pc' := 16) (S' := [.ref b]) dm_X6_add_13 (g_get (v := .ref b) ho rfl rfl (by omega)) rfl rfl rfl ?_
    refine me1 (pc' := 17) (L' := [(0, .ref o), (1, ii c)]) (S' := [.ref o, .ref b]) dm_X6_add_16 rfl rfl rfl rfl ?_
    refine me3 (pc' := 20) (S' := [ii (m : Int), .ref b]) dm_X6_add_17 (g_get (v := ii (m : Int)) ho rfl rfl (by omega)) rfl rfl rfl ?_
    refine me1 (pc' := 21) (L' := [(0, .ref o), (1, ii c)]) (S' := [ii c, ii (m : Int), .ref b]) dm_X6_add_20 rfl rfl rfl rfl ?_
    refine y_i2b (a := c) dm_X6_add_21 (pc' := 22) rfl (by omega) (by omega) ?_
    refine me3 (pc' := 23) (S' := []) (h1 := (h).set b (cB n (va_up f m c))) dm_X6_add_22 (yh_bast (j := (m : Int)) hb_ (by omega) (by omega) (by omega) (by omega) (by omega) (by omega)) rfl rfl rfl ?_
    refine me1 (pc' := 24) (L' := [(0, .ref o), (1, ii c)]) (S' := [.ref o]) dm_X6_add_23 rfl rfl rfl rfl ?_
    refine me0 (pc' := 25) (S' := [.ref o, .ref o]) dm_X6_add_24 rfl rfl rfl rfl ?_
    refine me3 (pc' := 28) (S' := [ii (m : Int), .ref o]) dm_X6_add_25 (g_get (v := ii (m : Int)) (hl_ne (by omega) ho) rfl rfl (by omega)) rfl rfl rfl ?_
    refine me0 (pc' := 29) (S' := [ii 1, ii (m : Int), .ref o]) dm_X6_add_28 rfl rfl rfl rfl ?_
    refine y_iadd (a := (m : Int)) (b := 1) dm_X6_add_29 (pc' := 30) rfl ?_
    refine me3 (pc' := 33) (S' := []) (h1 := ((h).set b (cB n (va_up f m c))).set o (cO 6 [.ref b, .ref g, ii ((m : Int) + 1)])) dm_X6_add_30 (g_put (fs' := [.ref b, .ref g, ii ((m : Int) + 1)]) (hl_ne (by omega) ho) rfl rfl rfl (by simp) rfl (by decide) (fun z => by cases z) (by omega)) rfl rfl rfl ?_
    refine y_ret (r := none) dm_X6_add_33 rfl rfl rfl ?_
    refine ⟨rfl, ?_⟩
    unfold addP
    rw [if_pos (by omega)]; rfl
