/-! bits: shifting to the right without the sign -/
theorem n_ushr {a : Int} {k : Nat} (hk : k < 31) : ((Int32.ofInt a).toUInt32 >>> ((Int32.ofInt (k : Int)).toUInt32 &&& Int32.toUInt32 31)).toInt32 = Int32.ofInt ((a % 4294967296) / 2 ^ k) := by
  apply Int32.toBitVec_inj.mp
  apply BitVec.eq_of_toNat_eq
  show (((Int32.ofInt a).toUInt32 >>> ((Int32.ofInt (k : Int)).toUInt32 &&& Int32.toUInt32 31)) : UInt32).toNat = _
  have e1 : (Int32.ofInt (k : Int)).toUInt32.toNat = k := by
    show (BitVec.ofInt 32 (k : Int)).toNat = k
    rw [BitVec.ofInt_natCast, BitVec.toNat_ofNat]
    exact Nat.mod_eq_of_lt (by omega)
  have e2 : (Int32.toUInt32 31).toNat = 2 ^ 5 - 1 := rfl
  have e3 : (Int32.ofInt a).toUInt32.toNat = (a % 4294967296).toNat := by
    show (BitVec.ofInt 32 a).toNat = _
    rw [BitVec.toNat_ofInt]; rfl
  rw [UInt32.toNat_shiftRight, UInt32.toNat_and, Int32.toBitVec_ofInt, BitVec.toNat_ofInt, e1, e2, e3, Nat.and_two_pow_sub_one_eq_mod, Nat.mod_eq_of_lt (a := k) (by omega), Nat.mod_eq_of_lt (a := k) (by omega), Nat.shiftRight_eq_div_pow]
  obtain ⟨n, hn⟩ : ∃ n : Nat, a % 4294967296 = (n : Int) := ⟨(a % 4294967296).toNat, by omega⟩
  have hlt : n < 2 ^ 32 := by
    have : a % 4294967296 < 4294967296 := Int.emod_lt_of_pos _ (by decide)
    omega
  have e4 : (2 : Int) ^ k = ((2 ^ k : Nat) : Int) := by norm_cast
  have e5 := Nat.div_le_self n (2 ^ k)
  rw [hn, e4, ← Int.natCast_ediv, ← Int.natCast_emod, Int.toNat_natCast, Int.toNat_natCast, Nat.mod_eq_of_lt (by omega)]
theorem y_ushr {xt : mj_X} {d own nL : Nat} {ini : Bool} {ret : Option FieldType} {cf : Nat → Option (Instr × Nat)} {pc pc' : Nat} {L : mj_L} {S : List Value} {h : mj_H} {P : Option Value → mj_H → Prop} {a n : Int} {k : Nat} (hc : cf pc = some (.iushr, 1)) (hp : pc + 1 = pc') (hn : n = (k : Int)) (hk : k < 31) (q : pgE xt d own nL ini ret cf pc' L (ii ((a % 4294967296) / 2 ^ k) :: S) h P) : pgE xt d own nL ini ret cf pc L (ii n :: ii a :: S) h P := by
  subst hn
  exact me0 hc (show mj_alu .iushr (ii (k : Int) :: ii a :: S) = some (ii ((a % 4294967296) / 2 ^ k) :: S) from congrArg (fun z => some (Value.int z :: S)) (n_ushr hk)) rfl rfl hp q
/-- an ADVERB taken out again -/
theorem avJ_dig {T : Nat → Tok} {i j : Nat} : ∀ k : Nat, (∀ q, q < k → 1 ≤ tqD (T (i + q)) ∧ tqD (T (i + q)) ≤ 126) → j < k → avJ T i k / 256 ^ j % 256 = tqD (T (i + j)) := by
  intro k
  induction k with
  | zero => intro _ h; exact absurd h (by omega)
  | succ k ih =>
    intro hd hj
    have hr := avJ_r (T := T) (i := i) k (fun q hq => hd q (by omega))
    have hk := hd k (by omega)
    have p1 : (0 : Int) < 256 ^ j := Int.pow_pos (by decide)
    show (avJ T i k + tqD (T (i + k)) * 256 ^ k) / 256 ^ j % 256 = _
    by_cases z : j = k
    · subst z
      rw [Int.add_mul_ediv_right _ _ (by omega), Int.ediv_eq_zero_of_lt hr.1 hr.2]
      omega
    · obtain ⟨m, hm⟩ : ∃ m, k = j + 1 + m := ⟨k - j - 1, by omega⟩
      have e : (256 : Int) ^ k = 256 ^ m * 256 * 256 ^ j := by
        rw [hm, show j + 1 + m = m + 1 + j by omega, Int.pow_add, Int.pow_add]; rfl
      rw [e, show tqD (T (i + k)) * (256 ^ m * 256 * 256 ^ j) = (tqD (T (i + k)) * 256 ^ m * 256) * 256 ^ j by rw [← Int.mul_assoc, ← Int.mul_assoc], Int.add_mul_ediv_right _ _ (by omega), Int.add_mul_emod_self_right]
      exact ih (fun q hq => hd q (by omega)) (by omega)
theorem n_and255g (a : Int) : Int32.ofInt a &&& 255 = Int32.ofInt (a % 256) := by
  apply Int32.toBitVec_inj.mp
  rw [Int32.toBitVec_and, Int32.toBitVec_ofInt, Int32.toBitVec_ofInt]
  apply BitVec.eq_of_toNat_eq
  rw [BitVec.toNat_and, show (Int32.toBitVec 255).toNat = 2 ^ 8 - 1 from rfl, Nat.and_two_pow_sub_one_eq_mod, BitVec.toNat_ofInt, BitVec.toNat_ofInt]
  have h1 : ((2 ^ 32 : Nat) : Int) = 4294967296 := rfl
  rw [h1]
  omega
theorem y_and255g {xt : mj_X} {d own nL : Nat} {ini : Bool} {ret : Option FieldType} {cf : Nat → Option (Instr × Nat)} {pc pc' : Nat} {L : mj_L} {S : List Value} {h : mj_H} {P : Option Value → mj_H → Prop} {a : Int} (hc : cf pc = some (.iand, 1)) (hp : pc + 1 = pc') (k : pgE xt d own nL ini ret cf pc' L (ii (a % 256) :: S) h P) : pgE xt d own nL ini ret cf pc L (ii 255 :: ii a :: S) h P :=
  me0 hc (show mj_alu .iand (ii 255 :: ii a :: S) = some (ii (a % 256) :: S) from congrArg (fun z => some (Value.int z :: S)) (n_and255g a)) rfl rfl hp k
theorem soN_at {T : Nat → Tok} {s : Nat} : ∀ n i q, q < soN T s n i → tqS (T (i + q)) = s := by
  intro n
  induction n with
  | zero => intro i q h; exact absurd h (Nat.not_lt_zero q)
  | succ n ih =>
    intro i q h
    unfold soN at h
    by_cases z : tqS (T i) = s
    · rw [if_pos z] at h
      cases q with
      | zero => exact z
      | succ q => rw [show i + (q + 1) = i + 1 + q by omega]; exact ih (i + 1) q (by omega)
    · rw [if_neg z] at h; exact absurd h (Nat.not_lt_zero q)
set_option maxRecDepth 20000 in
theorem pm_X4_adverbAt : mj_mmof pg_ms 74 = some ((⟨"ArrayCalculator$Op", "adverbAt", "(I)I"⟩, prog_6_method_2_code, 2, (Option.some Jvm.ClassFile.FieldType.int)), 4, false, mj_dec prog_6_method_2_code) := rfl
theorem dm_X4_adverbAt_0 : mj_dec prog_6_method_2_code 0 = some (.aload_n 0, 1) := by decide +kernel
theorem dm_X4_adverbAt_1 : mj_dec prog_6_method_2_code 1 = some (.getfield 20, 3) := by decide +kernel
theorem dm_X4_adverbAt_4 : mj_dec prog_6_method_2_code 4 = some (.bipush 8, 2) := by decide +kernel
theorem dm_X4_adverbAt_6 : mj_dec prog_6_method_2_code 6 = some (.iload_n 1, 1) := by decide +kernel
theorem dm_X4_adverbAt_7 : mj_dec prog_6_method_2_code 7 = some (.iconst 1, 1) := by decide +kernel
theorem dm_X4_adverbAt_8 : mj_dec prog_6_method_2_code 8 = some (.isub, 1) := by decide +kernel
theorem dm_X4_adverbAt_9 : mj_dec prog_6_method_2_code 9 = some (.imul, 1) := by decide +kernel
theorem dm_X4_adverbAt_10 : mj_dec prog_6_method_2_code 10 = some (.iushr, 1) := by decide +kernel
theorem dm_X4_adverbAt_11 : mj_dec prog_6_method_2_code 11 = some (.sipush 255, 3) := by decide +kernel
theorem dm_X4_adverbAt_14 : mj_dec prog_6_method_2_code 14 = some (.iand, 1) := by decide +kernel
theorem dm_X4_adverbAt_15 : mj_dec prog_6_method_2_code 15 = some (.ireturn, 1) := by decide +kernel
theorem m_adverbAt {xt : mj_X} {d mk ln i l p : Nat} {T : Nat → Tok} {h : mj_H} {dd : Int} {nx : Value} (hd : 1 ≤ d) (hK : TOKS T mk ln) (hp : h[p]? = some (doC T i dd nx)) (hp2 : 2 ≤ p) (hl : l < avM T i) : pgP xt d 74 [.ref p, ii ((l + 1 : Nat) : Int)] h (ii (tqD (T (i + 1 + l)))) := by
  have h4 := soN_le (T := T) (s := 6) 4 (i + 1)
  have hl4 : l < 4 := Nat.lt_of_lt_of_le hl h4
  have hav : avI T (i + 1) (avM T i) = avJ T (i + 1) (avM T i) := avJ_I h4
  have hdg : ∀ q, q < avM T i → 1 ≤ tqD (T (i + 1 + q)) ∧ tqD (T (i + 1 + q)) ≤ 126 := fun q hq => hK.2.2.2.2.2.2.2.2.2.1 _ (Or.inr (Or.inl (soN_at 4 (i + 1) q hq)))
  have hr := avJ_r (T := T) (i := i + 1) (avM T i) hdg
  have hd9 := avJ_dig (T := T) (i := i + 1) (j := l) (avM T i) hdg hl
  have hm4 : avJ T (i + 1) (avM T i) < 4294967296 := by
    have p : ∀ q : Nat, q ≤ 4 → (256 : Int) ^ q ≤ 4294967296 := by
      intro q hq
      obtain ⟨e0, e1, e2, e3⟩ := p256
      rcases (show q = 0 ∨ q = 1 ∨ q = 2 ∨ q = 3 ∨ q = 4 by omega) with z | z | z | z | z
      · rw [z, e0]; decide
      · rw [z, e1]; decide
      · rw [z, e2]; decide
      · rw [z, e3]; decide
      · rw [z, show (256 : Int) ^ 4 = 256 ^ 3 * 256 from Int.pow_succ 256 3, e3]; decide
    have := p (avM T i) h4
    omega
  refine x_enter pm_X4_adverbAt (L0 := [(0, .ref p), (1, ii ((l + 1 : Nat) : Int))]) rfl (Nat.le_of_ble_eq_true rfl) (by omega) ?_
  refine me1 (pc' := 1) (L' := [(0, .ref p), (1, ii ((l + 1 : Nat) : Int))]) (S' := [.ref p]) dm_X4_adverbAt_0 rfl rfl rfl rfl ?_
  refine me3 (pc' := 4) (S' := [ii (avI T (i + 1) (avM T i))]) dm_X4_adverbAt_1 (g_get (v := ii (avI T (i + 1) (avM T i))) hp rfl rfl (by omega)) rfl rfl rfl ?_
  refine me0 (pc' := 6) (S' := [ii 8, ii (avI T (i + 1) (avM T i))]) dm_X4_adverbAt_4 rfl rfl rfl rfl ?_
  refine me1 (pc' := 7) (L' := [(0, .ref p), (1, ii ((l + 1 : Nat) : Int))]) (S' := [ii ((l + 1 : Nat) : Int), ii 8, ii (avI T (i + 1) (avM T i))]) dm_X4_adverbAt_6 rfl rfl rfl rfl ?_
  refine me0 (pc' := 8) (S' := [ii 1, ii ((l + 1 : Nat) : Int), ii 8, ii (avI T (i + 1) (avM T i))]) dm_X4_adverbAt_7 rfl rfl rfl rfl ?_
  refine y_isub (a := ((l + 1 : Nat) : Int)) (b := 1) dm_X4_adverbAt_8 (pc' := 9) rfl ?_
  refine y_imul (a := 8) (b := ((l + 1 : Nat) : Int) - 1) dm_X4_adverbAt_9 (pc' := 10) rfl ?_
  refine y_ushr (a := (avI T (i + 1) (avM T i))) (n := 8 * (((l + 1 : Nat) : Int) - 1)) (k := 8 * l) dm_X4_adverbAt_10 (pc' := 11) rfl (by push_cast; omega) (by omega) ?_
  refine me0 (pc' := 14) (S' := [ii 255, ii (((avI T (i + 1) (avM T i)) % 4294967296) / 2 ^ (8 * l))]) dm_X4_adverbAt_11 rfl rfl rfl rfl ?_
  have hq9 : avI T (i + 1) (avM T i) % 4294967296 / 2 ^ (8 * l) % 256 = tqD (T (i + 1 + l)) := by rw [hav, Int.emod_eq_of_lt hr.1 hm4, p28 l]; exact hd9
  refine y_and255g (a := ((avI T (i + 1) (avM T i)) % 4294967296) / 2 ^ (8 * l)) dm_X4_adverbAt_14 (pc' := 15) rfl ?_
  refine y_ret (r := some (ii ((((avI T (i + 1) (avM T i)) % 4294967296) / 2 ^ (8 * l)) % 256))) dm_X4_adverbAt_15 rfl rfl rfl ?_
  refine ⟨congrArg (fun z => some (ii z)) ?_, rfl⟩
  rw [hav, Int.emod_eq_of_lt hr.1 hm4, p28 l]
  exact hd9
set_option maxRecDepth 20000 in
theorem pm_X1_choose : mj_mmof pg_ms 168 = some ((⟨"ArrayCalculator$Machine", "choose", "(LArrayCalculator$Op;LArrayCalculator$Value;)V"⟩, prog_3_method_14_code, 3, (Option.none : Option Jvm.ClassFile.FieldType)), 1, false, mj_dec prog_3_method_14_code) := rfl
theorem dm_X1_choose_0 : mj_dec prog_3_method_14_code 0 = some (.aload_n 2, 1) := by decide +kernel
theorem dm_X1_choose_1 : mj_dec prog_3_method_14_code 1 = some (.getfield 180, 3) := by decide +kernel
theorem dm_X1_choose_4 : mj_dec prog_3_method_14_code 4 = some (.ifCond .eq 12, 3) := by decide +kernel
theorem dm_X1_choose_7 : mj_dec prog_3_method_14_code 7 = some (.aload_n 0, 1) := by decide +kernel
theorem dm_X1_choose_8 : mj_dec prog_3_method_14_code 8 = some (.iconst 5, 1) := by decide +kernel
theorem dm_X1_choose_9 : mj_dec prog_3_method_14_code 9 = some (.aload_n 1, 1) := by decide +kernel
theorem dm_X1_choose_10 : mj_dec prog_3_method_14_code 10 = some (.invokevirtual 125, 3) := by decide +kernel
theorem dm_X1_choose_13 : mj_dec prog_3_method_14_code 13 = some (.goto 20, 3) := by decide +kernel
theorem dm_X1_choose_33 : mj_dec prog_3_method_14_code 33 = some (.return_, 1) := by decide +kernel
theorem m_chooseE {xt : mj_X} {d e q p cy cz : Nat} {A : Nat → Prop} {h H : mj_H} {v : VV} {pp : Int} {tp dp ca ou wk er pl lv : Int} {nw vx vy dg lf rt : Value} (hd : 2 ≤ d) (h16 : h[16]? = some (mcC tp dp ca ou wk er pl nw vx vy dg lv lf rt)) (hv : cv A h (e + 1) q v) (hp : h[p]? = some (cO 4 [ii 6, ii pp, ii 0, .long (Int64.ofInt 0), ii 0, ii 0, ii 0, .null, .ref cy, .ref cz])) (hp2 : 127 ≤ p) (hca : -2147483648 ≤ ca ∧ ca ≤ 2147483647) (hc9 : vk v ≠ 0) (hH : h.set 16 (mcC tp dp ca ou wk 5 (if 0 < ca then ou else pp) nw vx vy dg lv lf rt) = H) : pgN xt d 168 [.ref 16, .ref p, .ref q] h (fun h' => h' = H) := by
  obtain ⟨hw, ⟨hq2, hpA⟩, hsz, hlv, row, fr, vals, hvq, hfr, h1, h3, h7⟩ := id hv
  have hm := vw1_m hw
  clear h1 h3 h7
  have e0 : (Int64.ofInt 0).toInt = 0 := by decide
  refine x_enter pm_X1_choose (L0 := [(0, .ref 16), (1, .ref p), (2, .ref q)]) rfl (Nat.le_of_ble_eq_true rfl) (by omega) ?_
  refine me1 (pc' := 1) (L' := [(0, .ref 16), (1, .ref p), (2, .ref q)]) (S' := [.ref q]) dm_X1_choose_0 rfl rfl rfl rfl ?_
  refine me3 (pc' := 4) (S' := [ii (vk v : Int)]) dm_X1_choose_1 (g_get (v := ii (vk v : Int)) hvq rfl rfl (by omega)) rfl rfl rfl ?_
  refine y_1eq (a := (vk v : Int)) (t := 16) (pc' := 7) dm_X1_choose_4 rfl rfl (by omega) (fun hb1 => ?_) (fun hb1 => ?_)
  · exfalso; omega
  · refine me1 (pc' := 8) (L' := [(0, .ref 16), (1, .ref p), (2, .ref q)]) (S' := [.ref 16]) dm_X1_choose_7 rfl rfl rfl rfl ?_
    refine me0 (pc' := 9) (S' := [ii 5, .ref 16]) dm_X1_choose_8 rfl rfl rfl rfl ?_
    refine me1 (pc' := 10) (L' := [(0, .ref 16), (1, .ref p), (2, .ref q)]) (S' := [.ref p, ii 5, .ref 16]) dm_X1_choose_9 rfl rfl rfl rfl ?_
    refine x_cn (pc' := 13) (rest := []) dm_X1_choose_10 rfl (g_inv (As := [ii 5, .ref p]) (S := []) h16 rfl rfl rfl (by decide)) rfl rfl rfl (m_fail (c := 5) (by omega) h16 hp hp2 hca rfl) ?_
    rintro _ rfl
    refine me2 (pc' := 33) (S' := []) dm_X1_choose_13 rfl rfl rfl ?_
    refine y_ret (r := none) dm_X1_choose_33 rfl rfl rfl ?_
    exact ⟨rfl, hH⟩
theorem dm_X1_choose_16 : mj_dec prog_3_method_14_code 16 = some (.aload_n 2, 1) := by decide +kernel
theorem dm_X1_choose_17 : mj_dec prog_3_method_14_code 17 = some (.getfield 183, 3) := by decide +kernel
theorem dm_X1_choose_20 : mj_dec prog_3_method_14_code 20 = some (.lconst 0, 1) := by decide +kernel
theorem dm_X1_choose_21 : mj_dec prog_3_method_14_code 21 = some (.lcmp, 1) := by decide +kernel
theorem dm_X1_choose_22 : mj_dec prog_3_method_14_code 22 = some (.ifCond .ne 11, 3) := by decide +kernel
theorem dm_X1_choose_25 : mj_dec prog_3_method_14_code 25 = some (.aload_n 0, 1) := by decide +kernel
theorem dm_X1_choose_26 : mj_dec prog_3_method_14_code 26 = some (.aload_n 1, 1) := by decide +kernel
theorem dm_X1_choose_27 : mj_dec prog_3_method_14_code 27 = some (.getfield 186, 3) := by decide +kernel
theorem dm_X1_choose_30 : mj_dec prog_3_method_14_code 30 = some (.putfield 73, 3) := by decide +kernel
theorem m_chooseZ {xt : mj_X} {d e q p cy cz : Nat} {A : Nat → Prop} {h H : mj_H} {v : VV} {pp : Int} {tp dp ca ou wk er pl lv : Int} {nw vx vy dg lf rt : Value} (hd : 2 ≤ d) (h16 : h[16]? = some (mcC tp dp ca ou wk er pl nw vx vy dg lv lf rt)) (hv : cv A h (e + 1) q v) (hp : h[p]? = some (cO 4 [ii 6, ii pp, ii 0, .long (Int64.ofInt 0), ii 0, ii 0, ii 0, .null, .ref cy, .ref cz])) (hp2 : 127 ≤ p) (hca : -2147483648 ≤ ca ∧ ca ≤ 2147483647) (hc9 : vk v = 0 ∧ cnum v = Int64.ofInt 0) (hH : h.set 16 (mcC tp dp ca ou wk er pl (.ref cz) vx vy dg lv lf rt) = H) : pgN xt d 168 [.ref 16, .ref p, .ref q] h (fun h' => h' = H) := by
  obtain ⟨hw, ⟨hq2, hpA⟩, hsz, hlv, row, fr, vals, hvq, hfr, h1, h3, h7⟩ := id hv
  have hm := vw1_m hw
  clear h1 h3 h7
  have e0 : (Int64.ofInt 0).toInt = 0 := by decide
  refine x_enter pm_X1_choose (L0 := [(0, .ref 16), (1, .ref p), (2, .ref q)]) rfl (Nat.le_of_ble_eq_true rfl) (by omega) ?_
  refine me1 (pc' := 1) (L' := [(0, .ref 16), (1, .ref p), (2, .ref q)]) (S' := [.ref q]) dm_X1_choose_0 rfl rfl rfl rfl ?_
  refine me3 (pc' := 4) (S' := [ii (vk v : Int)]) dm_X1_choose_1 (g_get (v := ii (vk v : Int)) hvq rfl rfl (by omega)) rfl rfl rfl ?_
  refine y_1eq (a := (vk v : Int)) (t := 16) (pc' := 7) dm_X1_choose_4 rfl rfl (by omega) (fun hb1 => ?_) (fun hb1 => ?_)
  · refine me1 (pc' := 17) (L' := [(0, .ref 16), (1, .ref p), (2, .ref q)]) (S' := [.ref q]) dm_X1_choose_16 rfl rfl rfl rfl ?_
    refine me3 (pc' := 20) (S' := [.long (cnum v)]) dm_X1_choose_17 (g_get (v := .long (cnum v)) hvq rfl rfl (by omega)) rfl rfl rfl ?_
    refine me0 (pc' := 21) (S' := [.long (Int64.ofInt 0), .long (cnum v)]) dm_X1_choose_20 rfl rfl rfl rfl ?_
    refine y_lne (x := cnum v) (y := Int64.ofInt 0) (t := 33) (pc1 := 22) (pc' := 25) dm_X1_choose_21 rfl dm_X1_choose_22 rfl rfl (fun hb2 => ?_) (fun hb2 => ?_)
    · exact absurd hb2 (by exact not_not_intro hc9.2)
    · refine me1 (pc' := 26) (L' := [(0, .ref 16), (1, .ref p), (2, .ref q)]) (S' := [.ref 16]) dm_X1_choose_25 rfl rfl rfl rfl ?_
      refine me1 (pc' := 27) (L' := [(0, .ref 16), (1, .ref p), (2, .ref q)]) (S' := [.ref p, .ref 16]) dm_X1_choose_26 rfl rfl rfl rfl ?_
      refine me3 (pc' := 30) (S' := [.ref cz, .ref 16]) dm_X1_choose_27 (g_get (v := .ref cz) hp rfl rfl (by omega)) rfl rfl rfl ?_
      refine me3 (pc' := 33) (S' := []) (h1 := (h).set 16 (cO 1 [.ref 4, .ref 17, .ref 26, .ref 32, ii tp, .ref 33, ii dp, ii ca, ii ou, ii wk, ii er, ii pl, .ref cz, vx, vy, dg, ii lv, lf, rt])) dm_X1_choose_30 (g_put (fs' := [.ref 4, .ref 17, .ref 26, .ref 32, ii tp, .ref 33, ii dp, ii ca, ii ou, ii wk, ii er, ii pl, .ref cz, vx, vy, dg, ii lv, lf, rt]) h16 rfl rfl rfl (by simp) rfl (by decide) (fun z => by cases z) (by decide)) rfl rfl rfl ?_
      refine y_ret (r := none) dm_X1_choose_33 rfl rfl rfl ?_
      exact ⟨rfl, hH⟩
  · exfalso; omega
theorem m_chooseN {xt : mj_X} {d e q p cy cz : Nat} {A : Nat → Prop} {h H : mj_H} {v : VV} {pp : Int} {tp dp ca ou wk er pl lv : Int} {nw vx vy dg lf rt : Value} (hd : 2 ≤ d) (h16 : h[16]? = some (mcC tp dp ca ou wk er pl nw vx vy dg lv lf rt)) (hv : cv A h (e + 1) q v) (hp : h[p]? = some (cO 4 [ii 6, ii pp, ii 0, .long (Int64.ofInt 0), ii 0, ii 0, ii 0, .null, .ref cy, .ref cz])) (hp2 : 127 ≤ p) (hca : -2147483648 ≤ ca ∧ ca ≤ 2147483647) (hc9 : vk v = 0 ∧ cnum v ≠ Int64.ofInt 0) (hH : h = H) : pgN xt d 168 [.ref 16, .ref p, .ref q] h (fun h' => h' = H) := by
  obtain ⟨hw, ⟨hq2, hpA⟩, hsz, hlv, row, fr, vals, hvq, hfr, h1, h3, h7⟩ := id hv
  have hm := vw1_m hw
  clear h1 h3 h7
  have e0 : (Int64.ofInt 0).toInt = 0 := by decide
  refine x_enter pm_X1_choose (L0 := [(0, .ref 16), (1, .ref p), (2, .ref q)]) rfl (Nat.le_of_ble_eq_true rfl) (by omega) ?_
  refine me1 (pc' := 1) (L' := [(0, .ref 16), (1, .ref p), (2, .ref q)]) (S' := [.ref q]) dm_X1_choose_0 rfl rfl rfl rfl ?_
  refine me3 (pc' := 4) (S' := [ii (vk v : Int)]) dm_X1_choose_1 (g_get (v := ii (vk v : Int)) hvq rfl rfl (by omega)) rfl rfl rfl ?_
  refine y_1eq (a := (vk v : Int)) (t := 16) (pc' := 7) dm_X1_choose_4 rfl rfl (by omega) (fun hb1 => ?_) (fun hb1 => ?_)
  · refine me1 (pc' := 17) (L' := [(0, .ref 16), (1, .ref p), (2, .ref q)]) (S' := [.ref q]) dm_X1_choose_16 rfl rfl rfl rfl ?_
    refine me3 (pc' := 20) (S' := [.long (cnum v)]) dm_X1_choose_17 (g_get (v := .long (cnum v)) hvq rfl rfl (by omega)) rfl rfl rfl ?_
    refine me0 (pc' := 21) (S' := [.long (Int64.ofInt 0), .long (cnum v)]) dm_X1_choose_20 rfl rfl rfl rfl ?_
    refine y_lne (x := cnum v) (y := Int64.ofInt 0) (t := 33) (pc1 := 22) (pc' := 25) dm_X1_choose_21 rfl dm_X1_choose_22 rfl rfl (fun hb2 => ?_) (fun hb2 => ?_)
    · refine y_ret (r := none) dm_X1_choose_33 rfl rfl rfl ?_
      exact ⟨rfl, hH⟩
    · exact absurd hb2 (by exact hc9.2)
  · exfalso; omega
