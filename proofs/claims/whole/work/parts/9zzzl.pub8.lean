/-! the reference: feed -/
theorem n_shrg {a : Int} {k : Nat} (h0 : -2147483648 ≤ a) (h1 : a ≤ 2147483647) (hk : k < 31) : Int32.ofInt a >>> (Int32.ofInt (k : Int) &&& 31) = Int32.ofInt (a / 2 ^ k) := by
  have e1 : Int32.ofInt (k : Int) &&& 31 = Int32.ofInt (k : Int) := by
    apply Int32.toBitVec_inj.mp
    rw [Int32.toBitVec_and, Int32.toBitVec_ofInt, BitVec.ofInt_natCast]
    apply BitVec.eq_of_toNat_eq
    rw [BitVec.toNat_and, BitVec.toNat_ofNat, Nat.mod_eq_of_lt (a := k) (by omega), show (Int32.toBitVec 31).toNat = 2 ^ 5 - 1 from rfl, Nat.and_two_pow_sub_one_eq_mod, Nat.mod_eq_of_lt (by omega)]
  rw [e1]
  apply Int32.toBitVec_inj.mp
  rw [Int32.toBitVec_shiftRight, Int32.toBitVec_ofInt, Int32.toBitVec_ofInt, Int32.toBitVec_ofInt, BitVec.ofInt_natCast]
  have e3 : (BitVec.ofNat 32 k).smod 32 = BitVec.ofNat 32 k := by
    have : ∀ k : Fin 31, (BitVec.ofNat 32 k.val).smod 32 = BitVec.ofNat 32 k.val := by decide
    exact this ⟨k, hk⟩
  rw [e3]
  apply BitVec.eq_of_toInt_eq
  have p1 : (1 : Int) ≤ 2 ^ k := Int.pow_pos (by decide)
  have d1 : a / 2 ^ k ≤ 2147483647 := by
    have := Int.ediv_le_self (a := 2147483647) (2 ^ k) (by decide)
    exact Int.le_trans (Int.ediv_le_ediv (by omega) h1) this
  have d0 : -2147483648 ≤ a / 2 ^ k := by
    refine (Int.le_ediv_iff_mul_le (by omega)).mpr ?_
    have : -2147483648 * (2 : Int) ^ k ≤ -2147483648 * 1 := Int.mul_le_mul_of_nonpos_left (by decide) p1
    omega
  rw [BitVec.sshiftRight_eq', BitVec.toNat_ofNat, Nat.mod_eq_of_lt (a := k) (by omega), BitVec.toInt_sshiftRight, BitVec.toInt_ofInt, BitVec.toInt_ofInt, Int.bmod_eq_of_le (by omega) (by omega), Int.bmod_eq_of_le (by omega) (by omega), Int.shiftRight_eq_div_pow]
  norm_cast
/-- a byte with its sign -/
def b8 (a : Int) : Int := (a + 128) % 256 - 128
theorem b8_r (a : Int) : -128 ≤ b8 a ∧ b8 a ≤ 127 ∧ b8 a % 256 = a % 256 := by unfold b8; omega
theorem n_i2b {a : Int} (h0 : -2147483648 ≤ a) (h1 : a ≤ 2147483647) : (Int32.ofInt a).toInt8.toInt32 = Int32.ofInt (b8 a) := by
  apply Int32.toInt_inj.mp
  have hr := b8_r a
  rw [Int8.toInt_toInt32, Int32.toInt_toInt8, n_to (by omega) (by omega), n_to (by omega) (by omega)]
  show (if a % ((256 : Nat) : Int) < (((256 : Nat) : Int) + 1) / 2 then a % ((256 : Nat) : Int) else a % ((256 : Nat) : Int) - ((256 : Nat) : Int)) = (a + 128) % 256 - 128
  by_cases z : a % ((256 : Nat) : Int) < (((256 : Nat) : Int) + 1) / 2
  · rw [if_pos z]; omega
  · rw [if_neg z]; omega
section YI
variable {xt : mj_X} {d own nL : Nat} {ini : Bool} {ret : Option FieldType} {cf : Nat → Option (Instr × Nat)} {pc pc' : Nat} {L : mj_L} {S : List Value} {h : mj_H} {P : Option Value → mj_H → Prop} {a : Int}
theorem y_shrg {k : Nat} (hc : cf pc = some (.ishr, 1)) (hp : pc + 1 = pc') (h0 : -2147483648 ≤ a) (h1 : a ≤ 2147483647) (hk : k < 31) (q : pgE xt d own nL ini ret cf pc' L (ii (a / 2 ^ k) :: S) h P) : pgE xt d own nL ini ret cf pc L (ii (k : Int) :: ii a :: S) h P :=
  me0 hc (show mj_alu .ishr (ii (k : Int) :: ii a :: S) = some (ii (a / 2 ^ k) :: S) from congrArg (fun z => some (Value.int z :: S)) (n_shrg h0 h1 hk)) rfl rfl hp q
theorem y_i2bg (hc : cf pc = some (.i2b, 1)) (hp : pc + 1 = pc') (h0 : -2147483648 ≤ a) (h1 : a ≤ 2147483647) (k : pgE xt d own nL ini ret cf pc' L (ii (b8 a) :: S) h P) : pgE xt d own nL ini ret cf pc L (ii a :: S) h P :=
  me0 hc (show mj_alu .i2b (ii a :: S) = some (ii (b8 a) :: S) by show some (Value.int (Int32.ofInt a).toInt8.toInt32 :: S) = _; rw [n_i2b h0 h1]) rfl rfl hp k
end YI
/-- four bytes more, as the reference has them -/
def g4 (bf : Nat → Int) (f : Nat) (a : Int) : Nat → Int := va_up (va_up (va_up (va_up bf f (b8 (a / 16777216))) (f + 1) (b8 (a / 65536))) (f + 2) (b8 (a / 256))) (f + 3) (b8 (a / 1))
def fdS (s : RS) (f : Nat) (a : Int) : RS := (va_up s.1 33 ((f + 4 : Nat) : Int), s.2.1, va_up s.2.2.1 32 (g4 (s.2.2.1 32) f a), s.2.2.2)
theorem fdS_33 {s : RS} {f : Nat} {a : Int} : (fdS s f a).1 33 = ((f + 4 : Nat) : Int) := by
  show va_up s.1 33 ((f + 4 : Nat) : Int) 33 = _
  rw [up_eq]
set_option maxRecDepth 20000 in
theorem pm_X12_feedOne : mj_mmof pg_ms 201 = some ((⟨"ArrayCalculatorModel", "feedOne", "(I)V"⟩, prog_14_method_94_code, 3, (Option.none : Option Jvm.ClassFile.FieldType)), 12, false, mj_dec prog_14_method_94_code) := rfl
theorem dm_X12_feedOne_0 : mj_dec prog_14_method_94_code 0 = some (.bipush 24, 2) := by decide +kernel
theorem dm_X12_feedOne_2 : mj_dec prog_14_method_94_code 2 = some (.istore_n 2, 1) := by decide +kernel
theorem dm_X12_feedOne_3 : mj_dec prog_14_method_94_code 3 = some (.iload_n 2, 1) := by decide +kernel
theorem dm_X12_feedOne_4 : mj_dec prog_14_method_94_code 4 = some (.ifCond .lt 32, 3) := by decide +kernel
theorem dm_X12_feedOne_7 : mj_dec prog_14_method_94_code 7 = some (.aload_n 0, 1) := by decide +kernel
theorem dm_X12_feedOne_8 : mj_dec prog_14_method_94_code 8 = some (.getfield 71, 3) := by decide +kernel
theorem dm_X12_feedOne_11 : mj_dec prog_14_method_94_code 11 = some (.aload_n 0, 1) := by decide +kernel
theorem dm_X12_feedOne_12 : mj_dec prog_14_method_94_code 12 = some (.getfield 501, 3) := by decide +kernel
theorem dm_X12_feedOne_15 : mj_dec prog_14_method_94_code 15 = some (.iload_n 1, 1) := by decide +kernel
theorem dm_X12_feedOne_16 : mj_dec prog_14_method_94_code 16 = some (.iload_n 2, 1) := by decide +kernel
theorem dm_X12_feedOne_17 : mj_dec prog_14_method_94_code 17 = some (.ishr, 1) := by decide +kernel
theorem dm_X12_feedOne_18 : mj_dec prog_14_method_94_code 18 = some (.i2b, 1) := by decide +kernel
theorem dm_X12_feedOne_19 : mj_dec prog_14_method_94_code 19 = some (.bastore, 1) := by decide +kernel
theorem dm_X12_feedOne_20 : mj_dec prog_14_method_94_code 20 = some (.aload_n 0, 1) := by decide +kernel
theorem dm_X12_feedOne_21 : mj_dec prog_14_method_94_code 21 = some (.dup, 1) := by decide +kernel
theorem dm_X12_feedOne_22 : mj_dec prog_14_method_94_code 22 = some (.getfield 501, 3) := by decide +kernel
theorem dm_X12_feedOne_25 : mj_dec prog_14_method_94_code 25 = some (.iconst 1, 1) := by decide +kernel
theorem dm_X12_feedOne_26 : mj_dec prog_14_method_94_code 26 = some (.iadd, 1) := by decide +kernel
theorem dm_X12_feedOne_27 : mj_dec prog_14_method_94_code 27 = some (.putfield 501, 3) := by decide +kernel
theorem dm_X12_feedOne_30 : mj_dec prog_14_method_94_code 30 = some (.iinc 2 (-8), 3) := by decide +kernel
theorem dm_X12_feedOne_33 : mj_dec prog_14_method_94_code 33 = some (.goto (-30), 3) := by decide +kernel
theorem dm_X12_feedOne_36 : mj_dec prog_14_method_94_code 36 = some (.return_, 1) := by decide +kernel
theorem r_feedOne_ {xt : mj_X} {d f : Nat} {pre post : mj_H} {s : RS} {a : Int} (hm : pre.length = 102) (hd : 1 ≤ d) (h33 : s.1 33 = (f : Int)) (hf : f + 4 ≤ 200) (ha : -2147483648 ≤ a ∧ a ≤ 2147483647) : pgN xt d 201 [.ref 102, ii a] (rS pre post s) (fun h' => h' = rS pre post (fdS s f a)) := by
  refine x_enter pm_X12_feedOne (L0 := [(0, .ref 102), (1, ii a)]) rfl (Nat.le_of_ble_eq_true rfl) (by omega) ?_
  refine me0 (pc' := 2) (S' := [ii 24]) dm_X12_feedOne_0 rfl rfl rfl rfl ?_
  refine me1 (pc' := 3) (L' := [(2, ii 24), (0, .ref 102), (1, ii a)]) (S' := []) dm_X12_feedOne_2 rfl rfl rfl rfl ?_
  refine me1 (pc' := 4) (L' := [(2, ii 24), (0, .ref 102), (1, ii a)]) (S' := [ii 24]) dm_X12_feedOne_3 rfl rfl rfl rfl ?_
  refine me_1f (pc' := 7) dm_X12_feedOne_4 rfl (by decide) rfl ?_
  refine me1 (pc' := 8) (L' := [(2, ii 24), (0, .ref 102), (1, ii a)]) (S' := [.ref 102]) dm_X12_feedOne_7 rfl rfl rfl rfl ?_
  refine me3 (pc' := 11) (S' := [.ref (102 + 17)]) dm_X12_feedOne_8 (q_getr hm rfl (fun m i l => rg_32 m i l)) rfl rfl rfl ?_
  refine me1 (pc' := 12) (L' := [(2, ii 24), (0, .ref 102), (1, ii a)]) (S' := [.ref 102, .ref (102 + 17)]) dm_X12_feedOne_11 rfl rfl rfl rfl ?_
  refine me3 (pc' := 15) (S' := [ii (s.1 33), .ref (102 + 17)]) dm_X12_feedOne_12 (q_geti (v := s.1 33) hm rfl (fun m i l => rg_33 m i l) rfl) rfl rfl rfl ?_
  refine pg_st0 (S' := [ii ((f : Nat) : Int), .ref (102 + 17)]) (congrArg (fun z => ii z :: [.ref (102 + 17)]) (by omega)) ?_
  refine me1 (pc' := 16) (L' := [(2, ii 24), (0, .ref 102), (1, ii a)]) (S' := [ii a, ii ((f : Nat) : Int), .ref (102 + 17)]) dm_X12_feedOne_15 rfl rfl rfl rfl ?_
  refine me1 (pc' := 17) (L' := [(2, ii 24), (0, .ref 102), (1, ii a)]) (S' := [ii 24, ii a, ii ((f : Nat) : Int), .ref (102 + 17)]) dm_X12_feedOne_16 rfl rfl rfl rfl ?_
  refine y_shrg (a := a) (k := 24) dm_X12_feedOne_17 (pc' := 18) rfl (by omega) (by omega) (by decide) ?_
  have hb81 := b8_r (a / 16777216)
  refine y_i2bg (a := a / 16777216) (pc' := 19) dm_X12_feedOne_18 rfl (by omega) (by omega) ?_
  refine me3 (pc' := 20) (S' := []) (h1 := rI pre post s.1 s.2.1 (va_up s.2.2.1 32 (va_up (s.2.2.1 32) f (b8 (a / 16777216)))) s.2.2.2) dm_X12_feedOne_19 (q_bast (j := ((f : Nat) : Int)) (k := 32) (n := 220) hm (fun m i l I J => rc_32 m i l I J) (fun m i l I J f => rs_32 m i l I J f) (by omega) (by omega) (by decide) (by omega)) rfl rfl rfl ?_
  refine me1 (pc' := 21) (L' := [(2, ii 24), (0, .ref 102), (1, ii a)]) (S' := [.ref 102]) dm_X12_feedOne_20 rfl rfl rfl rfl ?_
  refine me0 (pc' := 22) (S' := [.ref 102, .ref 102]) dm_X12_feedOne_21 rfl rfl rfl rfl ?_
  refine me3 (pc' := 25) (S' := [ii (s.1 33), .ref 102]) dm_X12_feedOne_22 (q_geti (v := s.1 33) hm rfl (fun m i l => rg_33 m i l) rfl) rfl rfl rfl ?_
  refine me0 (pc' := 26) (S' := [ii 1, ii (s.1 33), .ref 102]) dm_X12_feedOne_25 rfl rfl rfl rfl ?_
  refine y_iadd (a := s.1 33) (b := 1) dm_X12_feedOne_26 (pc' := 27) rfl ?_
  refine me3 (pc' := 30) (S' := []) (h1 := rI pre post (va_up s.1 33 ((s.1 33) + 1)) s.2.1 (va_up s.2.2.1 32 (va_up (s.2.2.1 32) f (b8 (a / 16777216)))) s.2.2.2) dm_X12_feedOne_27 (q_puti hm rfl rfl (fun m i l v => rf_33 m i l v)) rfl rfl rfl ?_
  refine y_iinc (pc' := 33) (L' := [(2, ii 16), (0, .ref 102), (1, ii a)]) dm_X12_feedOne_30 (y_incp (a := 24) (c := (-8)) rfl rfl (by decide)) rfl ?_
  refine me2 (pc' := 3) (S' := []) dm_X12_feedOne_33 rfl rfl rfl ?_
  refine me1 (pc' := 4) (L' := [(2, ii 16), (0, .ref 102), (1, ii a)]) (S' := [ii 16]) dm_X12_feedOne_3 rfl rfl rfl rfl ?_
  refine me_1f (pc' := 7) dm_X12_feedOne_4 rfl (by decide) rfl ?_
  refine me1 (pc' := 8) (L' := [(2, ii 16), (0, .ref 102), (1, ii a)]) (S' := [.ref 102]) dm_X12_feedOne_7 rfl rfl rfl rfl ?_
  refine me3 (pc' := 11) (S' := [.ref (102 + 17)]) dm_X12_feedOne_8 (q_getr hm rfl (fun m i l => rg_32 m i l)) rfl rfl rfl ?_
  refine me1 (pc' := 12) (L' := [(2, ii 16), (0, .ref 102), (1, ii a)]) (S' := [.ref 102, .ref (102 + 17)]) dm_X12_feedOne_11 rfl rfl rfl rfl ?_
  refine me3 (pc' := 15) (S' := [ii ((s.1 33) + 1), .ref (102 + 17)]) dm_X12_feedOne_12 (q_geti (v := (s.1 33) + 1) hm rfl (fun m i l => rg_33 m i l) rfl) rfl rfl rfl ?_
  refine pg_st0 (S' := [ii ((f + 1 : Nat) : Int), .ref (102 + 17)]) (congrArg (fun z => ii z :: [.ref (102 + 17)]) (by omega)) ?_
  refine me1 (pc' := 16) (L' := [(2, ii 16), (0, .ref 102), (1, ii a)]) (S' := [ii a, ii ((f + 1 : Nat) : Int), .ref (102 + 17)]) dm_X12_feedOne_15 rfl rfl rfl rfl ?_
  refine me1 (pc' := 17) (L' := [(2, ii 16), (0, .ref 102), (1, ii a)]) (S' := [ii 16, ii a, ii ((f + 1 : Nat) : Int), .ref (102 + 17)]) dm_X12_feedOne_16 rfl rfl rfl rfl ?_
  refine y_shrg (a := a) (k := 16) dm_X12_feedOne_17 (pc' := 18) rfl (by omega) (by omega) (by decide) ?_
  have hb82 := b8_r (a / 65536)
  refine y_i2bg (a := a / 65536) (pc' := 19) dm_X12_feedOne_18 rfl (by omega) (by omega) ?_
  refine me3 (pc' := 20) (S' := []) (h1 := rI pre post (va_up s.1 33 ((s.1 33) + 1)) s.2.1 (va_up (va_up s.2.2.1 32 (va_up (s.2.2.1 32) f (b8 (a / 16777216)))) 32 (va_up (va_up (s.2.2.1 32) f (b8 (a / 16777216))) (f + 1) (b8 (a / 65536)))) s.2.2.2) dm_X12_feedOne_19 (q_bast (j := ((f + 1 : Nat) : Int)) (k := 32) (n := 220) hm (fun m i l I J => rc_32 m i l I J) (fun m i l I J f => rs_32 m i l I J f) (by omega) (by omega) (by decide) (by omega)) rfl rfl rfl ?_
  refine me1 (pc' := 21) (L' := [(2, ii 16), (0, .ref 102), (1, ii a)]) (S' := [.ref 102]) dm_X12_feedOne_20 rfl rfl rfl rfl ?_
  refine me0 (pc' := 22) (S' := [.ref 102, .ref 102]) dm_X12_feedOne_21 rfl rfl rfl rfl ?_
  refine me3 (pc' := 25) (S' := [ii ((s.1 33) + 1), .ref 102]) dm_X12_feedOne_22 (q_geti (v := (s.1 33) + 1) hm rfl (fun m i l => rg_33 m i l) rfl) rfl rfl rfl ?_
  refine me0 (pc' := 26) (S' := [ii 1, ii ((s.1 33) + 1), .ref 102]) dm_X12_feedOne_25 rfl rfl rfl rfl ?_
  refine y_iadd (a := (s.1 33) + 1) (b := 1) dm_X12_feedOne_26 (pc' := 27) rfl ?_
  refine me3 (pc' := 30) (S' := []) (h1 := rI pre post (va_up (va_up s.1 33 ((s.1 33) + 1)) 33 (((s.1 33) + 1) + 1)) s.2.1 (va_up (va_up s.2.2.1 32 (va_up (s.2.2.1 32) f (b8 (a / 16777216)))) 32 (va_up (va_up (s.2.2.1 32) f (b8 (a / 16777216))) (f + 1) (b8 (a / 65536)))) s.2.2.2) dm_X12_feedOne_27 (q_puti hm rfl rfl (fun m i l v => rf_33 m i l v)) rfl rfl rfl ?_
  refine y_iinc (pc' := 33) (L' := [(2, ii 8), (0, .ref 102), (1, ii a)]) dm_X12_feedOne_30 (y_incp (a := 16) (c := (-8)) rfl rfl (by decide)) rfl ?_
  refine me2 (pc' := 3) (S' := []) dm_X12_feedOne_33 rfl rfl rfl ?_
  refine me1 (pc' := 4) (L' := [(2, ii 8), (0, .ref 102), (1, ii a)]) (S' := [ii 8]) dm_X12_feedOne_3 rfl rfl rfl rfl ?_
  refine me_1f (pc' := 7) dm_X12_feedOne_4 rfl (by decide) rfl ?_
  refine me1 (pc' := 8) (L' := [(2, ii 8), (0, .ref 102), (1, ii a)]) (S' := [.ref 102]) dm_X12_feedOne_7 rfl rfl rfl rfl ?_
  refine me3 (pc' := 11) (S' := [.ref (102 + 17)]) dm_X12_feedOne_8 (q_getr hm rfl (fun m i l => rg_32 m i l)) rfl rfl rfl ?_
  refine me1 (pc' := 12) (L' := [(2, ii 8), (0, .ref 102), (1, ii a)]) (S' := [.ref 102, .ref (102 + 17)]) dm_X12_feedOne_11 rfl rfl rfl rfl ?_
  refine me3 (pc' := 15) (S' := [ii (((s.1 33) + 1) + 1), .ref (102 + 17)]) dm_X12_feedOne_12 (q_geti (v := ((s.1 33) + 1) + 1) hm rfl (fun m i l => rg_33 m i l) rfl) rfl rfl rfl ?_
  refine pg_st0 (S' := [ii ((f + 2 : Nat) : Int), .ref (102 + 17)]) (congrArg (fun z => ii z :: [.ref (102 + 17)]) (by omega)) ?_
  refine me1 (pc' := 16) (L' := [(2, ii 8), (0, .ref 102), (1, ii a)]) (S' := [ii a, ii ((f + 2 : Nat) : Int), .ref (102 + 17)]) dm_X12_feedOne_15 rfl rfl rfl rfl ?_
  refine me1 (pc' := 17) (L' := [(2, ii 8), (0, .ref 102), (1, ii a)]) (S' := [ii 8, ii a, ii ((f + 2 : Nat) : Int), .ref (102 + 17)]) dm_X12_feedOne_16 rfl rfl rfl rfl ?_
  refine y_shrg (a := a) (k := 8) dm_X12_feedOne_17 (pc' := 18) rfl (by omega) (by omega) (by decide) ?_
  have hb83 := b8_r (a / 256)
  refine y_i2bg (a := a / 256) (pc' := 19) dm_X12_feedOne_18 rfl (by omega) (by omega) ?_
  refine me3 (pc' := 20) (S' := []) (h1 := rI pre post (va_up (va_up s.1 33 ((s.1 33) + 1)) 33 (((s.1 33) + 1) + 1)) s.2.1 (va_up (va_up (va_up s.2.2.1 32 (va_up (s.2.2.1 32) f (b8 (a / 16777216)))) 32 (va_up (va_up (s.2.2.1 32) f (b8 (a / 16777216))) (f + 1) (b8 (a / 65536)))) 32 (va_up (va_up (va_up (s.2.2.1 32) f (b8 (a / 16777216))) (f + 1) (b8 (a / 65536))) (f + 2) (b8 (a / 256)))) s.2.2.2) dm_X12_feedOne_19 (q_bast (j := ((f + 2 : Nat) : Int)) (k := 32) (n := 220) hm (fun m i l I J => rc_32 m i l I J) (fun m i l I J f => rs_32 m i l I J f) (by omega) (by omega) (by decide) (by omega)) rfl rfl rfl ?_
  refine me1 (pc' := 21) (L' := [(2, ii 8), (0, .ref 102), (1, ii a)]) (S' := [.ref 102]) dm_X12_feedOne_20 rfl rfl rfl rfl ?_
  refine me0 (pc' := 22) (S' := [.ref 102, .ref 102]) dm_X12_feedOne_21 rfl rfl rfl rfl ?_
  refine me3 (pc' := 25) (S' := [ii (((s.1 33) + 1) + 1), .ref 102]) dm_X12_feedOne_22 (q_geti (v := ((s.1 33) + 1) + 1) hm rfl (fun m i l => rg_33 m i l) rfl) rfl rfl rfl ?_
  refine me0 (pc' := 26) (S' := [ii 1, ii (((s.1 33) + 1) + 1), .ref 102]) dm_X12_feedOne_25 rfl rfl rfl rfl ?_
  refine y_iadd (a := ((s.1 33) + 1) + 1) (b := 1) dm_X12_feedOne_26 (pc' := 27) rfl ?_
  refine me3 (pc' := 30) (S' := []) (h1 := rI pre post (va_up (va_up (va_up s.1 33 ((s.1 33) + 1)) 33 (((s.1 33) + 1) + 1)) 33 ((((s.1 33) + 1) + 1) + 1)) s.2.1 (va_up (va_up (va_up s.2.2.1 32 (va_up (s.2.2.1 32) f (b8 (a / 16777216)))) 32 (va_up (va_up (s.2.2.1 32) f (b8 (a / 16777216))) (f + 1) (b8 (a / 65536)))) 32 (va_up (va_up (va_up (s.2.2.1 32) f (b8 (a / 16777216))) (f + 1) (b8 (a / 65536))) (f + 2) (b8 (a / 256)))) s.2.2.2) dm_X12_feedOne_27 (q_puti hm rfl rfl (fun m i l v => rf_33 m i l v)) rfl rfl rfl ?_
  refine y_iinc (pc' := 33) (L' := [(2, ii 0), (0, .ref 102), (1, ii a)]) dm_X12_feedOne_30 (y_incp (a := 8) (c := (-8)) rfl rfl (by decide)) rfl ?_
  refine me2 (pc' := 3) (S' := []) dm_X12_feedOne_33 rfl rfl rfl ?_
  refine me1 (pc' := 4) (L' := [(2, ii 0), (0, .ref 102), (1, ii a)]) (S' := [ii 0]) dm_X12_feedOne_3 rfl rfl rfl rfl ?_
  refine me_1f (pc' := 7) dm_X12_feedOne_4 rfl (by decide) rfl ?_
  refine me1 (pc' := 8) (L' := [(2, ii 0), (0, .ref 102), (1, ii a)]) (S' := [.ref 102]) dm_X12_feedOne_7 rfl rfl rfl rfl ?_
  refine me3 (pc' := 11) (S' := [.ref (102 + 17)]) dm_X12_feedOne_8 (q_getr hm rfl (fun m i l => rg_32 m i l)) rfl rfl rfl ?_
  refine me1 (pc' := 12) (L' := [(2, ii 0), (0, .ref 102), (1, ii a)]) (S' := [.ref 102, .ref (102 + 17)]) dm_X12_feedOne_11 rfl rfl rfl rfl ?_
  refine me3 (pc' := 15) (S' := [ii ((((s.1 33) + 1) + 1) + 1), .ref (102 + 17)]) dm_X12_feedOne_12 (q_geti (v := (((s.1 33) + 1) + 1) + 1) hm rfl (fun m i l => rg_33 m i l) rfl) rfl rfl rfl ?_
  refine pg_st0 (S' := [ii ((f + 3 : Nat) : Int), .ref (102 + 17)]) (congrArg (fun z => ii z :: [.ref (102 + 17)]) (by omega)) ?_
  refine me1 (pc' := 16) (L' := [(2, ii 0), (0, .ref 102), (1, ii a)]) (S' := [ii a, ii ((f + 3 : Nat) : Int), .ref (102 + 17)]) dm_X12_feedOne_15 rfl rfl rfl rfl ?_
  refine me1 (pc' := 17) (L' := [(2, ii 0), (0, .ref 102), (1, ii a)]) (S' := [ii 0, ii a, ii ((f + 3 : Nat) : Int), .ref (102 + 17)]) dm_X12_feedOne_16 rfl rfl rfl rfl ?_
  refine y_shrg (a := a) (k := 0) dm_X12_feedOne_17 (pc' := 18) rfl (by omega) (by omega) (by decide) ?_
  have hb84 := b8_r (a / 1)
  refine y_i2bg (a := a / 1) (pc' := 19) dm_X12_feedOne_18 rfl (by omega) (by omega) ?_
  refine me3 (pc' := 20) (S' := []) (h1 := rI pre post (va_up (va_up (va_up s.1 33 ((s.1 33) + 1)) 33 (((s.1 33) + 1) + 1)) 33 ((((s.1 33) + 1) + 1) + 1)) s.2.1 (va_up (va_up (va_up (va_up s.2.2.1 32 (va_up (s.2.2.1 32) f (b8 (a / 16777216)))) 32 (va_up (va_up (s.2.2.1 32) f (b8 (a / 16777216))) (f + 1) (b8 (a / 65536)))) 32 (va_up (va_up (va_up (s.2.2.1 32) f (b8 (a / 16777216))) (f + 1) (b8 (a / 65536))) (f + 2) (b8 (a / 256)))) 32 (va_up (va_up (va_up (va_up (s.2.2.1 32) f (b8 (a / 16777216))) (f + 1) (b8 (a / 65536))) (f + 2) (b8 (a / 256))) (f + 3) (b8 (a / 1)))) s.2.2.2) dm_X12_feedOne_19 (q_bast (j := ((f + 3 : Nat) : Int)) (k := 32) (n := 220) hm (fun m i l I J => rc_32 m i l I J) (fun m i l I J f => rs_32 m i l I J f) (by omega) (by omega) (by decide) (by omega)) rfl rfl rfl ?_
  refine me1 (pc' := 21) (L' := [(2, ii 0), (0, .ref 102), (1, ii a)]) (S' := [.ref 102]) dm_X12_feedOne_20 rfl rfl rfl rfl ?_
  refine me0 (pc' := 22) (S' := [.ref 102, .ref 102]) dm_X12_feedOne_21 rfl rfl rfl rfl ?_
  refine me3 (pc' := 25) (S' := [ii ((((s.1 33) + 1) + 1) + 1), .ref 102]) dm_X12_feedOne_22 (q_geti (v := (((s.1 33) + 1) + 1) + 1) hm rfl (fun m i l => rg_33 m i l) rfl) rfl rfl rfl ?_
  refine me0 (pc' := 26) (S' := [ii 1, ii ((((s.1 33) + 1) + 1) + 1), .ref 102]) dm_X12_feedOne_25 rfl rfl rfl rfl ?_
  refine y_iadd (a := (((s.1 33) + 1) + 1) + 1) (b := 1) dm_X12_feedOne_26 (pc' := 27) rfl ?_
  refine me3 (pc' := 30) (S' := []) (h1 := rI pre post (va_up (va_up (va_up (va_up s.1 33 ((s.1 33) + 1)) 33 (((s.1 33) + 1) + 1)) 33 ((((s.1 33) + 1) + 1) + 1)) 33 (((((s.1 33) + 1) + 1) + 1) + 1)) s.2.1 (va_up (va_up (va_up (va_up s.2.2.1 32 (va_up (s.2.2.1 32) f (b8 (a / 16777216)))) 32 (va_up (va_up (s.2.2.1 32) f (b8 (a / 16777216))) (f + 1) (b8 (a / 65536)))) 32 (va_up (va_up (va_up (s.2.2.1 32) f (b8 (a / 16777216))) (f + 1) (b8 (a / 65536))) (f + 2) (b8 (a / 256)))) 32 (va_up (va_up (va_up (va_up (s.2.2.1 32) f (b8 (a / 16777216))) (f + 1) (b8 (a / 65536))) (f + 2) (b8 (a / 256))) (f + 3) (b8 (a / 1)))) s.2.2.2) dm_X12_feedOne_27 (q_puti hm rfl rfl (fun m i l v => rf_33 m i l v)) rfl rfl rfl ?_
  refine y_iinc (pc' := 33) (L' := [(2, ii (-8)), (0, .ref 102), (1, ii a)]) dm_X12_feedOne_30 (y_incp (a := 0) (c := (-8)) rfl rfl (by decide)) rfl ?_
  refine me2 (pc' := 3) (S' := []) dm_X12_feedOne_33 rfl rfl rfl ?_
  refine me1 (pc' := 4) (L' := [(2, ii (-8)), (0, .ref 102), (1, ii a)]) (S' := [ii (-8)]) dm_X12_feedOne_3 rfl rfl rfl rfl ?_
  refine me_1t (pc' := 36) dm_X12_feedOne_4 rfl (by decide) ?_
  refine y_ret (r := none) dm_X12_feedOne_36 rfl rfl rfl ?_
  have e9 : rI pre post (va_up (va_up (va_up (va_up s.1 33 ((s.1 33) + 1)) 33 (((s.1 33) + 1) + 1)) 33 ((((s.1 33) + 1) + 1) + 1)) 33 (((((s.1 33) + 1) + 1) + 1) + 1)) s.2.1 (va_up (va_up (va_up (va_up s.2.2.1 32 (va_up (s.2.2.1 32) f (b8 (a / 16777216)))) 32 (va_up (va_up (s.2.2.1 32) f (b8 (a / 16777216))) (f + 1) (b8 (a / 65536)))) 32 (va_up (va_up (va_up (s.2.2.1 32) f (b8 (a / 16777216))) (f + 1) (b8 (a / 65536))) (f + 2) (b8 (a / 256)))) 32 (va_up (va_up (va_up (va_up (s.2.2.1 32) f (b8 (a / 16777216))) (f + 1) (b8 (a / 65536))) (f + 2) (b8 (a / 256))) (f + 3) (b8 (a / 1)))) s.2.2.2 = rS pre post (fdS s f a) := by
    unfold fdS g4
    simp only [up_up]
    rw [show s.1 33 + 1 + 1 + 1 + 1 = ((f + 4 : Nat) : Int) by omega]
  exact ⟨rfl, e9⟩
set_option maxRecDepth 20000 in
theorem pm_X12_feed : mj_mmof pg_ms 200 = some ((⟨"ArrayCalculatorModel", "feed", "(IIIII)I"⟩, prog_14_method_93_code, 6, (Option.some Jvm.ClassFile.FieldType.int)), 12, false, mj_dec prog_14_method_93_code) := rfl
theorem dm_X12_feed_0 : mj_dec prog_14_method_93_code 0 = some (.aload_n 0, 1) := by decide +kernel
theorem dm_X12_feed_1 : mj_dec prog_14_method_93_code 1 = some (.getfield 501, 3) := by decide +kernel
theorem dm_X12_feed_4 : mj_dec prog_14_method_93_code 4 = some (.bipush 20, 2) := by decide +kernel
theorem dm_X12_feed_6 : mj_dec prog_14_method_93_code 6 = some (.iadd, 1) := by decide +kernel
theorem dm_X12_feed_7 : mj_dec prog_14_method_93_code 7 = some (.sipush 200, 3) := by decide +kernel
theorem dm_X12_feed_10 : mj_dec prog_14_method_93_code 10 = some (.if_icmp .le 5, 3) := by decide +kernel
theorem dm_X12_feed_15 : mj_dec prog_14_method_93_code 15 = some (.aload_n 0, 1) := by decide +kernel
theorem dm_X12_feed_16 : mj_dec prog_14_method_93_code 16 = some (.iload_n 1, 1) := by decide +kernel
theorem dm_X12_feed_17 : mj_dec prog_14_method_93_code 17 = some (.invokevirtual 504, 3) := by decide +kernel
theorem dm_X12_feed_20 : mj_dec prog_14_method_93_code 20 = some (.aload_n 0, 1) := by decide +kernel
theorem dm_X12_feed_21 : mj_dec prog_14_method_93_code 21 = some (.iload_n 2, 1) := by decide +kernel
theorem dm_X12_feed_22 : mj_dec prog_14_method_93_code 22 = some (.invokevirtual 504, 3) := by decide +kernel
theorem dm_X12_feed_25 : mj_dec prog_14_method_93_code 25 = some (.aload_n 0, 1) := by decide +kernel
theorem dm_X12_feed_26 : mj_dec prog_14_method_93_code 26 = some (.iload_n 3, 1) := by decide +kernel
theorem dm_X12_feed_27 : mj_dec prog_14_method_93_code 27 = some (.invokevirtual 504, 3) := by decide +kernel
theorem dm_X12_feed_30 : mj_dec prog_14_method_93_code 30 = some (.aload_n 0, 1) := by decide +kernel
theorem dm_X12_feed_31 : mj_dec prog_14_method_93_code 31 = some (.iload 4, 2) := by decide +kernel
theorem dm_X12_feed_33 : mj_dec prog_14_method_93_code 33 = some (.invokevirtual 504, 3) := by decide +kernel
theorem dm_X12_feed_36 : mj_dec prog_14_method_93_code 36 = some (.aload_n 0, 1) := by decide +kernel
theorem dm_X12_feed_37 : mj_dec prog_14_method_93_code 37 = some (.iload 5, 2) := by decide +kernel
theorem dm_X12_feed_39 : mj_dec prog_14_method_93_code 39 = some (.invokevirtual 504, 3) := by decide +kernel
theorem dm_X12_feed_42 : mj_dec prog_14_method_93_code 42 = some (.aload_n 0, 1) := by decide +kernel
theorem dm_X12_feed_43 : mj_dec prog_14_method_93_code 43 = some (.getfield 501, 3) := by decide +kernel
theorem dm_X12_feed_46 : mj_dec prog_14_method_93_code 46 = some (.ireturn, 1) := by decide +kernel
theorem r_feed_ {xt : mj_X} {d f : Nat} {pre post : mj_H} {s : RS} {a b c e g : Int} (hm : pre.length = 102) (hd : 2 ≤ d) (h33 : s.1 33 = (f : Int)) (hf : f + 20 ≤ 200) (ha : -2147483648 ≤ a ∧ a ≤ 2147483647) (hb : -2147483648 ≤ b ∧ b ≤ 2147483647) (hc : -2147483648 ≤ c ∧ c ≤ 2147483647) (he : -2147483648 ≤ e ∧ e ≤ 2147483647) (hg : -2147483648 ≤ g ∧ g ≤ 2147483647) : pgV xt d 200 [.ref 102, ii a, ii b, ii c, ii e, ii g] (rS pre post s) (fun y h' => y = ii ((f + 20 : Nat) : Int) ∧ h' = rS pre post (fdS (fdS (fdS (fdS (fdS s f a) (f + 4) b) (f + 8) c) (f + 12) e) (f + 16) g)) := by
  refine x_enter pm_X12_feed (L0 := [(0, .ref 102), (1, ii a), (2, ii b), (3, ii c), (4, ii e), (5, ii g)]) rfl (Nat.le_of_ble_eq_true rfl) (by omega) ?_
  refine me1 (pc' := 1) (L' := [(0, .ref 102), (1, ii a), (2, ii b), (3, ii c), (4, ii e), (5, ii g)]) (S' := [.ref 102]) dm_X12_feed_0 rfl rfl rfl rfl ?_
  refine me3 (pc' := 4) (S' := [ii (s.1 33)]) dm_X12_feed_1 (q_geti (v := s.1 33) hm rfl (fun m i l => rg_33 m i l) rfl) rfl rfl rfl ?_
  refine me0 (pc' := 6) (S' := [ii 20, ii (s.1 33)]) dm_X12_feed_4 rfl rfl rfl rfl ?_
  refine y_iadd (a := s.1 33) (b := 20) dm_X12_feed_6 (pc' := 7) rfl ?_
  refine me0 (pc' := 10) (S' := [ii 200, ii ((s.1 33) + 20)]) dm_X12_feed_7 rfl rfl rfl rfl ?_
  refine y_2le (a := (s.1 33) + 20) (b := 200) (t := 15) (pc' := 13) dm_X12_feed_10 rfl rfl (by omega) (fun hb1 => ?_) (fun hb1 => ?_)
  · refine me1 (pc' := 16) (L' := [(0, .ref 102), (1, ii a), (2, ii b), (3, ii c), (4, ii e), (5, ii g)]) (S' := [.ref 102]) dm_X12_feed_15 rfl rfl rfl rfl ?_
    refine me1 (pc' := 17) (L' := [(0, .ref 102), (1, ii a), (2, ii b), (3, ii c), (4, ii e), (5, ii g)]) (S' := [ii a, .ref 102]) dm_X12_feed_16 rfl rfl rfl rfl ?_
    refine x_cn (pc' := 20) (rest := []) dm_X12_feed_17 rfl (q_inv (As := [ii a]) (S := []) hm rfl rfl rfl) rfl rfl rfl (r_feedOne_ (s := s) (f := f) hm (by omega) (h33) (by omega) ha) ?_
    rintro _ rfl
    refine me1 (pc' := 21) (L' := [(0, .ref 102), (1, ii a), (2, ii b), (3, ii c), (4, ii e), (5, ii g)]) (S' := [.ref 102]) dm_X12_feed_20 rfl rfl rfl rfl ?_
    refine me1 (pc' := 22) (L' := [(0, .ref 102), (1, ii a), (2, ii b), (3, ii c), (4, ii e), (5, ii g)]) (S' := [ii b, .ref 102]) dm_X12_feed_21 rfl rfl rfl rfl ?_
    refine x_cn (pc' := 25) (rest := []) dm_X12_feed_22 rfl (q_inv (As := [ii b]) (S := []) hm rfl rfl rfl) rfl rfl rfl (r_feedOne_ (s := (fdS s f a)) (f := f + 4) hm (by omega) (fdS_33) (by omega) hb) ?_
    rintro _ rfl
    refine me1 (pc' := 26) (L' := [(0, .ref 102), (1, ii a), (2, ii b), (3, ii c), (4, ii e), (5, ii g)]) (S' := [.ref 102]) dm_X12_feed_25 rfl rfl rfl rfl ?_
    refine me1 (pc' := 27) (L' := [(0, .ref 102), (1, ii a), (2, ii b), (3, ii c), (4, ii e), (5, ii g)]) (S' := [ii c, .ref 102]) dm_X12_feed_26 rfl rfl rfl rfl ?_
    refine x_cn (pc' := 30) (rest := []) dm_X12_feed_27 rfl (q_inv (As := [ii c]) (S := []) hm rfl rfl rfl) rfl rfl rfl (r_feedOne_ (s := (fdS (fdS s f a) (f + 4) b)) (f := f + 8) hm (by omega) (fdS_33) (by omega) hc) ?_
    rintro _ rfl
    refine me1 (pc' := 31) (L' := [(0, .ref 102), (1, ii a), (2, ii b), (3, ii c), (4, ii e), (5, ii g)]) (S' := [.ref 102]) dm_X12_feed_30 rfl rfl rfl rfl ?_
    refine me1 (pc' := 33) (L' := [(0, .ref 102), (1, ii a), (2, ii b), (3, ii c), (4, ii e), (5, ii g)]) (S' := [ii e, .ref 102]) dm_X12_feed_31 rfl rfl rfl rfl ?_
    refine x_cn (pc' := 36) (rest := []) dm_X12_feed_33 rfl (q_inv (As := [ii e]) (S := []) hm rfl rfl rfl) rfl rfl rfl (r_feedOne_ (s := (fdS (fdS (fdS s f a) (f + 4) b) (f + 8) c)) (f := f + 12) hm (by omega) (fdS_33) (by omega) he) ?_
    rintro _ rfl
    refine me1 (pc' := 37) (L' := [(0, .ref 102), (1, ii a), (2, ii b), (3, ii c), (4, ii e), (5, ii g)]) (S' := [.ref 102]) dm_X12_feed_36 rfl rfl rfl rfl ?_
    refine me1 (pc' := 39) (L' := [(0, .ref 102), (1, ii a), (2, ii b), (3, ii c), (4, ii e), (5, ii g)]) (S' := [ii g, .ref 102]) dm_X12_feed_37 rfl rfl rfl rfl ?_
    refine x_cn (pc' := 42) (rest := []) dm_X12_feed_39 rfl (q_inv (As := [ii g]) (S := []) hm rfl rfl rfl) rfl rfl rfl (r_feedOne_ (s := (fdS (fdS (fdS (fdS s f a) (f + 4) b) (f + 8) c) (f + 12) e)) (f := f + 16) hm (by omega) (fdS_33) (by omega) hg) ?_
    rintro _ rfl
    refine me1 (pc' := 43) (L' := [(0, .ref 102), (1, ii a), (2, ii b), (3, ii c), (4, ii e), (5, ii g)]) (S' := [.ref 102]) dm_X12_feed_42 rfl rfl rfl rfl ?_
    refine me3 (pc' := 46) (S' := [ii (((fdS (fdS (fdS (fdS (fdS s f a) (f + 4) b) (f + 8) c) (f + 12) e) (f + 16) g).1) 33)]) dm_X12_feed_43 (q_geti (v := ((fdS (fdS (fdS (fdS (fdS s f a) (f + 4) b) (f + 8) c) (f + 12) e) (f + 16) g).1) 33) hm rfl (fun m i l => rg_33 m i l) rfl) rfl rfl rfl ?_
    refine pg_st0 (S' := [ii ((f + 20 : Nat) : Int)]) (congrArg (fun z => ii z :: []) (fdS_33)) ?_
    refine y_ret (r := some (ii ((f + 20 : Nat) : Int))) dm_X12_feed_46 rfl rfl rfl ?_
    exact ⟨_, rfl, rfl, rfl⟩
  · exfalso; omega
theorem dm_X12_feed_13 : mj_dec prog_14_method_93_code 13 = some (.iconst (-1), 1) := by decide +kernel
theorem dm_X12_feed_14 : mj_dec prog_14_method_93_code 14 = some (.ireturn, 1) := by decide +kernel
theorem r_feedN_ {xt : mj_X} {d f : Nat} {pre post : mj_H} {s : RS} {a b c e g : Int} (hm : pre.length = 102) (hd : 2 ≤ d) (h33 : s.1 33 = (f : Int)) (hf : 200 < f + 20) (hf2 : f ≤ 200) : pgV xt d 200 [.ref 102, ii a, ii b, ii c, ii e, ii g] (rS pre post s) (fun y h' => y = ii (-1) ∧ h' = rS pre post s) := by
  refine x_enter pm_X12_feed (L0 := [(0, .ref 102), (1, ii a), (2, ii b), (3, ii c), (4, ii e), (5, ii g)]) rfl (Nat.le_of_ble_eq_true rfl) (by omega) ?_
  refine me1 (pc' := 1) (L' := [(0, .ref 102), (1, ii a), (2, ii b), (3, ii c), (4, ii e), (5, ii g)]) (S' := [.ref 102]) dm_X12_feed_0 rfl rfl rfl rfl ?_
  refine me3 (pc' := 4) (S' := [ii (s.1 33)]) dm_X12_feed_1 (q_geti (v := s.1 33) hm rfl (fun m i l => rg_33 m i l) rfl) rfl rfl rfl ?_
  refine me0 (pc' := 6) (S' := [ii 20, ii (s.1 33)]) dm_X12_feed_4 rfl rfl rfl rfl ?_
  refine y_iadd (a := s.1 33) (b := 20) dm_X12_feed_6 (pc' := 7) rfl ?_
  refine me0 (pc' := 10) (S' := [ii 200, ii ((s.1 33) + 20)]) dm_X12_feed_7 rfl rfl rfl rfl ?_
  refine y_2le (a := (s.1 33) + 20) (b := 200) (t := 15) (pc' := 13) dm_X12_feed_10 rfl rfl (by omega) (fun hb1 => ?_) (fun hb1 => ?_)
  · exfalso; omega
  · refine me0 (pc' := 14) (S' := [ii (-1)]) dm_X12_feed_13 rfl rfl rfl rfl ?_
    refine y_ret (r := some (ii (-1))) dm_X12_feed_14 rfl rfl rfl ?_
    exact ⟨_, rfl, rfl, rfl⟩
