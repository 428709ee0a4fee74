theorem n_shr {a : Int} {k : Nat} (h0 : 0 ≤ a) (h1 : a ≤ 2147483647) (hk : k < 31) : Int32.ofInt a >>> (Int32.ofInt (k : Int) &&& 31) = Int32.ofInt (a / 2 ^ k) := by
  obtain ⟨n, rfl⟩ : ∃ n : Nat, a = (n : Int) := ⟨a.toNat, by omega⟩
  have e1 : Int32.ofInt (k : Int) &&& 31 = Int32.ofInt (k : Int) := by
    apply Int32.toBitVec_inj.mp
    rw [Int32.toBitVec_and, Int32.toBitVec_ofInt, BitVec.ofInt_natCast]
    apply BitVec.eq_of_toNat_eq
    rw [BitVec.toNat_and, BitVec.toNat_ofNat, Nat.mod_eq_of_lt (a := k) (by omega), show (Int32.toBitVec 31).toNat = 2 ^ 5 - 1 from rfl, Nat.and_two_pow_sub_one_eq_mod, Nat.mod_eq_of_lt (by omega)]
  rw [e1]
  apply Int32.toBitVec_inj.mp
  have e2 : (2 : Int) ^ k = ((2 ^ k : Nat) : Int) := by norm_cast
  rw [Int32.toBitVec_shiftRight, Int32.toBitVec_ofInt, Int32.toBitVec_ofInt, Int32.toBitVec_ofInt, e2, ← Int.natCast_ediv, BitVec.ofInt_natCast, BitVec.ofInt_natCast, BitVec.ofInt_natCast]
  have e3 : (BitVec.ofNat 32 k).smod 32 = BitVec.ofNat 32 k := by
    have : ∀ k : Fin 31, (BitVec.ofNat 32 k.val).smod 32 = BitVec.ofNat 32 k.val := by decide
    exact this ⟨k, hk⟩
  rw [e3]
  apply BitVec.eq_of_toNat_eq
  rw [BitVec.sshiftRight_eq', BitVec.toNat_ofNat, Nat.mod_eq_of_lt (a := k) (by omega), BitVec.sshiftRight_eq_of_msb_false (by rw [BitVec.msb_eq_decide, BitVec.toNat_ofNat, Nat.mod_eq_of_lt (by omega)]; simp; omega), BitVec.toNat_ushiftRight, BitVec.toNat_ofNat, BitVec.toNat_ofNat, Nat.mod_eq_of_lt (a := n) (by omega), Nat.shiftRight_eq_div_pow]
  have := Nat.div_le_self n (2 ^ k)
  rw [Nat.mod_eq_of_lt (by omega)]
theorem n_shl {a : Int} {k : Nat} (hk : k < 31) : Int32.ofInt a <<< (Int32.ofInt (k : Int) &&& 31) = Int32.ofInt (a * 2 ^ k) := by
  have e1 : Int32.ofInt (k : Int) &&& 31 = Int32.ofInt (k : Int) := by
    apply Int32.toBitVec_inj.mp
    rw [Int32.toBitVec_and, Int32.toBitVec_ofInt, BitVec.ofInt_natCast]
    apply BitVec.eq_of_toNat_eq
    rw [BitVec.toNat_and, BitVec.toNat_ofNat, Nat.mod_eq_of_lt (a := k) (by omega), show (Int32.toBitVec 31).toNat = 2 ^ 5 - 1 from rfl, Nat.and_two_pow_sub_one_eq_mod, Nat.mod_eq_of_lt (by omega)]
  rw [e1]
  apply Int32.toBitVec_inj.mp
  have e3 : (BitVec.ofNat 32 k).smod 32 = BitVec.ofNat 32 k := by
    have : ∀ k : Fin 31, (BitVec.ofNat 32 k.val).smod 32 = BitVec.ofNat 32 k.val := by decide
    exact this ⟨k, hk⟩
  rw [Int32.toBitVec_shiftLeft, Int32.toBitVec_ofInt, Int32.toBitVec_ofInt, Int32.toBitVec_ofInt, BitVec.ofInt_natCast, e3, BitVec.shiftLeft_eq', BitVec.toNat_ofNat, Nat.mod_eq_of_lt (a := k) (by omega), BitVec.shiftLeft_eq_mul_twoPow, BitVec.ofInt_mul]
  congr 1
  have e2 : (2 : Int) ^ k = ((2 ^ k : Nat) : Int) := by norm_cast
  rw [e2, BitVec.ofInt_natCast]
  apply BitVec.eq_of_toNat_eq
  rw [BitVec.toNat_twoPow, BitVec.toNat_ofNat]
theorem n_or {a b : Int} {k : Nat} (h0 : 0 ≤ a) (h1 : a < 2 ^ k) (h2 : 0 ≤ b) (h3 : a + b * 2 ^ k ≤ 2147483647) : Int32.ofInt a ||| Int32.ofInt (b * 2 ^ k) = Int32.ofInt (a + b * 2 ^ k) := by
  obtain ⟨n, rfl⟩ : ∃ n : Nat, a = (n : Int) := ⟨a.toNat, by omega⟩
  obtain ⟨m, rfl⟩ : ∃ m : Nat, b = (m : Int) := ⟨b.toNat, by omega⟩
  have e2 : (2 : Int) ^ k = ((2 ^ k : Nat) : Int) := by norm_cast
  rw [e2, ← Int.natCast_mul] at h3 ⊢
  rw [e2] at h1
  rw [← Int.natCast_add] at h3 ⊢
  apply Int32.toBitVec_inj.mp
  rw [Int32.toBitVec_or, Int32.toBitVec_ofInt, Int32.toBitVec_ofInt, Int32.toBitVec_ofInt, BitVec.ofInt_natCast, BitVec.ofInt_natCast, BitVec.ofInt_natCast]
  apply BitVec.eq_of_toNat_eq
  rw [BitVec.toNat_or, BitVec.toNat_ofNat, BitVec.toNat_ofNat, BitVec.toNat_ofNat, Nat.mod_eq_of_lt (a := n) (by omega), Nat.mod_eq_of_lt (a := m * 2 ^ k) (by omega), Nat.mod_eq_of_lt (by omega), Nat.or_comm, Nat.mul_comm m, ← Nat.two_pow_add_eq_or_of_lt (by omega), Nat.add_comm]
section YB
variable {xt : mj_X} {d own nL : Nat} {ini : Bool} {ret : Option FieldType} {cf : Nat → Option (Instr × Nat)} {pc pc' : Nat} {L : mj_L} {S : List Value} {h : mj_H} {P : Option Value → mj_H → Prop} {a b : Int}
theorem y_and7 (hc : cf pc = some (.iand, 1)) (hp : pc + 1 = pc') (h0 : 0 ≤ a) (h1 : a ≤ 2147483647) (k : pgE xt d own nL ini ret cf pc' L (ii (a % 8) :: S) h P) : pgE xt d own nL ini ret cf pc L (ii 7 :: ii a :: S) h P :=
  me0 hc (show mj_alu .iand (ii 7 :: ii a :: S) = some (ii (a % 8) :: S) from congrArg (fun z => some (Value.int z :: S)) (n_and7 h0 h1)) rfl rfl hp k
theorem y_and255 (hc : cf pc = some (.iand, 1)) (hp : pc + 1 = pc') (h0 : 0 ≤ a) (h1 : a ≤ 2147483647) (k : pgE xt d own nL ini ret cf pc' L (ii (a % 256) :: S) h P) : pgE xt d own nL ini ret cf pc L (ii 255 :: ii a :: S) h P :=
  me0 hc (show mj_alu .iand (ii 255 :: ii a :: S) = some (ii (a % 256) :: S) from congrArg (fun z => some (Value.int z :: S)) (n_and255 h0 h1)) rfl rfl hp k
theorem y_shr {k : Nat} (hc : cf pc = some (.ishr, 1)) (hp : pc + 1 = pc') (h0 : 0 ≤ a) (h1 : a ≤ 2147483647) (hk : k < 31) (q : pgE xt d own nL ini ret cf pc' L (ii (a / 2 ^ k) :: S) h P) : pgE xt d own nL ini ret cf pc L (ii (k : Int) :: ii a :: S) h P :=
  me0 hc (show mj_alu .ishr (ii (k : Int) :: ii a :: S) = some (ii (a / 2 ^ k) :: S) from congrArg (fun z => some (Value.int z :: S)) (n_shr h0 h1 hk)) rfl rfl hp q
theorem y_shl {k : Nat} (hc : cf pc = some (.ishl, 1)) (hp : pc + 1 = pc') (hk : k < 31) (q : pgE xt d own nL ini ret cf pc' L (ii (a * 2 ^ k) :: S) h P) : pgE xt d own nL ini ret cf pc L (ii (k : Int) :: ii a :: S) h P :=
  me0 hc (show mj_alu .ishl (ii (k : Int) :: ii a :: S) = some (ii (a * 2 ^ k) :: S) from congrArg (fun z => some (Value.int z :: S)) (n_shl hk)) rfl rfl hp q
theorem y_or {k : Nat} {c : Int} (hc : cf pc = some (.ior, 1)) (hp : pc + 1 = pc') (hb : b = c * 2 ^ k) (h0 : 0 ≤ a) (h1 : a < 2 ^ k) (h2 : 0 ≤ c) (h3 : a + c * 2 ^ k ≤ 2147483647) (q : pgE xt d own nL ini ret cf pc' L (ii (a + b) :: S) h P) : pgE xt d own nL ini ret cf pc L (ii b :: ii a :: S) h P := by
  subst hb
  exact me0 hc (show mj_alu .ior (ii (c * 2 ^ k) :: ii a :: S) = some (ii (a + c * 2 ^ k) :: S) from congrArg (fun z => some (Value.int z :: S)) (n_or h0 h1 h2 h3)) rfl rfl hp q
end YB
