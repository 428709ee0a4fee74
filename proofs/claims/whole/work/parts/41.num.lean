/-! rows over numbers: an int of the machine is told by its Int; calls by what they come to -/
abbrev ii (a : Int) : Value := .int (Int32.ofInt a)
abbrev zi (c : Bool) : Int := if c = true then 1 else 0
abbrev zz (c : Bool) : Value := ii (zi c)
/-- a call comes to an end, and P holds there -/
def pgX (xt : mj_X) (d k : Nat) (As : List Value) (h : mj_H) (P : Option Value → mj_H → Prop) : Prop := ∃ r h', pgC xt d k As h r h' ∧ P r h'
/-- a call that changes nothing, and its answer -/
abbrev pgP (xt : mj_X) (d k : Nat) (As : List Value) (h : mj_H) (v : Value) : Prop := pgX xt d k As h (fun r h' => r = some v ∧ h' = h)
abbrev pgV (xt : mj_X) (d k : Nat) (As : List Value) (h : mj_H) (Q : Value → mj_H → Prop) : Prop := pgX xt d k As h (fun r h' => ∃ v, r = some v ∧ Q v h')
abbrev pgN (xt : mj_X) (d k : Nat) (As : List Value) (h : mj_H) (Q : mj_H → Prop) : Prop := pgX xt d k As h (fun r h' => r = none ∧ Q h')
theorem n_to {a : Int} (h1 : -2147483648 ≤ a) (h2 : a ≤ 2147483647) : (Int32.ofInt a).toInt = a := Int32.toInt_ofInt_of_le (by omega) (by omega)
theorem n_toL {a : Int} (h1 : -9223372036854775808 ≤ a) (h2 : a ≤ 9223372036854775807) : (Int64.ofInt a).toInt = a := Int64.toInt_ofInt_of_le (by omega) (by omega)
theorem n_cl {a : Int} (h1 : -2147483648 ≤ a) (h2 : a ≤ 2147483647) : (Int32.ofInt a).toNatClampNeg = a.toNat := Int32.toNatClampNeg_ofInt_of_le (by omega) (by omega)
theorem n_i2l {a : Int} (h1 : -2147483648 ≤ a) (h2 : a ≤ 2147483647) : (Int32.ofInt a).toInt64 = Int64.ofInt a := by
  apply Int64.toInt_inj.mp
  rw [Int32.toInt_toInt64, n_to h1 h2, n_toL (by omega) (by omega)]
theorem n_inj {a b : Int} (h1 : -2147483648 ≤ a) (h2 : a ≤ 2147483647) (h3 : -2147483648 ≤ b) (h4 : b ≤ 2147483647) (h : Int32.ofInt a = Int32.ofInt b) : a = b := by
  rw [← n_to h1 h2, ← n_to h3 h4, h]
theorem n_ii {a b : Int} (h : a = b) : ii a = ii b := by rw [h]
theorem n_si {a b : Int} (h : a = b) : some (ii a) = some (ii b) := by rw [h]
theorem n_ofNat (n : Nat) : Int32.ofNat n = Int32.ofInt (n : Int) := Int32.ofInt_eq_ofNat.symm
theorem n_div {a b : Int} (h1 : 0 ≤ a) (h2 : a ≤ 2147483647) (h3 : 0 < b) (h4 : b ≤ 2147483647) : Int32.ofInt a / Int32.ofInt b = Int32.ofInt (a / b) := by
  apply Int32.toInt_inj.mp
  have hb : Int32.ofInt b ≠ -1 := by
    intro h
    have h5 := congrArg Int32.toInt h
    rw [n_to (by omega) h4] at h5
    have : ((-1 : Int32)).toInt = -1 := by decide
    omega
  have h6 : a / b ≤ a := Int.ediv_le_self b h1
  have h7 : 0 ≤ a / b := Int.ediv_nonneg h1 (by omega)
  rw [Int32.toInt_div_of_ne_right _ _ hb, n_to (by omega) h2, n_to (by omega) h4, n_to (by omega) (by omega), Int.tdiv_eq_ediv_of_nonneg h1]
theorem n_rem {a b : Int} (h1 : 0 ≤ a) (h2 : a ≤ 2147483647) (h3 : 0 < b) (h4 : b ≤ 2147483647) : Int32.ofInt a - Int32.ofInt a / Int32.ofInt b * Int32.ofInt b = Int32.ofInt (a % b) := by
  rw [n_div h1 h2 h3 h4, ← Int32.ofInt_mul, ← Int32.ofInt_sub]
  congr 1
  have := Int.emod_add_mul_ediv a b
  have h5 : b * (a / b) = a / b * b := Int.mul_comm _ _
  omega
section YE
variable {xt : mj_X} {d own nL : Nat} {ini : Bool} {ret : Option FieldType} {cf : Nat → Option (Instr × Nat)} {pc len pc' t : Nat} {L L' : mj_L} {S S' : List Value} {h h1 : mj_H} {i : Instr} {P : Option Value → mj_H → Prop} {a b : Int} {off : Int}
theorem x_enter {k : Nat} {As : List Value} {nm : MethodName} {cc : ByteArray} {L0 : mj_L} (hM : mj_mmof pg_ms k = some ((nm, cc, nL, ret), own, ini, cf)) (hL : lv_args 0 As = L0) (hl : (lg_sl As).length ≤ nL) (hd : 1 ≤ d) (b : pgE xt (d - 1) own nL ini ret cf 0 L0 [] h P) : pgX xt d k As h P := by
  obtain ⟨d', rfl⟩ : ∃ d', d = d' + 1 := ⟨d - 1, by omega⟩
  obtain ⟨r, h', a, b⟩ := b
  subst hL
  exact ⟨r, h', ms_call hM hl a, b⟩
theorem x_imp {k : Nat} {As : List Value} {P' : Option Value → mj_H → Prop} (b : pgX xt d k As h P) (hi : ∀ r h', P r h' → P' r h') : pgX xt d k As h P' := by
  obtain ⟨r, h', a, b⟩ := b
  exact ⟨r, h', a, hi _ _ b⟩
theorem x_call {q : Nat} {As rest : List Value} {Q : Option Value → mj_H → Prop} (hc : cf pc = some (i, len)) (hpn : mj_prim (mj_TTof pg_TL own).2 pg_tl 2 i S h = none) (hs : mj_inv (mj_TTof pg_TL own).2 2 i S h = some (q + 1, As, rest)) (hk : mj_kd i = 4) (hl : mj_lenOk i len = true) (hp : pc + 3 = pc') (hx : pgX xt d q As h Q) (k : ∀ r h1, Q r h1 → pgE xt d own nL ini ret cf pc' L (r.toList ++ rest) h1 P) : pgE xt d own nL ini ret cf pc L S h P := by
  obtain ⟨r1, h1, a, b⟩ := hx
  obtain ⟨r, h', a2, b2⟩ := k r1 h1 b
  exact ⟨r, h', ms4 hc hpn hs a hk hl hp a2, b2⟩
theorem x_cp {q : Nat} {As rest : List Value} {v : Value} (hc : cf pc = some (i, len)) (hpn : mj_prim (mj_TTof pg_TL own).2 pg_tl 2 i S h = none) (hs : mj_inv (mj_TTof pg_TL own).2 2 i S h = some (q + 1, As, rest)) (hk : mj_kd i = 4) (hl : mj_lenOk i len = true) (hp : pc + 3 = pc') (hx : pgP xt d q As h v) (k : pgE xt d own nL ini ret cf pc' L (v :: rest) h P) : pgE xt d own nL ini ret cf pc L S h P := by
  refine x_call hc hpn hs hk hl hp hx ?_
  rintro r h1 ⟨rfl, rfl⟩
  exact k
theorem x_cv {q : Nat} {As rest : List Value} {Q : Value → mj_H → Prop} (hc : cf pc = some (i, len)) (hpn : mj_prim (mj_TTof pg_TL own).2 pg_tl 2 i S h = none) (hs : mj_inv (mj_TTof pg_TL own).2 2 i S h = some (q + 1, As, rest)) (hk : mj_kd i = 4) (hl : mj_lenOk i len = true) (hp : pc + 3 = pc') (hx : pgV xt d q As h Q) (k : ∀ v h1, Q v h1 → pgE xt d own nL ini ret cf pc' L (v :: rest) h1 P) : pgE xt d own nL ini ret cf pc L S h P := by
  refine x_call hc hpn hs hk hl hp hx ?_
  rintro r h1 ⟨v, rfl, hq⟩
  exact k v h1 hq
theorem x_cn {q : Nat} {As rest : List Value} {Q : mj_H → Prop} (hc : cf pc = some (i, len)) (hpn : mj_prim (mj_TTof pg_TL own).2 pg_tl 2 i S h = none) (hs : mj_inv (mj_TTof pg_TL own).2 2 i S h = some (q + 1, As, rest)) (hk : mj_kd i = 4) (hl : mj_lenOk i len = true) (hp : pc + 3 = pc') (hx : pgN xt d q As h Q) (k : ∀ h1, Q h1 → pgE xt d own nL ini ret cf pc' L rest h1 P) : pgE xt d own nL ini ret cf pc L S h P := by
  refine x_call hc hpn hs hk hl hp hx ?_
  rintro r h1 ⟨rfl, hq⟩
  exact k h1 hq
theorem y_iadd (hc : cf pc = some (.iadd, 1)) (hp : pc + 1 = pc') (k : pgE xt d own nL ini ret cf pc' L (ii (a + b) :: S) h P) : pgE xt d own nL ini ret cf pc L (ii b :: ii a :: S) h P :=
  me0 hc (show mj_alu .iadd (ii b :: ii a :: S) = some (ii (a + b) :: S) from congrArg (fun z => some (Value.int z :: S)) (Int32.ofInt_add a b).symm) rfl rfl hp k
theorem y_isub (hc : cf pc = some (.isub, 1)) (hp : pc + 1 = pc') (k : pgE xt d own nL ini ret cf pc' L (ii (a - b) :: S) h P) : pgE xt d own nL ini ret cf pc L (ii b :: ii a :: S) h P :=
  me0 hc (show mj_alu .isub (ii b :: ii a :: S) = some (ii (a - b) :: S) from congrArg (fun z => some (Value.int z :: S)) (Int32.ofInt_sub a b).symm) rfl rfl hp k
theorem y_imul (hc : cf pc = some (.imul, 1)) (hp : pc + 1 = pc') (k : pgE xt d own nL ini ret cf pc' L (ii (a * b) :: S) h P) : pgE xt d own nL ini ret cf pc L (ii b :: ii a :: S) h P :=
  me0 hc (show mj_alu .imul (ii b :: ii a :: S) = some (ii (a * b) :: S) from congrArg (fun z => some (Value.int z :: S)) (Int32.ofInt_mul a b).symm) rfl rfl hp k
theorem y_ineg (hc : cf pc = some (.ineg, 1)) (hp : pc + 1 = pc') (k : pgE xt d own nL ini ret cf pc' L (ii (-a) :: S) h P) : pgE xt d own nL ini ret cf pc L (ii a :: S) h P :=
  me0 hc (show mj_alu .ineg (ii a :: S) = some (ii (-a) :: S) from congrArg (fun z => some (Value.int z :: S)) (Int32.ofInt_neg a).symm) rfl rfl hp k
theorem y_idiv (hc : cf pc = some (.idiv, 1)) (hp : pc + 1 = pc') (h1 : 0 ≤ a) (h2 : a ≤ 2147483647) (h3 : 0 < b) (h4 : b ≤ 2147483647) (k : pgE xt d own nL ini ret cf pc' L (ii (a / b) :: S) h P) : pgE xt d own nL ini ret cf pc L (ii b :: ii a :: S) h P := by
  refine me0 hc ?_ rfl rfl hp k
  have hn : ¬ Int32.ofInt b = 0 := fun e => by have := n_inj (b := 0) (by omega) h4 (by omega) (by omega) e; omega
  show ((if Int32.ofInt b = 0 then none else some (Value.int (Int32.ofInt a / Int32.ofInt b))).map fun v => v :: S) = _
  rw [if_neg hn, n_div h1 h2 h3 h4]
  rfl
theorem y_irem (hc : cf pc = some (.irem, 1)) (hp : pc + 1 = pc') (h1 : 0 ≤ a) (h2 : a ≤ 2147483647) (h3 : 0 < b) (h4 : b ≤ 2147483647) (k : pgE xt d own nL ini ret cf pc' L (ii (a % b) :: S) h P) : pgE xt d own nL ini ret cf pc L (ii b :: ii a :: S) h P := by
  refine me0 hc ?_ rfl rfl hp k
  have hn : ¬ Int32.ofInt b = 0 := fun e => by have := n_inj (b := 0) (by omega) h4 (by omega) (by omega) e; omega
  show ((if Int32.ofInt b = 0 then none else some (Value.int (Int32.ofInt a - Int32.ofInt a / Int32.ofInt b * Int32.ofInt b))).map fun v => v :: S) = _
  rw [if_neg hn, n_rem h1 h2 h3 h4]
  rfl
theorem y_i2l (hc : cf pc = some (.i2l, 1)) (hp : pc + 1 = pc') (h1 : -2147483648 ≤ a) (h2 : a ≤ 2147483647) (k : pgE xt d own nL ini ret cf pc' L (.long (Int64.ofInt a) :: S) h P) : pgE xt d own nL ini ret cf pc L (ii a :: S) h P :=
  me0 hc (show mj_alu .i2l (ii a :: S) = some (.long (Int64.ofInt a) :: S) by rw [← n_i2l h1 h2]; rfl) rfl rfl hp k
theorem y_l2i {x : Int64} (hc : cf pc = some (.l2i, 1)) (hp : pc + 1 = pc') (hx : x.toInt32 = Int32.ofInt a) (k : pgE xt d own nL ini ret cf pc' L (ii a :: S) h P) : pgE xt d own nL ini ret cf pc L (.long x :: S) h P :=
  me0 hc (show mj_alu .l2i (.long x :: S) = some (ii a :: S) by rw [ii, ← hx]; rfl) rfl rfl hp k
theorem y_iinc {n : Nat} {c : Int} (hc : cf pc = some (.iinc n c, 3)) (hs : mj_loc nL (.iinc n c) L S = some (L', S)) (hp : pc + 3 = pc') (k : pgE xt d own nL ini ret cf pc' L' S h P) : pgE xt d own nL ini ret cf pc L S h P := me1 hc hs rfl rfl hp k
-- branches, by the numbers
theorem y_2lt (hc : cf pc = some (.if_icmp .lt off, 3)) (ht : mj_to pc off = some t) (hp : pc + 3 = pc') (r1 : -2147483648 ≤ a ∧ a ≤ 2147483647 ∧ -2147483648 ≤ b ∧ b ≤ 2147483647) (kt : a < b → pgE xt d own nL ini ret cf t L S h P) (kf : b ≤ a → pgE xt d own nL ini ret cf pc' L S h P) : pgE xt d own nL ini ret cf pc L (ii b :: ii a :: S) h P := by
  have e1 := n_to r1.1 r1.2.1
  have e2 := n_to r1.2.2.1 r1.2.2.2
  by_cases hb : a < b
  · exact me_2t hc ht ((cn_iff _ _).2.2.1.mpr (by rw [e1, e2]; exact hb)) (kt hb)
  · exact me_2f hc ht (fun z => hb (by have := (cn_iff _ _).2.2.1.mp z; rwa [e1, e2] at this)) hp (kf (by omega))
theorem y_2ge (hc : cf pc = some (.if_icmp .ge off, 3)) (ht : mj_to pc off = some t) (hp : pc + 3 = pc') (r1 : -2147483648 ≤ a ∧ a ≤ 2147483647 ∧ -2147483648 ≤ b ∧ b ≤ 2147483647) (kt : b ≤ a → pgE xt d own nL ini ret cf t L S h P) (kf : a < b → pgE xt d own nL ini ret cf pc' L S h P) : pgE xt d own nL ini ret cf pc L (ii b :: ii a :: S) h P := by
  have e1 := n_to r1.1 r1.2.1
  have e2 := n_to r1.2.2.1 r1.2.2.2
  by_cases hb : b ≤ a
  · exact me_2t hc ht ((cn_iff _ _).2.2.2.1.mpr (by rw [e1, e2]; exact hb)) (kt hb)
  · exact me_2f hc ht (fun z => hb (by have := (cn_iff _ _).2.2.2.1.mp z; rwa [e1, e2] at this)) hp (kf (by omega))
theorem y_2gt (hc : cf pc = some (.if_icmp .gt off, 3)) (ht : mj_to pc off = some t) (hp : pc + 3 = pc') (r1 : -2147483648 ≤ a ∧ a ≤ 2147483647 ∧ -2147483648 ≤ b ∧ b ≤ 2147483647) (kt : b < a → pgE xt d own nL ini ret cf t L S h P) (kf : a ≤ b → pgE xt d own nL ini ret cf pc' L S h P) : pgE xt d own nL ini ret cf pc L (ii b :: ii a :: S) h P := by
  have e1 := n_to r1.1 r1.2.1
  have e2 := n_to r1.2.2.1 r1.2.2.2
  by_cases hb : b < a
  · exact me_2t hc ht ((cn_iff _ _).2.2.2.2.1.mpr (by rw [e1, e2]; exact hb)) (kt hb)
  · exact me_2f hc ht (fun z => hb (by have := (cn_iff _ _).2.2.2.2.1.mp z; rwa [e1, e2] at this)) hp (kf (by omega))
theorem y_2le (hc : cf pc = some (.if_icmp .le off, 3)) (ht : mj_to pc off = some t) (hp : pc + 3 = pc') (r1 : -2147483648 ≤ a ∧ a ≤ 2147483647 ∧ -2147483648 ≤ b ∧ b ≤ 2147483647) (kt : a ≤ b → pgE xt d own nL ini ret cf t L S h P) (kf : b < a → pgE xt d own nL ini ret cf pc' L S h P) : pgE xt d own nL ini ret cf pc L (ii b :: ii a :: S) h P := by
  have e1 := n_to r1.1 r1.2.1
  have e2 := n_to r1.2.2.1 r1.2.2.2
  by_cases hb : a ≤ b
  · exact me_2t hc ht ((cn_iff _ _).2.2.2.2.2.mpr (by rw [e1, e2]; exact hb)) (kt hb)
  · exact me_2f hc ht (fun z => hb (by have := (cn_iff _ _).2.2.2.2.2.mp z; rwa [e1, e2] at this)) hp (kf (by omega))
theorem y_2eq (hc : cf pc = some (.if_icmp .eq off, 3)) (ht : mj_to pc off = some t) (hp : pc + 3 = pc') (r1 : -2147483648 ≤ a ∧ a ≤ 2147483647 ∧ -2147483648 ≤ b ∧ b ≤ 2147483647) (kt : a = b → pgE xt d own nL ini ret cf t L S h P) (kf : a ≠ b → pgE xt d own nL ini ret cf pc' L S h P) : pgE xt d own nL ini ret cf pc L (ii b :: ii a :: S) h P := by
  have e1 := n_to r1.1 r1.2.1
  have e2 := n_to r1.2.2.1 r1.2.2.2
  by_cases hb : a = b
  · exact me_2t hc ht ((cn_iff _ _).1.mpr (by rw [e1, e2]; exact hb)) (kt hb)
  · exact me_2f hc ht (fun z => hb (by have := (cn_iff _ _).1.mp z; rwa [e1, e2] at this)) hp (kf hb)
theorem y_2ne (hc : cf pc = some (.if_icmp .ne off, 3)) (ht : mj_to pc off = some t) (hp : pc + 3 = pc') (r1 : -2147483648 ≤ a ∧ a ≤ 2147483647 ∧ -2147483648 ≤ b ∧ b ≤ 2147483647) (kt : a ≠ b → pgE xt d own nL ini ret cf t L S h P) (kf : a = b → pgE xt d own nL ini ret cf pc' L S h P) : pgE xt d own nL ini ret cf pc L (ii b :: ii a :: S) h P := by
  have e1 := n_to r1.1 r1.2.1
  have e2 := n_to r1.2.2.1 r1.2.2.2
  by_cases hb : a = b
  · exact me_2f hc ht (fun z => (cn_iff _ _).2.1.mp z (by rw [e1, e2]; exact hb)) hp (kf hb)
  · exact me_2t hc ht ((cn_iff _ _).2.1.mpr (by rw [e1, e2]; exact hb)) (kt hb)
theorem y_1lt (hc : cf pc = some (.ifCond .lt off, 3)) (ht : mj_to pc off = some t) (hp : pc + 3 = pc') (r1 : -2147483648 ≤ a ∧ a ≤ 2147483647) (kt : a < 0 → pgE xt d own nL ini ret cf t L S h P) (kf : 0 ≤ a → pgE xt d own nL ini ret cf pc' L S h P) : pgE xt d own nL ini ret cf pc L (ii a :: S) h P := by
  have e1 := n_to r1.1 r1.2
  have e2 : (0 : Int32).toInt = 0 := rfl
  by_cases hb : a < 0
  · exact me_1t hc ht ((cn_iff _ _).2.2.1.mpr (by rw [e1, e2]; exact hb)) (kt hb)
  · exact me_1f hc ht (fun z => hb (by have := (cn_iff _ _).2.2.1.mp z; rwa [e1, e2] at this)) hp (kf (by omega))
theorem y_1ge (hc : cf pc = some (.ifCond .ge off, 3)) (ht : mj_to pc off = some t) (hp : pc + 3 = pc') (r1 : -2147483648 ≤ a ∧ a ≤ 2147483647) (kt : 0 ≤ a → pgE xt d own nL ini ret cf t L S h P) (kf : a < 0 → pgE xt d own nL ini ret cf pc' L S h P) : pgE xt d own nL ini ret cf pc L (ii a :: S) h P := by
  have e1 := n_to r1.1 r1.2
  have e2 : (0 : Int32).toInt = 0 := rfl
  by_cases hb : 0 ≤ a
  · exact me_1t hc ht ((cn_iff _ _).2.2.2.1.mpr (by rw [e1, e2]; exact hb)) (kt hb)
  · exact me_1f hc ht (fun z => hb (by have := (cn_iff _ _).2.2.2.1.mp z; rwa [e1, e2] at this)) hp (kf (by omega))
theorem y_1gt (hc : cf pc = some (.ifCond .gt off, 3)) (ht : mj_to pc off = some t) (hp : pc + 3 = pc') (r1 : -2147483648 ≤ a ∧ a ≤ 2147483647) (kt : 0 < a → pgE xt d own nL ini ret cf t L S h P) (kf : a ≤ 0 → pgE xt d own nL ini ret cf pc' L S h P) : pgE xt d own nL ini ret cf pc L (ii a :: S) h P := by
  have e1 := n_to r1.1 r1.2
  have e2 : (0 : Int32).toInt = 0 := rfl
  by_cases hb : 0 < a
  · exact me_1t hc ht ((cn_iff _ _).2.2.2.2.1.mpr (by rw [e1, e2]; exact hb)) (kt hb)
  · exact me_1f hc ht (fun z => hb (by have := (cn_iff _ _).2.2.2.2.1.mp z; rwa [e1, e2] at this)) hp (kf (by omega))
theorem y_1le (hc : cf pc = some (.ifCond .le off, 3)) (ht : mj_to pc off = some t) (hp : pc + 3 = pc') (r1 : -2147483648 ≤ a ∧ a ≤ 2147483647) (kt : a ≤ 0 → pgE xt d own nL ini ret cf t L S h P) (kf : 0 < a → pgE xt d own nL ini ret cf pc' L S h P) : pgE xt d own nL ini ret cf pc L (ii a :: S) h P := by
  have e1 := n_to r1.1 r1.2
  have e2 : (0 : Int32).toInt = 0 := rfl
  by_cases hb : a ≤ 0
  · exact me_1t hc ht ((cn_iff _ _).2.2.2.2.2.mpr (by rw [e1, e2]; exact hb)) (kt hb)
  · exact me_1f hc ht (fun z => hb (by have := (cn_iff _ _).2.2.2.2.2.mp z; rwa [e1, e2] at this)) hp (kf (by omega))
theorem y_1eq (hc : cf pc = some (.ifCond .eq off, 3)) (ht : mj_to pc off = some t) (hp : pc + 3 = pc') (r1 : -2147483648 ≤ a ∧ a ≤ 2147483647) (kt : a = 0 → pgE xt d own nL ini ret cf t L S h P) (kf : a ≠ 0 → pgE xt d own nL ini ret cf pc' L S h P) : pgE xt d own nL ini ret cf pc L (ii a :: S) h P := by
  have e1 := n_to r1.1 r1.2
  have e2 : (0 : Int32).toInt = 0 := rfl
  by_cases hb : a = 0
  · exact me_1t hc ht ((cn_iff _ _).1.mpr (by rw [e1, e2]; exact hb)) (kt hb)
  · exact me_1f hc ht (fun z => hb (by have := (cn_iff _ _).1.mp z; rwa [e1, e2] at this)) hp (kf hb)
theorem y_1ne (hc : cf pc = some (.ifCond .ne off, 3)) (ht : mj_to pc off = some t) (hp : pc + 3 = pc') (r1 : -2147483648 ≤ a ∧ a ≤ 2147483647) (kt : a ≠ 0 → pgE xt d own nL ini ret cf t L S h P) (kf : a = 0 → pgE xt d own nL ini ret cf pc' L S h P) : pgE xt d own nL ini ret cf pc L (ii a :: S) h P := by
  have e1 := n_to r1.1 r1.2
  have e2 : (0 : Int32).toInt = 0 := rfl
  by_cases hb : a = 0
  · exact me_1f hc ht (fun z => (cn_iff _ _).2.1.mp z (by rw [e1, e2]; exact hb)) hp (kf hb)
  · exact me_1t hc ht ((cn_iff _ _).2.1.mpr (by rw [e1, e2]; exact hb)) (kt hb)
-- a truth
theorem y_zeq {c : Bool} (hc : cf pc = some (.ifCond .eq off, 3)) (ht : mj_to pc off = some t) (hp : pc + 3 = pc') (kt : c = false → pgE xt d own nL ini ret cf t L S h P) (kf : c = true → pgE xt d own nL ini ret cf pc' L S h P) : pgE xt d own nL ini ret cf pc L (zz c :: S) h P := by
  cases c with
  | false => exact me_1t hc ht (by decide) (kt rfl)
  | true => exact me_1f hc ht (by decide) hp (kf rfl)
theorem y_zne {c : Bool} (hc : cf pc = some (.ifCond .ne off, 3)) (ht : mj_to pc off = some t) (hp : pc + 3 = pc') (kt : c = true → pgE xt d own nL ini ret cf t L S h P) (kf : c = false → pgE xt d own nL ini ret cf pc' L S h P) : pgE xt d own nL ini ret cf pc L (zz c :: S) h P := by
  cases c with
  | false => exact me_1f hc ht (by decide) hp (kf rfl)
  | true => exact me_1t hc ht (by decide) (kt rfl)
theorem y_z2eq {c e : Bool} (hc : cf pc = some (.if_icmp .eq off, 3)) (ht : mj_to pc off = some t) (hp : pc + 3 = pc') (kt : c = e → pgE xt d own nL ini ret cf t L S h P) (kf : c ≠ e → pgE xt d own nL ini ret cf pc' L S h P) : pgE xt d own nL ini ret cf pc L (zz e :: zz c :: S) h P := by
  cases c <;> cases e
  · exact me_2t hc ht (by decide) (kt rfl)
  · exact me_2f hc ht (by decide) hp (kf (by decide))
  · exact me_2f hc ht (by decide) hp (kf (by decide))
  · exact me_2t hc ht (by decide) (kt rfl)
theorem y_z2ne {c e : Bool} (hc : cf pc = some (.if_icmp .ne off, 3)) (ht : mj_to pc off = some t) (hp : pc + 3 = pc') (kt : c ≠ e → pgE xt d own nL ini ret cf t L S h P) (kf : c = e → pgE xt d own nL ini ret cf pc' L S h P) : pgE xt d own nL ini ret cf pc L (zz e :: zz c :: S) h P := by
  cases c <;> cases e
  · exact me_2f hc ht (by decide) hp (kf rfl)
  · exact me_2t hc ht (by decide) (kt (by decide))
  · exact me_2t hc ht (by decide) (kt (by decide))
  · exact me_2f hc ht (by decide) hp (kf rfl)
-- two longs, compared and asked
theorem n_cmp (x y : Int64) : (lg_cmp x y).toInt = if y.toInt < x.toInt then 1 else if x.toInt = y.toInt then 0 else -1 := by
  have e2 : (x = y) ↔ x.toInt = y.toInt := Int64.toInt_inj.symm
  have e3 : (x > y) ↔ y.toInt < x.toInt := Int64.lt_iff_toInt_lt
  unfold lg_cmp
  by_cases h1 : x > y
  · rw [if_pos h1, if_pos (e3.mp h1)]; rfl
  · rw [if_neg h1, if_neg (fun z => h1 (e3.mpr z))]
    by_cases h2 : x = y
    · rw [if_pos h2, if_pos (e2.mp h2)]; rfl
    · rw [if_neg h2, if_neg (fun z => h2 (e2.mpr z))]; rfl
theorem y_llt {pc1 : Nat} {x y : Int64} (hc : cf pc = some (.lcmp, 1)) (hp1 : pc + 1 = pc1) (hc1 : cf pc1 = some (.ifCond .lt off, 3)) (ht : mj_to pc1 off = some t) (hp : pc1 + 3 = pc') (kt : x.toInt < y.toInt → pgE xt d own nL ini ret cf t L S h P) (kf : y.toInt ≤ x.toInt → pgE xt d own nL ini ret cf pc' L S h P) : pgE xt d own nL ini ret cf pc L (.long y :: .long x :: S) h P := by
  refine me0 (S' := .int (lg_cmp x y) :: S) hc rfl rfl rfl hp1 ?_
  have e1 := n_cmp x y
  have e2 : (0 : Int32).toInt = 0 := rfl
  by_cases hb : x.toInt < y.toInt
  · exact me_1t hc1 ht ((cn_iff _ _).2.2.1.mpr (by rw [e1, e2]; split <;> (try split) <;> omega)) (kt hb)
  · exact me_1f hc1 ht (fun z => by have := (cn_iff _ _).2.2.1.mp z; rw [e1, e2] at this; revert this; split <;> (try split) <;> omega) hp (kf (by omega))
theorem y_lge {pc1 : Nat} {x y : Int64} (hc : cf pc = some (.lcmp, 1)) (hp1 : pc + 1 = pc1) (hc1 : cf pc1 = some (.ifCond .ge off, 3)) (ht : mj_to pc1 off = some t) (hp : pc1 + 3 = pc') (kt : y.toInt ≤ x.toInt → pgE xt d own nL ini ret cf t L S h P) (kf : x.toInt < y.toInt → pgE xt d own nL ini ret cf pc' L S h P) : pgE xt d own nL ini ret cf pc L (.long y :: .long x :: S) h P := by
  refine me0 (S' := .int (lg_cmp x y) :: S) hc rfl rfl rfl hp1 ?_
  have e1 := n_cmp x y
  have e2 : (0 : Int32).toInt = 0 := rfl
  by_cases hb : y.toInt ≤ x.toInt
  · exact me_1t hc1 ht ((cn_iff _ _).2.2.2.1.mpr (by rw [e1, e2]; split <;> (try split) <;> omega)) (kt hb)
  · exact me_1f hc1 ht (fun z => by have := (cn_iff _ _).2.2.2.1.mp z; rw [e1, e2] at this; revert this; split <;> (try split) <;> omega) hp (kf (by omega))
theorem y_lgt {pc1 : Nat} {x y : Int64} (hc : cf pc = some (.lcmp, 1)) (hp1 : pc + 1 = pc1) (hc1 : cf pc1 = some (.ifCond .gt off, 3)) (ht : mj_to pc1 off = some t) (hp : pc1 + 3 = pc') (kt : y.toInt < x.toInt → pgE xt d own nL ini ret cf t L S h P) (kf : x.toInt ≤ y.toInt → pgE xt d own nL ini ret cf pc' L S h P) : pgE xt d own nL ini ret cf pc L (.long y :: .long x :: S) h P := by
  refine me0 (S' := .int (lg_cmp x y) :: S) hc rfl rfl rfl hp1 ?_
  have e1 := n_cmp x y
  have e2 : (0 : Int32).toInt = 0 := rfl
  by_cases hb : y.toInt < x.toInt
  · exact me_1t hc1 ht ((cn_iff _ _).2.2.2.2.1.mpr (by rw [e1, e2]; split <;> (try split) <;> omega)) (kt hb)
  · exact me_1f hc1 ht (fun z => by have := (cn_iff _ _).2.2.2.2.1.mp z; rw [e1, e2] at this; revert this; split <;> (try split) <;> omega) hp (kf (by omega))
theorem y_lle {pc1 : Nat} {x y : Int64} (hc : cf pc = some (.lcmp, 1)) (hp1 : pc + 1 = pc1) (hc1 : cf pc1 = some (.ifCond .le off, 3)) (ht : mj_to pc1 off = some t) (hp : pc1 + 3 = pc') (kt : x.toInt ≤ y.toInt → pgE xt d own nL ini ret cf t L S h P) (kf : y.toInt < x.toInt → pgE xt d own nL ini ret cf pc' L S h P) : pgE xt d own nL ini ret cf pc L (.long y :: .long x :: S) h P := by
  refine me0 (S' := .int (lg_cmp x y) :: S) hc rfl rfl rfl hp1 ?_
  have e1 := n_cmp x y
  have e2 : (0 : Int32).toInt = 0 := rfl
  by_cases hb : x.toInt ≤ y.toInt
  · exact me_1t hc1 ht ((cn_iff _ _).2.2.2.2.2.mpr (by rw [e1, e2]; split <;> (try split) <;> omega)) (kt hb)
  · exact me_1f hc1 ht (fun z => by have := (cn_iff _ _).2.2.2.2.2.mp z; rw [e1, e2] at this; revert this; split <;> (try split) <;> omega) hp (kf (by omega))
theorem y_leq {pc1 : Nat} {x y : Int64} (hc : cf pc = some (.lcmp, 1)) (hp1 : pc + 1 = pc1) (hc1 : cf pc1 = some (.ifCond .eq off, 3)) (ht : mj_to pc1 off = some t) (hp : pc1 + 3 = pc') (kt : x = y → pgE xt d own nL ini ret cf t L S h P) (kf : x ≠ y → pgE xt d own nL ini ret cf pc' L S h P) : pgE xt d own nL ini ret cf pc L (.long y :: .long x :: S) h P := by
  refine me0 (S' := .int (lg_cmp x y) :: S) hc rfl rfl rfl hp1 ?_
  have e1 := n_cmp x y
  have e2 : (0 : Int32).toInt = 0 := rfl
  by_cases hb : x = y
  · have e3 := congrArg Int64.toInt hb
    exact me_1t hc1 ht ((cn_iff _ _).1.mpr (by rw [e1, e2]; split <;> (try split) <;> omega)) (kt hb)
  · have e3 : ¬ x.toInt = y.toInt := fun z => hb (Int64.toInt_inj.mp z)
    exact me_1f hc1 ht (fun z => by have := (cn_iff _ _).1.mp z; rw [e1, e2] at this; revert this; split <;> (try split) <;> omega) hp (kf hb)
theorem y_lne {pc1 : Nat} {x y : Int64} (hc : cf pc = some (.lcmp, 1)) (hp1 : pc + 1 = pc1) (hc1 : cf pc1 = some (.ifCond .ne off, 3)) (ht : mj_to pc1 off = some t) (hp : pc1 + 3 = pc') (kt : x ≠ y → pgE xt d own nL ini ret cf t L S h P) (kf : x = y → pgE xt d own nL ini ret cf pc' L S h P) : pgE xt d own nL ini ret cf pc L (.long y :: .long x :: S) h P := by
  refine me0 (S' := .int (lg_cmp x y) :: S) hc rfl rfl rfl hp1 ?_
  have e1 := n_cmp x y
  have e2 : (0 : Int32).toInt = 0 := rfl
  by_cases hb : x = y
  · have e3 := congrArg Int64.toInt hb
    exact me_1f hc1 ht (fun z => by have := (cn_iff _ _).2.1.mp z; rw [e1, e2] at this; revert this; split <;> (try split) <;> omega) hp (kf hb)
  · have e3 : ¬ x.toInt = y.toInt := fun z => hb (Int64.toInt_inj.mp z)
    exact me_1t hc1 ht ((cn_iff _ _).2.1.mpr (by rw [e1, e2]; split <;> (try split) <;> omega)) (kt hb)
theorem pg_sub (hg : L.map (fun q => mj_get L' q.1) = L.map (fun q => some q.2)) (g1 : mj_nd (L.map (fun q => q.1)) = true) (g2 : mj_nd (L'.map (fun q => q.1)) = true) (k : pgE xt d own nL ini ret cf pc L S h P) : pgE xt d own nL ini ret cf pc L' S h P := by
  obtain ⟨r, h', a, b⟩ := k
  exact ⟨r, h', mjR_sub hg g1 g2 a, b⟩
theorem y_ret {r : Option Value} (hc : cf pc = some (i, len)) (hs : mj_ret ret i S = some r) (hk : mj_kd i = 5) (hl : mj_lenOk i len = true) (k : P r h) : pgE xt d own nL ini ret cf pc L S h P := me5 hc hs hk hl k
end YE
theorem y_incp {nL k : Nat} {L L' : mj_L} {S : List Value} {a c : Int} (hg : mj_get L k = some (ii a)) (hL : mj_put1 L k (ii (a + c)) = L') (hk : k < nL) : mj_loc nL (.iinc k c) L S = some (L', S) := by
  show mj_inc nL L S k c = some (L', S)
  unfold mj_inc
  rw [hg]
  dsimp only
  rw [if_pos hk, ← hL, ii, Int32.ofInt_add]
theorem y_fitz (c : Bool) : mj_fit .boolean (zz c) = true := by cases c <;> rfl
theorem y_retz (c : Bool) : mj_ret (some .boolean) .ireturn [zz c] = some (some (zz c)) := by cases c <;> rfl
theorem y_hs {T : mj_T} {xt : mj_X} {ini : Bool} {i : Instr} {S S' : List Value} {h h1 h2 : mj_H} (e : mj_hp T xt pg_tl 2 ini i S h = some (S', h1)) (q : h1 = h2) : mj_hp T xt pg_tl 2 ini i S h = some (S', h2) := by rw [← q]; exact e
theorem y_no {a c : Int} (r : -2147483648 ≤ a ∧ a ≤ 2147483647) (r2 : -2147483648 ≤ c ∧ c ≤ 2147483647) (h : a ≠ c) : ¬ mj_cnd .eq (Int32.ofInt a) (Int32.ofInt c) = true := fun z => h (n_inj r.1 r.2 r2.1 r2.2 (mj_cnd_eq.mp z))
theorem y_sw {xt : mj_X} {d own nL : Nat} {ini : Bool} {ret : Option FieldType} {cf : Nat → Option (Instr × Nat)} {pc len t : Nat} {L : mj_L} {S : List Value} {h : mj_H} {i : Instr} {P : Option Value → mj_H → Prop} {a : Int} (c : Int) (hc : cf pc = some (i, len)) (hs : mj_br pc i (ii c :: S) = some (t, S)) (hk : mj_kd i = 2) (hl : mj_lenOk i len = true) (r : -2147483648 ≤ a ∧ a ≤ 2147483647) (r2 : -2147483648 ≤ c ∧ c ≤ 2147483647) (kt : a = c → pgE xt d own nL ini ret cf t L S h P) (kf : a ≠ c → pgE xt d own nL ini ret cf pc L (ii a :: S) h P) : pgE xt d own nL ini ret cf pc L (ii a :: S) h P := by
  by_cases hb : a = c
  · have := kt hb
    subst hb
    exact me2 hc hs hk hl this
  · exact kf hb
/-- a constant's number -/
theorem n_lit {x : Int32} {a : Int} (h : x.toInt = a) : x = Int32.ofInt a := by rw [← h, Int32.ofInt_toInt]
/-! cells, by what they hold -/
abbrev cO (ci : Nat) (fs : List Value) : mj_E := .inr (ci, fs)
abbrev cI (n : Nat) (f : Nat → Int) : mj_E := .inl (0, n, .inl fun k => Int32.ofInt (f k))
abbrev cJ (n : Nat) (f : Nat → Int64) : mj_E := .inl (1, n, .inr (.inl f))
abbrev cB (n : Nat) (f : Nat → Int) : mj_E := .inl (2, n, .inl fun k => Int32.ofInt (f k))
abbrev cA (t n : Nat) (f : Nat → Option Nat) : mj_E := .inl (t, n, .inr (.inr (.inr (.inr f))))
theorem hl_app {h X : mj_H} {a : Nat} {e : mj_E} (hg : h[a]? = some e) : (h ++ X)[a]? = some e := by
  rw [List.getElem?_append_left (List.getElem?_eq_some_iff.mp hg).1]; exact hg
theorem hl_new {h : mj_H} {e : mj_E} {X : mj_H} : (h ++ e :: X)[h.length]? = some e := by
  rw [List.getElem?_append_right (Nat.le_refl _), Nat.sub_self]; rfl
theorem hl_lt {h : mj_H} {a : Nat} {e : mj_E} (hg : h[a]? = some e) : a < h.length := (List.getElem?_eq_some_iff.mp hg).1
theorem hl_set {h : mj_H} {a : Nat} {e : mj_E} (ha : a < h.length) : (h.set a e)[a]? = some e := List.getElem?_set_self ha
theorem hl_ne {h : mj_H} {a b : Nat} {e e' : mj_E} (hn : b ≠ a) (hg : h[b]? = some e') : (h.set a e)[b]? = some e' := by
  rw [List.getElem?_set_ne (fun z => hn z.symm)]; exact hg
theorem hl_setl {h : mj_H} {e e' : mj_E} : (h ++ [e]).set h.length e' = h ++ [e'] := by
  rw [List.set_append_right _ _ (Nat.le_refl _), Nat.sub_self]; rfl
/-- an array filled up to k -/
def fl {α : Type} (k : Nat) (g z : Nat → α) : Nat → α := fun j => if j < k then g j else z j
theorem fl_0 {α : Type} (g z : Nat → α) : fl 0 g z = z := by
  funext j
  unfold fl
  rw [if_neg (Nat.not_lt_zero j)]
theorem fl_s {α : Type} (k : Nat) (g z : Nat → α) : va_up (fl k g z) k (g k) = fl (k + 1) g z := by
  funext j
  show (if j = k then g k else if j < k then g j else z j) = if j < k + 1 then g j else z j
  by_cases h1 : j = k
  · subst h1
    rw [if_pos rfl, if_pos (Nat.lt_succ_self j)]
  · by_cases h2 : j < k
    · rw [if_neg h1, if_pos h2, if_pos (Nat.lt_succ_of_lt h2)]
    · rw [if_neg h1, if_neg h2, if_neg (by omega)]
theorem fl_at {α : Type} {k j : Nat} (g z : Nat → α) (h : j < k) : fl k g z j = g j := by
  unfold fl
  rw [if_pos h]
section YH
variable {T : mj_T} {xt : mj_X} {ini : Bool} {S : List Value} {h : mj_H} {a n : Nat} {j v : Int}
theorem g_ok (h0 : 0 ≤ j) (h1 : j < n) (h2 : (n : Int) ≤ 2147483647) : ¬ (Int32.ofInt j < 0 ∨ n ≤ (Int32.ofInt j).toNatClampNeg) := by
  have e1 := n_to (a := j) (by omega) (by omega)
  have e2 := n_cl (a := j) (by omega) (by omega)
  rw [e2, Int32.lt_iff_toInt_lt, e1]
  have e3 : (0 : Int32).toInt = 0 := rfl
  rw [e3]
  omega
theorem yh_iald {f : Nat → Int} (hg : h[a]? = some (cI n f)) (h0 : 0 ≤ j) (h1 : j < n) (h2 : (n : Int) ≤ 2147483647) (ha : 2 ≤ a) (he : f j.toNat = v) : mj_hp T xt pg_tl 2 ini .iaload (ii j :: .ref a :: S) h = some (ii v :: S, h) :=
  g_iald hg rfl (g_ok h0 h1 h2) (by rw [n_cl (by omega) (by omega), he]) ha
theorem yh_bald {f : Nat → Int} (hg : h[a]? = some (cB n f)) (h0 : 0 ≤ j) (h1 : j < n) (h2 : (n : Int) ≤ 2147483647) (ha : 2 ≤ a) (he : f j.toNat = v) : mj_hp T xt pg_tl 2 ini .baload (ii j :: .ref a :: S) h = some (ii v :: S, h) :=
  g_bald hg rfl (g_ok h0 h1 h2) (by rw [n_cl (by omega) (by omega), he]) ha
theorem yh_lald {f : Nat → Int64} {w : Int64} (hg : h[a]? = some (cJ n f)) (h0 : 0 ≤ j) (h1 : j < n) (h2 : (n : Int) ≤ 2147483647) (ha : 2 ≤ a) (he : f j.toNat = w) : mj_hp T xt pg_tl 2 ini .laload (ii j :: .ref a :: S) h = some (.long w :: S, h) :=
  g_lald hg rfl (g_ok h0 h1 h2) (by rw [n_cl (by omega) (by omega), he]) ha
theorem yh_aald {t : Nat} {f : Nat → Option Nat} {w : Option Nat} {C : String} {z : Nat} (ht : pg_tl[t]? = some (.object C, z)) (hg : h[a]? = some (cA t n f)) (h0 : 0 ≤ j) (h1 : j < n) (h2 : (n : Int) ≤ 2147483647) (ha : 2 ≤ a) (he : f j.toNat = w) : mj_hp T xt pg_tl 2 ini .aaload (ii j :: .ref a :: S) h = some (va_rf w :: S, h) :=
  g_aald hg ht (g_ok h0 h1 h2) (by rw [n_cl (by omega) (by omega), he]) ha
theorem n_upd (f : Nat → Int) (k : Nat) (v : Int) : upd (fun k => Int32.ofInt (f k)) k (Int32.ofInt v) = fun j => Int32.ofInt (va_up f k v j) := by
  funext j
  unfold upd va_up
  by_cases h : j = k
  · rw [if_pos h, if_pos h]
  · rw [if_neg h, if_neg h]
theorem yh_iast {f : Nat → Int} (hg : h[a]? = some (cI n f)) (h0 : 0 ≤ j) (h1 : j < n) (h2 : (n : Int) ≤ 2147483647) (ha : 2 ≤ a) : mj_hp T xt pg_tl 2 ini .iastore (ii v :: ii j :: .ref a :: S) h = some (S, h.set a (cI n (va_up f j.toNat v))) :=
  g_iast hg (by rw [n_cl (by omega) (by omega), n_upd]) rfl (g_ok h0 h1 h2) ha
theorem yh_last {f : Nat → Int64} {w : Int64} (hg : h[a]? = some (cJ n f)) (h0 : 0 ≤ j) (h1 : j < n) (h2 : (n : Int) ≤ 2147483647) (ha : 2 ≤ a) : mj_hp T xt pg_tl 2 ini .lastore (.long w :: ii j :: .ref a :: S) h = some (S, h.set a (cJ n (va_up f j.toNat w))) :=
  g_last hg (by rw [n_cl (by omega) (by omega)]; rfl) rfl (g_ok h0 h1 h2) ha
theorem yh_aasr {t b : Nat} {f : Nat → Option Nat} {C : String} {z : Nat} {fs : List Value} (ht : pg_tl[t]? = some (.object C, z)) (hg : h[a]? = some (cA t n f)) (hb : h[b]? = some (cO z fs)) (hb2 : 2 ≤ b) (h0 : 0 ≤ j) (h1 : j < n) (h2 : (n : Int) ≤ 2147483647) (ha : 2 ≤ a) : mj_hp T xt pg_tl 2 ini .aastore (.ref b :: ii j :: .ref a :: S) h = some (S, h.set a (cA t n (va_up f j.toNat (some b)))) :=
  g_aastr hg (by rw [n_cl (by omega) (by omega)]) hb ht (g_ok h0 h1 h2) ha hb2
theorem yh_aasn {t : Nat} {f : Nat → Option Nat} {C : String} {z : Nat} (ht : pg_tl[t]? = some (.object C, z)) (hg : h[a]? = some (cA t n f)) (h0 : 0 ≤ j) (h1 : j < n) (h2 : (n : Int) ≤ 2147483647) (ha : 2 ≤ a) : mj_hp T xt pg_tl 2 ini .aastore (.null :: ii j :: .ref a :: S) h = some (S, h.set a (cA t n (va_up f j.toNat none))) :=
  g_aastn hg (by rw [n_cl (by omega) (by omega)]) ht (g_ok h0 h1 h2) ha
theorem yh_len {t : Nat} {q : (Nat → Int32) ⊕ (Nat → Int64) ⊕ (Nat → UInt32) ⊕ (Nat → UInt64) ⊕ (Nat → Option Nat)} {z : FieldType × Nat} (ht : pg_tl[t]? = some z) (hg : h[a]? = some (.inl (t, n, q))) (ha : 2 ≤ a) : mj_hp T xt pg_tl 2 ini .arraylength (.ref a :: S) h = some (ii n :: S, h) :=
  g_len hg ht (n_ofNat n) ha
theorem yh_newJ (h0 : 0 ≤ j) (h1 : j ≤ 1000000) (hn : j.toNat = n) (hl : h.length = a) : mj_hp T xt pg_tl 2 ini (.newarray .long) (ii j :: S) h = some (.ref a :: S, h ++ [cJ n fun _ => 0]) := by
  have e2 := n_cl (a := j) (by omega) (by omega)
  have e1 := n_to (a := j) (by omega) (by omega)
  have e3 : (0 : Int32).toInt = 0 := rfl
  refine g_nwa (t := 1) (f := .inr (.inl fun _ => 0)) hl (by rw [e2, hn]) rfl ?_
  rw [e2, Int32.lt_iff_toInt_lt, e1, e3]
  intro z
  rcases z with z | z | z
  · omega
  · omega
  · exact z rfl
theorem yh_newA {x t : Nat} (hx : T.2.2.2.2.1 x = some t) (h0 : 0 ≤ j) (h1 : j ≤ 1000000) (hn : j.toNat = n) (hl : h.length = a) : mj_hp T xt pg_tl 2 ini (.anewarray x) (ii j :: S) h = some (.ref a :: S, h ++ [cA t n fun _ => none]) := by
  have e2 := n_cl (a := j) (by omega) (by omega)
  have e1 := n_to (a := j) (by omega) (by omega)
  have e3 : (0 : Int32).toInt = 0 := rfl
  refine g_nwq hl (by rw [e2, hn]) hx ?_
  rw [e2, Int32.lt_iff_toInt_lt, e1, e3]
  intro z
  rcases z with z | z
  · omega
  · omega
end YH
