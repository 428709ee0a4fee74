/-! the reference does: lists turned round, masks, a call's state -/
theorem n_andM {a : Int} {k : Nat} (h0 : 0 ≤ a) (h1 : a ≤ 2147483647) (hk : k < 31) : Int32.ofInt a &&& Int32.ofInt ((2 ^ k - 1 : Nat) : Int) = Int32.ofInt (a % 2 ^ k) := by
  apply Int32.toBitVec_inj.mp
  rw [Int32.toBitVec_and, Int32.toBitVec_ofInt, Int32.toBitVec_ofInt, Int32.toBitVec_ofInt]
  apply BitVec.eq_of_toNat_eq
  obtain ⟨n, rfl⟩ : ∃ n : Nat, a = (n : Int) := ⟨a.toNat, by omega⟩
  have hp : 2 ^ k ≤ 2 ^ 30 := Nat.pow_le_pow_right (by decide) (by omega)
  have hp1 : 1 ≤ 2 ^ k := Nat.one_le_two_pow
  have hp2 : (2 : Nat) ^ 30 = 1073741824 := by decide
  have hml : n % 2 ^ k < 2 ^ k := Nat.mod_lt _ hp1
  rw [BitVec.toNat_and, show ((n : Int) % 2 ^ k) = ((n % 2 ^ k : Nat) : Int) by push_cast; rfl, BitVec.ofInt_natCast, BitVec.ofInt_natCast, BitVec.ofInt_natCast, BitVec.toNat_ofNat, BitVec.toNat_ofNat, BitVec.toNat_ofNat, Nat.mod_eq_of_lt (a := n) (by omega), Nat.mod_eq_of_lt (a := n % 2 ^ k) (by omega), Nat.mod_eq_of_lt (a := 2 ^ k - 1) (by omega)]
  exact Nat.and_two_pow_sub_one_eq_mod n k
theorem y_andM {xt : mj_X} {d own nL : Nat} {ini : Bool} {ret : Option FieldType} {cf : Nat → Option (Instr × Nat)} {pc pc' : Nat} {L : mj_L} {S : List Value} {h : mj_H} {P : Option Value → mj_H → Prop} {a b : Int} {k : Nat} (hc : cf pc = some (.iand, 1)) (hp : pc + 1 = pc') (h0 : 0 ≤ a) (h1 : a ≤ 2147483647) (hk : k < 31) (hb : ((2 ^ k - 1 : Nat) : Int) = b) (q : pgE xt d own nL ini ret cf pc' L (ii (a % 2 ^ k) :: S) h P) : pgE xt d own nL ini ret cf pc L (ii b :: ii a :: S) h P := by
  subst hb
  exact me0 hc (show mj_alu .iand (ii ((2 ^ k - 1 : Nat) : Int) :: ii a :: S) = some (ii (a % 2 ^ k) :: S) from congrArg (fun z => some (Value.int z :: S)) (n_andM h0 h1 hk)) rfl rfl hp q
theorem pg_loc {xt : mj_X} {d own nL : Nat} {ini : Bool} {ret : Option FieldType} {cf : Nat → Option (Instr × Nat)} {pc : Nat} {L L2 : mj_L} {S : List Value} {h : mj_H} {P : Option Value → mj_H → Prop} (e : L = L2) (k : pgE xt d own nL ini ret cf pc L2 S h P) : pgE xt d own nL ini ret cf pc L S h P := by
  subst e
  exact k
/-- i of the j that wait behind b0 have changed places with the last ones -/
def rvA (f : Nat → Int) (b0 j i x : Nat) : Int := if (b0 ≤ x ∧ x < b0 + i) ∨ (b0 + j - i ≤ x ∧ x < b0 + j) then f (b0 + j - 1 - (x - b0)) else f x
def rvS (t : RS) (b0 j i : Nat) : RS := (t.1, t.2.1, va_up t.2.2.1 12 (rvA (t.2.2.1 12) b0 j i), t.2.2.2)
theorem rvS_0 {t : RS} {b0 j : Nat} : rvS t b0 j 0 = t := by
  unfold rvS
  have e : rvA (t.2.2.1 12) b0 j 0 = t.2.2.1 12 := funext fun x => by
    unfold rvA
    rw [if_neg (by omega)]
  rw [e, up_self]
theorem rvS_e {t : RS} {b0 j i : Nat} (h1 : 2 * i ≤ j) (h2 : b0 + j - 1 - i ≤ b0 + i) : rvS t b0 j i = rvS t b0 j j := by
  unfold rvS
  have e : rvA (t.2.2.1 12) b0 j i = rvA (t.2.2.1 12) b0 j j := funext fun x => by
    unfold rvA
    by_cases hx : b0 ≤ x ∧ x < b0 + j
    · rw [if_pos (Or.inl hx)]
      by_cases hy : (b0 ≤ x ∧ x < b0 + i) ∨ (b0 + j - i ≤ x ∧ x < b0 + j)
      · rw [if_pos hy]
      · rw [if_neg hy, show b0 + j - 1 - (x - b0) = x by omega]
    · rw [if_neg (by omega), if_neg (by omega)]
  rw [e]
theorem rvS_s {t : RS} {b0 j i : Nat} (h : b0 + i < b0 + j - 1 - i) : ((rvS t b0 j i).1, (rvS t b0 j i).2.1, va_up (va_up (rvS t b0 j i).2.2.1 12 (va_up ((rvS t b0 j i).2.2.1 12) (b0 + i) ((rvS t b0 j i).2.2.1 12 (b0 + j - 1 - i)))) 12 (va_up (va_up ((rvS t b0 j i).2.2.1 12) (b0 + i) ((rvS t b0 j i).2.2.1 12 (b0 + j - 1 - i))) (b0 + j - 1 - i) ((rvS t b0 j i).2.2.1 12 (b0 + i))), (rvS t b0 j i).2.2.2) = rvS t b0 j (i + 1) := by
  have e0 : (rvS t b0 j i).2.2.1 12 = rvA (t.2.2.1 12) b0 j i := by show va_up t.2.2.1 12 (rvA (t.2.2.1 12) b0 j i) 12 = _; rw [up_eq]
  rw [up_up, e0]
  show (t.1, t.2.1, va_up (va_up t.2.2.1 12 (rvA (t.2.2.1 12) b0 j i)) 12 _, t.2.2.2) = _
  rw [up_up]
  unfold rvS
  have e : va_up (va_up (rvA (t.2.2.1 12) b0 j i) (b0 + i) (rvA (t.2.2.1 12) b0 j i (b0 + j - 1 - i))) (b0 + j - 1 - i) (rvA (t.2.2.1 12) b0 j i (b0 + i)) = rvA (t.2.2.1 12) b0 j (i + 1) := funext fun x => by
    by_cases h1 : x = b0 + j - 1 - i
    · rw [h1, up_eq]
      unfold rvA
      rw [if_neg (by omega), if_pos (by omega), show b0 + j - 1 - (b0 + j - 1 - i - b0) = b0 + i by omega]
    · rw [up_ne _ _ h1]
      by_cases h2 : x = b0 + i
      · rw [h2, up_eq]
        unfold rvA
        rw [if_neg (by omega), if_pos (by omega), show b0 + j - 1 - (b0 + i - b0) = b0 + j - 1 - i by omega]
      · rw [up_ne _ _ h2]
        unfold rvA
        by_cases h3 : (b0 ≤ x ∧ x < b0 + i) ∨ (b0 + j - i ≤ x ∧ x < b0 + j)
        · rw [if_pos h3, if_pos (by omega)]
        · rw [if_neg h3, if_neg (by omega)]
  rw [e]
theorem rvS_at {t : RS} {b0 j k : Nat} (h : k < j) : (rvS t b0 j j).2.2.1 12 (b0 + k) = t.2.2.1 12 (b0 + (j - 1 - k)) := by
  show va_up t.2.2.1 12 (rvA (t.2.2.1 12) b0 j j) 12 (b0 + k) = _
  rw [up_eq]
  unfold rvA
  rw [if_pos (by omega), show b0 + j - 1 - (b0 + k - b0) = b0 + (j - 1 - k) by omega]
theorem rvS_lo {t : RS} {b0 j x : Nat} (h : x < b0) : (rvS t b0 j j).2.2.1 12 x = t.2.2.1 12 x := by
  show va_up t.2.2.1 12 (rvA (t.2.2.1 12) b0 j j) 12 x = _
  rw [up_eq]
  unfold rvA
  rw [if_neg (by omega)]
theorem rvS_a {t : RS} {b0 j k : Nat} (h : k ≠ 12) : (rvS t b0 j j).2.2.1 k = t.2.2.1 k := up_ne _ _ h
/-- a call is open: its place, where it is the outermost; its x and y -/
def c11 (t : RS) (p : Int) : RS := (va_up (takeS t 5).1 11 (if t.1 10 = 0 then p else t.1 11), (takeS t 5).2.1, (takeS t 5).2.2.1, (takeS t 5).2.2.2)
def caS (t : RS) (p x y : Int) : RS := (va_up (va_up (va_up (c11 t p).1 10 ((c11 t p).1 10 + 1)) 58 x) 59 y, (c11 t p).2.1, (c11 t p).2.2.1, (c11 t p).2.2.2)
/-- the call is closed -/
def coS (t u : RS) : RS := (va_up (va_up (va_up u.1 58 ((takeS t 5).1 58)) 59 ((takeS t 5).1 59)) 10 (u.1 10 - 1), u.2.1, u.2.2.1, u.2.2.2)
theorem c11_0 {t : RS} {p : Int} (h : t.1 10 = 0) : (va_up (takeS t 5).1 11 p, (takeS t 5).2.1, (takeS t 5).2.2.1, (takeS t 5).2.2.2) = c11 t p := by
  unfold c11
  rw [if_pos h]
theorem c11_1 {t : RS} {p : Int} (h : t.1 10 ≠ 0) : takeS t 5 = c11 t p := by
  unfold c11
  have e : (takeS t 5).1 11 = t.1 11 := takeS_k (by decide) (by decide)
  rw [if_neg h, ← e, up_self]
theorem coS_e (t u : RS) : (va_up (va_up (va_up u.1 58 ((takeS t 5).1 58)) 59 ((takeS t 5).1 59)) 10 ((va_up (va_up u.1 58 ((takeS t 5).1 58)) 59 ((takeS t 5).1 59)) 10 - 1), u.2.1, u.2.2.1, u.2.2.2) = coS t u := by
  rw [up_ne _ _ (by decide), up_ne _ _ (by decide)]
  rfl
theorem r_manyL {xt : mj_X} {d e hd : Nat} {pre post : mj_H} {t : RS} {v : VV} (hm : pre.length = 102) (hd1 : 1 ≤ d) (hL : hd < 310000) (hv : rv t (e + 1) hd v) : pgP xt d 225 [.ref 102, ii (hd : Int)] (rS pre post t) (ii (vm v : Int)) := by
  obtain ⟨fr, hfr, hsh, hlt, hcl, hvk, hvm, hvc, hvq, hvcl⟩ := rv_val hv
  refine x_enter pm_X12_many (L0 := [(0, .ref 102), (1, ii (hd : Int))]) rfl (Nat.le_of_ble_eq_true rfl) (by omega) ?_
  refine me1 (pc' := 1) (L' := [(0, .ref 102), (1, ii (hd : Int))]) (S' := [.ref 102]) dm_X12_many_0 rfl rfl rfl rfl ?_
  refine me3 (pc' := 4) (S' := [.ref (102 + 3)]) dm_X12_many_1 (q_getr hm rfl (fun m i l => rg_2 m i l)) rfl rfl rfl ?_
  refine me1 (pc' := 5) (L' := [(0, .ref 102), (1, ii (hd : Int))]) (S' := [ii (hd : Int), .ref (102 + 3)]) dm_X12_many_4 rfl rfl rfl rfl ?_
  refine me3 (pc' := 6) (S' := [ii ((t.2.2.1 2) hd)]) dm_X12_many_5 (q_iald (v := (t.2.2.1 2) hd) (k := 2) (n := 310000) hm (fun m i l I J => rc_2 m i l I J) (by omega) (by omega) (by decide) rfl) rfl rfl rfl ?_
  refine me0 (pc' := 7) (S' := [ii 3, ii ((t.2.2.1 2) hd)]) dm_X12_many_6 rfl rfl rfl rfl ?_
  refine y_shr (a := (t.2.2.1 2) hd) (k := 3) dm_X12_many_7 (pc' := 8) rfl (by omega) (by omega) (by decide) ?_
  refine me0 (pc' := 11) (S' := [ii 255, ii (((t.2.2.1 2) hd) / 8)]) dm_X12_many_8 rfl rfl rfl rfl ?_
  refine y_and255 (a := ((t.2.2.1 2) hd) / 8) dm_X12_many_11 (pc' := 12) rfl (by omega) (by omega) ?_
  refine y_ret (r := some (ii ((((t.2.2.1 2) hd) / 8) % 256))) dm_X12_many_12 rfl rfl rfl ?_
  exact ⟨congrArg some (n_ii (by omega)), rfl⟩
abbrev HL (xt : mj_X) (d : Nat) (pre post : mj_H) (t : RS) (n : Nat) (b e : Int) (P : Option Value → mj_H → Prop) : Prop := pgE xt d 12 6 false (Option.some Jvm.ClassFile.FieldType.int) (mj_dec prog_14_method_107_code) 33 [(0, .ref 102), (1, ii (n : Int)), (2, ii b), (3, ii e)] [] (rI pre post t.1 t.2.1 t.2.2.1 t.2.2.2) (P)
set_option maxRecDepth 20000 in
theorem pm_X12_listWorth : mj_mmof pg_ms 242 = some ((⟨"ArrayCalculatorModel", "listWorth", "(I)I"⟩, prog_14_method_107_code, 6, (Option.some Jvm.ClassFile.FieldType.int)), 12, false, mj_dec prog_14_method_107_code) := rfl
theorem dm_X12_listWorth_0 : mj_dec prog_14_method_107_code 0 = some (.aload_n 0, 1) := by decide +kernel
theorem dm_X12_listWorth_1 : mj_dec prog_14_method_107_code 1 = some (.getfield 81, 3) := by decide +kernel
theorem dm_X12_listWorth_4 : mj_dec prog_14_method_107_code 4 = some (.iload_n 1, 1) := by decide +kernel
theorem dm_X12_listWorth_5 : mj_dec prog_14_method_107_code 5 = some (.iaload, 1) := by decide +kernel
theorem dm_X12_listWorth_6 : mj_dec prog_14_method_107_code 6 = some (.iconst 1, 1) := by decide +kernel
theorem dm_X12_listWorth_7 : mj_dec prog_14_method_107_code 7 = some (.if_icmp .ne 14, 3) := by decide +kernel
theorem dm_X12_listWorth_10 : mj_dec prog_14_method_107_code 10 = some (.aload_n 0, 1) := by decide +kernel
theorem dm_X12_listWorth_11 : mj_dec prog_14_method_107_code 11 = some (.aload_n 0, 1) := by decide +kernel
theorem dm_X12_listWorth_12 : mj_dec prog_14_method_107_code 12 = some (.getfield 78, 3) := by decide +kernel
theorem dm_X12_listWorth_15 : mj_dec prog_14_method_107_code 15 = some (.iload_n 1, 1) := by decide +kernel
theorem dm_X12_listWorth_16 : mj_dec prog_14_method_107_code 16 = some (.iaload, 1) := by decide +kernel
theorem dm_X12_listWorth_17 : mj_dec prog_14_method_107_code 17 = some (.invokevirtual 523, 3) := by decide +kernel
theorem dm_X12_listWorth_20 : mj_dec prog_14_method_107_code 20 = some (.ireturn, 1) := by decide +kernel
theorem l_one {xt : mj_X} {d : Nat} {pre post : mj_H} {t : RS} (hm : pre.length = 102) (hd1 : 1 ≤ d) {n : Nat} {Q : RS → Int → Prop} (hn : n < 84000) (hw : t.2.2.1 45 n = 1) (hc : pgV xt (d - 1) 239 [.ref 102, ii (t.2.2.1 44 n)] (rS pre post t) (RA pre post Q)) : pgV xt d 242 [.ref 102, ii (n : Int)] (rS pre post t) (RA pre post Q) := by
  refine x_enter pm_X12_listWorth (L0 := [(0, .ref 102), (1, ii (n : Int))]) rfl (Nat.le_of_ble_eq_true rfl) (by omega) ?_
  refine me1 (pc' := 1) (L' := [(0, .ref 102), (1, ii (n : Int))]) (S' := [.ref 102]) dm_X12_listWorth_0 rfl rfl rfl rfl ?_
  refine me3 (pc' := 4) (S' := [.ref (102 + 20)]) dm_X12_listWorth_1 (q_getr hm rfl (fun m i l => rg_45 m i l)) rfl rfl rfl ?_
  refine me1 (pc' := 5) (L' := [(0, .ref 102), (1, ii (n : Int))]) (S' := [ii (n : Int), .ref (102 + 20)]) dm_X12_listWorth_4 rfl rfl rfl rfl ?_
  refine me3 (pc' := 6) (S' := [ii ((t.2.2.1 45) n)]) dm_X12_listWorth_5 (q_iald (v := (t.2.2.1 45) n) (k := 45) (n := 84000) hm (fun m i l I J => rc_45 m i l I J) (by omega) (by omega) (by decide) rfl) rfl rfl rfl ?_
  refine me0 (pc' := 7) (S' := [ii 1, ii ((t.2.2.1 45) n)]) dm_X12_listWorth_6 rfl rfl rfl rfl ?_
  refine y_2ne (a := (t.2.2.1 45) n) (b := 1) (t := 21) (pc' := 10) dm_X12_listWorth_7 rfl rfl (by omega) (fun hb1 => ?_) (fun hb1 => ?_)
  · exfalso; omega
  · refine me1 (pc' := 11) (L' := [(0, .ref 102), (1, ii (n : Int))]) (S' := [.ref 102]) dm_X12_listWorth_10 rfl rfl rfl rfl ?_
    refine me1 (pc' := 12) (L' := [(0, .ref 102), (1, ii (n : Int))]) (S' := [.ref 102, .ref 102]) dm_X12_listWorth_11 rfl rfl rfl rfl ?_
    refine me3 (pc' := 15) (S' := [.ref (102 + 19), .ref 102]) dm_X12_listWorth_12 (q_getr hm rfl (fun m i l => rg_44 m i l)) rfl rfl rfl ?_
    refine me1 (pc' := 16) (L' := [(0, .ref 102), (1, ii (n : Int))]) (S' := [ii (n : Int), .ref (102 + 19), .ref 102]) dm_X12_listWorth_15 rfl rfl rfl rfl ?_
    refine me3 (pc' := 17) (S' := [ii ((t.2.2.1 44) n), .ref 102]) dm_X12_listWorth_16 (q_iald (v := (t.2.2.1 44) n) (k := 44) (n := 84000) hm (fun m i l I J => rc_44 m i l I J) (by omega) (by omega) (by decide) rfl) rfl rfl rfl ?_
    refine x_cv (pc' := 20) (rest := []) dm_X12_listWorth_17 rfl (q_inv (As := [ii ((t.2.2.1 44) n)]) (S := []) hm rfl rfl rfl) rfl rfl rfl (hc) ?_
    rintro x1 g1 f1
    obtain ⟨t1, z1, rfl, rfl, hE1, hZ1, hQ1⟩ := f1
    refine y_ret (r := some (ii z1)) dm_X12_listWorth_20 rfl rfl rfl ?_
    exact ⟨_, rfl, _, _, rfl, rfl, hE1, hZ1, hQ1⟩
theorem dm_X12_listWorth_21 : mj_dec prog_14_method_107_code 21 = some (.aload_n 0, 1) := by decide +kernel
theorem dm_X12_listWorth_22 : mj_dec prog_14_method_107_code 22 = some (.getfield 202, 3) := by decide +kernel
theorem dm_X12_listWorth_25 : mj_dec prog_14_method_107_code 25 = some (.istore_n 2, 1) := by decide +kernel
theorem dm_X12_listWorth_26 : mj_dec prog_14_method_107_code 26 = some (.aload_n 0, 1) := by decide +kernel
theorem dm_X12_listWorth_27 : mj_dec prog_14_method_107_code 27 = some (.getfield 78, 3) := by decide +kernel
theorem dm_X12_listWorth_30 : mj_dec prog_14_method_107_code 30 = some (.iload_n 1, 1) := by decide +kernel
theorem dm_X12_listWorth_31 : mj_dec prog_14_method_107_code 31 = some (.iaload, 1) := by decide +kernel
theorem dm_X12_listWorth_32 : mj_dec prog_14_method_107_code 32 = some (.istore_n 3, 1) := by decide +kernel
theorem l_start {xt : mj_X} {d : Nat} {pre post : mj_H} {t : RS} (hm : pre.length = 102) (hd1 : 1 ≤ d) {n : Nat} {Q : RS → Int → Prop} (hn : n < 84000) (hw : t.2.2.1 45 n ≠ 1 ∧ 0 ≤ t.2.2.1 45 n ∧ t.2.2.1 45 n ≤ 1000) (k : HL xt (d - 1) pre post t n (t.1 13) (t.2.2.1 44 n) (fun r h' => ∃ x, r = some x ∧ RA pre post Q x h')) : pgV xt d 242 [.ref 102, ii (n : Int)] (rS pre post t) (RA pre post Q) := by
  refine x_enter pm_X12_listWorth (L0 := [(0, .ref 102), (1, ii (n : Int))]) rfl (Nat.le_of_ble_eq_true rfl) (by omega) ?_
  refine me1 (pc' := 1) (L' := [(0, .ref 102), (1, ii (n : Int))]) (S' := [.ref 102]) dm_X12_listWorth_0 rfl rfl rfl rfl ?_
  refine me3 (pc' := 4) (S' := [.ref (102 + 20)]) dm_X12_listWorth_1 (q_getr hm rfl (fun m i l => rg_45 m i l)) rfl rfl rfl ?_
  refine me1 (pc' := 5) (L' := [(0, .ref 102), (1, ii (n : Int))]) (S' := [ii (n : Int), .ref (102 + 20)]) dm_X12_listWorth_4 rfl rfl rfl rfl ?_
  refine me3 (pc' := 6) (S' := [ii ((t.2.2.1 45) n)]) dm_X12_listWorth_5 (q_iald (v := (t.2.2.1 45) n) (k := 45) (n := 84000) hm (fun m i l I J => rc_45 m i l I J) (by omega) (by omega) (by decide) rfl) rfl rfl rfl ?_
  refine me0 (pc' := 7) (S' := [ii 1, ii ((t.2.2.1 45) n)]) dm_X12_listWorth_6 rfl rfl rfl rfl ?_
  refine y_2ne (a := (t.2.2.1 45) n) (b := 1) (t := 21) (pc' := 10) dm_X12_listWorth_7 rfl rfl (by omega) (fun hb1 => ?_) (fun hb1 => ?_)
  · refine me1 (pc' := 22) (L' := [(0, .ref 102), (1, ii (n : Int))]) (S' := [.ref 102]) dm_X12_listWorth_21 rfl rfl rfl rfl ?_
    refine me3 (pc' := 25) (S' := [ii (t.1 13)]) dm_X12_listWorth_22 (q_geti (v := t.1 13) hm rfl (fun m i l => rg_13 m i l) rfl) rfl rfl rfl ?_
    refine me1 (pc' := 26) (L' := [(2, ii (t.1 13)), (0, .ref 102), (1, ii (n : Int))]) (S' := []) dm_X12_listWorth_25 rfl rfl rfl rfl ?_
    refine me1 (pc' := 27) (L' := [(2, ii (t.1 13)), (0, .ref 102), (1, ii (n : Int))]) (S' := [.ref 102]) dm_X12_listWorth_26 rfl rfl rfl rfl ?_
    refine me3 (pc' := 30) (S' := [.ref (102 + 19)]) dm_X12_listWorth_27 (q_getr hm rfl (fun m i l => rg_44 m i l)) rfl rfl rfl ?_
    refine me1 (pc' := 31) (L' := [(2, ii (t.1 13)), (0, .ref 102), (1, ii (n : Int))]) (S' := [ii (n : Int), .ref (102 + 19)]) dm_X12_listWorth_30 rfl rfl rfl rfl ?_
    refine me3 (pc' := 32) (S' := [ii ((t.2.2.1 44) n)]) dm_X12_listWorth_31 (q_iald (v := (t.2.2.1 44) n) (k := 44) (n := 84000) hm (fun m i l I J => rc_44 m i l I J) (by omega) (by omega) (by decide) rfl) rfl rfl rfl ?_
    refine me1 (pc' := 33) (L' := [(3, ii ((t.2.2.1 44) n)), (2, ii (t.1 13)), (0, .ref 102), (1, ii (n : Int))]) (S' := []) dm_X12_listWorth_32 rfl rfl rfl rfl ?_
    exact pg_sub (L := [(0, .ref 102), (1, ii (n : Int)), (2, ii (t.1 13)), (3, ii (t.2.2.1 44 n))]) rfl rfl rfl (k)
  · exfalso; omega
theorem dm_X12_listWorth_33 : mj_dec prog_14_method_107_code 33 = some (.iload_n 3, 1) := by decide +kernel
theorem dm_X12_listWorth_34 : mj_dec prog_14_method_107_code 34 = some (.ifCond .lt 29, 3) := by decide +kernel
theorem dm_X12_listWorth_37 : mj_dec prog_14_method_107_code 37 = some (.aload_n 0, 1) := by decide +kernel
theorem dm_X12_listWorth_38 : mj_dec prog_14_method_107_code 38 = some (.getfield 181, 3) := by decide +kernel
theorem dm_X12_listWorth_41 : mj_dec prog_14_method_107_code 41 = some (.ifCond .ne 22, 3) := by decide +kernel
theorem dm_X12_listWorth_44 : mj_dec prog_14_method_107_code 44 = some (.aload_n 0, 1) := by decide +kernel
theorem dm_X12_listWorth_45 : mj_dec prog_14_method_107_code 45 = some (.aload_n 0, 1) := by decide +kernel
theorem dm_X12_listWorth_46 : mj_dec prog_14_method_107_code 46 = some (.iload_n 3, 1) := by decide +kernel
theorem dm_X12_listWorth_47 : mj_dec prog_14_method_107_code 47 = some (.invokevirtual 523, 3) := by decide +kernel
theorem dm_X12_listWorth_50 : mj_dec prog_14_method_107_code 50 = some (.invokevirtual 264, 3) := by decide +kernel
theorem dm_X12_listWorth_53 : mj_dec prog_14_method_107_code 53 = some (.aload_n 0, 1) := by decide +kernel
theorem dm_X12_listWorth_54 : mj_dec prog_14_method_107_code 54 = some (.getfield 90, 3) := by decide +kernel
theorem dm_X12_listWorth_57 : mj_dec prog_14_method_107_code 57 = some (.iload_n 3, 1) := by decide +kernel
theorem dm_X12_listWorth_58 : mj_dec prog_14_method_107_code 58 = some (.iaload, 1) := by decide +kernel
theorem dm_X12_listWorth_59 : mj_dec prog_14_method_107_code 59 = some (.istore_n 3, 1) := by decide +kernel
theorem dm_X12_listWorth_60 : mj_dec prog_14_method_107_code 60 = some (.goto (-27), 3) := by decide +kernel
theorem l_turn {xt : mj_X} {d : Nat} {pre post : mj_H} {t : RS} {P : Option Value → mj_H → Prop} (hm : pre.length = 102) {n e : Nat} {b : Int} (he : e < 84000) (h5 : t.1 5 = 0) {Q1 : RS → Int → Prop} (hd1 : 1 ≤ d) (hw2 : ∀ u y, Q1 u y → ∃ w1 : Nat, u.1 13 = (w1 : Int) ∧ w1 < 8192) (hc : pgV xt d 239 [.ref 102, ii (e : Int)] (rS pre post t) (RA pre post Q1)) (k : ∀ u y (w1 : Nat), Q1 u y → u.1 13 = (w1 : Int) → HL xt d pre post (pshS u w1 y) n b (u.2.2.1 48 e) P) : HL xt d pre post t n b (e : Int) P := by
  refine me1 (pc' := 34) (L' := [(0, .ref 102), (1, ii (n : Int)), (2, ii b), (3, ii (e : Int))]) (S' := [ii (e : Int)]) dm_X12_listWorth_33 rfl rfl rfl rfl ?_
  refine y_1lt (a := (e : Int)) (t := 63) (pc' := 37) dm_X12_listWorth_34 rfl rfl (by omega) (fun hb1 => ?_) (fun hb1 => ?_)
  · exfalso; omega
  · refine me1 (pc' := 38) (L' := [(0, .ref 102), (1, ii (n : Int)), (2, ii b), (3, ii (e : Int))]) (S' := [.ref 102]) dm_X12_listWorth_37 rfl rfl rfl rfl ?_
    refine me3 (pc' := 41) (S' := [ii (t.1 5)]) dm_X12_listWorth_38 (q_geti (v := t.1 5) hm rfl (fun m i l => rg_5 m i l) rfl) rfl rfl rfl ?_
    refine y_1ne (a := t.1 5) (t := 63) (pc' := 44) dm_X12_listWorth_41 rfl rfl (by omega) (fun hb2 => ?_) (fun hb2 => ?_)
    · exfalso; omega
    · refine me1 (pc' := 45) (L' := [(0, .ref 102), (1, ii (n : Int)), (2, ii b), (3, ii (e : Int))]) (S' := [.ref 102]) dm_X12_listWorth_44 rfl rfl rfl rfl ?_
      refine me1 (pc' := 46) (L' := [(0, .ref 102), (1, ii (n : Int)), (2, ii b), (3, ii (e : Int))]) (S' := [.ref 102, .ref 102]) dm_X12_listWorth_45 rfl rfl rfl rfl ?_
      refine me1 (pc' := 47) (L' := [(0, .ref 102), (1, ii (n : Int)), (2, ii b), (3, ii (e : Int))]) (S' := [ii (e : Int), .ref 102, .ref 102]) dm_X12_listWorth_46 rfl rfl rfl rfl ?_
      refine x_cv (pc' := 50) (rest := [.ref 102]) dm_X12_listWorth_47 rfl (q_inv (As := [ii (e : Int)]) (S := [.ref 102]) hm rfl rfl rfl) rfl rfl rfl (hc) ?_
      rintro x1 g1 f1
      obtain ⟨t1, z1, rfl, rfl, hE1, hZ1, hQ1⟩ := f1
      obtain ⟨w1, hw1, hw1b⟩ := hw2 t1 z1 hQ1
      refine x_cn (pc' := 53) (rest := []) dm_X12_listWorth_50 rfl (q_inv (As := [ii z1]) (S := []) hm rfl rfl rfl) rfl rfl rfl (r_push_ (s := t1) (n := w1) hm (by omega) hw1 (by omega)) ?_
      rintro _ rfl
      refine me1 (pc' := 54) (L' := [(0, .ref 102), (1, ii (n : Int)), (2, ii b), (3, ii (e : Int))]) (S' := [.ref 102]) dm_X12_listWorth_53 rfl rfl rfl rfl ?_
      refine me3 (pc' := 57) (S' := [.ref (102 + 23)]) dm_X12_listWorth_54 (q_getr hm rfl (fun m i l => rg_48 m i l)) rfl rfl rfl ?_
      refine me1 (pc' := 58) (L' := [(0, .ref 102), (1, ii (n : Int)), (2, ii b), (3, ii (e : Int))]) (S' := [ii (e : Int), .ref (102 + 23)]) dm_X12_listWorth_57 rfl rfl rfl rfl ?_
      refine me3 (pc' := 59) (S' := [ii ((((pshS t1 w1 z1).2.2.1) 48) e)]) dm_X12_listWorth_58 (q_iald (v := (((pshS t1 w1 z1).2.2.1) 48) e) (k := 48) (n := 84000) hm (fun m i l I J => rc_48 m i l I J) (by omega) (by omega) (by decide) rfl) rfl rfl rfl ?_
      refine me1 (pc' := 60) (L' := [(3, ii ((((pshS t1 w1 z1).2.2.1) 48) e)), (0, .ref 102), (1, ii (n : Int)), (2, ii b)]) (S' := []) dm_X12_listWorth_59 rfl rfl rfl rfl ?_
      refine me2 (pc' := 33) (S' := []) dm_X12_listWorth_60 rfl rfl rfl ?_
      exact pg_sub (L := [(0, .ref 102), (1, ii (n : Int)), (2, ii b), (3, ii (t1.2.2.1 48 e))]) rfl rfl rfl (k t1 z1 w1 hQ1 hw1)
theorem dm_X12_listWorth_63 : mj_dec prog_14_method_107_code 63 = some (.iload_n 2, 1) := by decide +kernel
theorem dm_X12_listWorth_64 : mj_dec prog_14_method_107_code 64 = some (.istore_n 3, 1) := by decide +kernel
theorem dm_X12_listWorth_65 : mj_dec prog_14_method_107_code 65 = some (.aload_n 0, 1) := by decide +kernel
theorem dm_X12_listWorth_66 : mj_dec prog_14_method_107_code 66 = some (.getfield 202, 3) := by decide +kernel
theorem dm_X12_listWorth_69 : mj_dec prog_14_method_107_code 69 = some (.iconst 1, 1) := by decide +kernel
theorem dm_X12_listWorth_70 : mj_dec prog_14_method_107_code 70 = some (.isub, 1) := by decide +kernel
theorem dm_X12_listWorth_71 : mj_dec prog_14_method_107_code 71 = some (.istore 4, 2) := by decide +kernel
theorem dm_X12_listWorth_73 : mj_dec prog_14_method_107_code 73 = some (.iload_n 3, 1) := by decide +kernel
theorem dm_X12_listWorth_74 : mj_dec prog_14_method_107_code 74 = some (.iload 4, 2) := by decide +kernel
theorem dm_X12_listWorth_76 : mj_dec prog_14_method_107_code 76 = some (.if_icmp .ge 42, 3) := by decide +kernel
theorem dm_X12_listWorth_118 : mj_dec prog_14_method_107_code 118 = some (.aload_n 0, 1) := by decide +kernel
theorem dm_X12_listWorth_119 : mj_dec prog_14_method_107_code 119 = some (.iload_n 2, 1) := by decide +kernel
theorem dm_X12_listWorth_120 : mj_dec prog_14_method_107_code 120 = some (.aload_n 0, 1) := by decide +kernel
theorem dm_X12_listWorth_121 : mj_dec prog_14_method_107_code 121 = some (.getfield 87, 3) := by decide +kernel
theorem dm_X12_listWorth_124 : mj_dec prog_14_method_107_code 124 = some (.iload_n 1, 1) := by decide +kernel
theorem dm_X12_listWorth_125 : mj_dec prog_14_method_107_code 125 = some (.iaload, 1) := by decide +kernel
theorem dm_X12_listWorth_126 : mj_dec prog_14_method_107_code 126 = some (.invokevirtual 560, 3) := by decide +kernel
theorem dm_X12_listWorth_129 : mj_dec prog_14_method_107_code 129 = some (.ireturn, 1) := by decide +kernel
theorem l_end0 {xt : mj_X} {d : Nat} {pre post : mj_H} {t : RS} {P : Option Value → mj_H → Prop} (hm : pre.length = 102) {n b0 j : Nat} {x : Int} (hn : n < 84000) (hx : -1 ≤ x ∧ x ≤ 84000) (hx5 : (x = -1 ∧ t.1 5 = 0) ∨ (0 < t.1 5 ∧ t.1 5 ≤ 100)) {Q1 : RS → Int → Prop} (hw : t.1 13 = ((b0 + j : Nat) : Int)) (hw0 : b0 + j ≤ 8192) (hc : pgV xt d 244 [.ref 102, ii ((b0 : Nat) : Int), ii (t.2.2.1 47 n)] (rS pre post (rvS t b0 j j)) (RA pre post Q1)) (k : ∀ u y, Q1 u y → P (some (ii y)) (rS pre post u)) (hj : j = 0) : HL xt d pre post t n ((b0 : Nat) : Int) x P := by
  refine me1 (pc' := 34) (L' := [(0, .ref 102), (1, ii (n : Int)), (2, ii ((b0 : Nat) : Int)), (3, ii x)]) (S' := [ii x]) dm_X12_listWorth_33 rfl rfl rfl rfl ?_
  refine y_1lt (a := x) (t := 63) (pc' := 37) dm_X12_listWorth_34 rfl rfl (by omega) (fun hb1 => ?_) (fun hb1 => ?_)
  · refine me1 (pc' := 64) (L' := [(0, .ref 102), (1, ii (n : Int)), (2, ii ((b0 : Nat) : Int)), (3, ii x)]) (S' := [ii ((b0 : Nat) : Int)]) dm_X12_listWorth_63 rfl rfl rfl rfl ?_
    refine me1 (pc' := 65) (L' := [(3, ii ((b0 : Nat) : Int)), (0, .ref 102), (1, ii (n : Int)), (2, ii ((b0 : Nat) : Int))]) (S' := []) dm_X12_listWorth_64 rfl rfl rfl rfl ?_
    refine me1 (pc' := 66) (L' := [(3, ii ((b0 : Nat) : Int)), (0, .ref 102), (1, ii (n : Int)), (2, ii ((b0 : Nat) : Int))]) (S' := [.ref 102]) dm_X12_listWorth_65 rfl rfl rfl rfl ?_
    refine me3 (pc' := 69) (S' := [ii (t.1 13)]) dm_X12_listWorth_66 (q_geti (v := t.1 13) hm rfl (fun m i l => rg_13 m i l) rfl) rfl rfl rfl ?_
    refine me0 (pc' := 70) (S' := [ii 1, ii (t.1 13)]) dm_X12_listWorth_69 rfl rfl rfl rfl ?_
    refine y_isub (a := t.1 13) (b := 1) dm_X12_listWorth_70 (pc' := 71) rfl ?_
    refine me1 (pc' := 73) (L' := [(4, ii ((t.1 13) - 1)), (3, ii ((b0 : Nat) : Int)), (0, .ref 102), (1, ii (n : Int)), (2, ii ((b0 : Nat) : Int))]) (S' := []) dm_X12_listWorth_71 rfl rfl rfl rfl ?_
    refine me1 (pc' := 74) (L' := [(4, ii ((t.1 13) - 1)), (3, ii ((b0 : Nat) : Int)), (0, .ref 102), (1, ii (n : Int)), (2, ii ((b0 : Nat) : Int))]) (S' := [ii ((b0 : Nat) : Int)]) dm_X12_listWorth_73 rfl rfl rfl rfl ?_
    refine me1 (pc' := 76) (L' := [(4, ii ((t.1 13) - 1)), (3, ii ((b0 : Nat) : Int)), (0, .ref 102), (1, ii (n : Int)), (2, ii ((b0 : Nat) : Int))]) (S' := [ii ((t.1 13) - 1), ii ((b0 : Nat) : Int)]) dm_X12_listWorth_74 rfl rfl rfl rfl ?_
    refine y_2ge (a := ((b0 : Nat) : Int)) (b := (t.1 13) - 1) (t := 118) (pc' := 79) dm_X12_listWorth_76 rfl rfl (by omega) (fun hb2 => ?_) (fun hb2 => ?_)
    · refine pg_cast (h2 := rI pre post ((rvS t b0 j j).1) ((rvS t b0 j j).2.1) ((rvS t b0 j j).2.2.1) ((rvS t b0 j j).2.2.2)) (by rw [hj, rvS_0]) ?_
      refine me1 (pc' := 119) (L' := [(4, ii ((t.1 13) - 1)), (3, ii ((b0 : Nat) : Int)), (0, .ref 102), (1, ii (n : Int)), (2, ii ((b0 : Nat) : Int))]) (S' := [.ref 102]) dm_X12_listWorth_118 rfl rfl rfl rfl ?_
      refine me1 (pc' := 120) (L' := [(4, ii ((t.1 13) - 1)), (3, ii ((b0 : Nat) : Int)), (0, .ref 102), (1, ii (n : Int)), (2, ii ((b0 : Nat) : Int))]) (S' := [ii ((b0 : Nat) : Int), .ref 102]) dm_X12_listWorth_119 rfl rfl rfl rfl ?_
      refine me1 (pc' := 121) (L' := [(4, ii ((t.1 13) - 1)), (3, ii ((b0 : Nat) : Int)), (0, .ref 102), (1, ii (n : Int)), (2, ii ((b0 : Nat) : Int))]) (S' := [.ref 102, ii ((b0 : Nat) : Int), .ref 102]) dm_X12_listWorth_120 rfl rfl rfl rfl ?_
      refine me3 (pc' := 124) (S' := [.ref (102 + 22), ii ((b0 : Nat) : Int), .ref 102]) dm_X12_listWorth_121 (q_getr hm rfl (fun m i l => rg_47 m i l)) rfl rfl rfl ?_
      refine me1 (pc' := 125) (L' := [(4, ii ((t.1 13) - 1)), (3, ii ((b0 : Nat) : Int)), (0, .ref 102), (1, ii (n : Int)), (2, ii ((b0 : Nat) : Int))]) (S' := [ii (n : Int), .ref (102 + 22), ii ((b0 : Nat) : Int), .ref 102]) dm_X12_listWorth_124 rfl rfl rfl rfl ?_
      refine me3 (pc' := 126) (S' := [ii ((((rvS t b0 j j).2.2.1) 47) n), ii ((b0 : Nat) : Int), .ref 102]) dm_X12_listWorth_125 (q_iald (v := (((rvS t b0 j j).2.2.1) 47) n) (k := 47) (n := 84000) hm (fun m i l I J => rc_47 m i l I J) (by omega) (by omega) (by decide) rfl) rfl rfl rfl ?_
      refine x_cv (pc' := 129) (rest := []) dm_X12_listWorth_126 rfl (q_inv (As := [ii ((b0 : Nat) : Int), ii ((((rvS t b0 j j).2.2.1) 47) n)]) (S := []) hm rfl rfl rfl) rfl rfl rfl (hc) ?_
      rintro x1 g1 f1
      obtain ⟨t1, z1, rfl, rfl, hE1, hZ1, hQ1⟩ := f1
      refine y_ret (r := some (ii z1)) dm_X12_listWorth_129 rfl rfl rfl ?_
      exact k _ _ hQ1
    · exfalso; omega
  · refine me1 (pc' := 38) (L' := [(0, .ref 102), (1, ii (n : Int)), (2, ii ((b0 : Nat) : Int)), (3, ii x)]) (S' := [.ref 102]) dm_X12_listWorth_37 rfl rfl rfl rfl ?_
    refine me3 (pc' := 41) (S' := [ii (t.1 5)]) dm_X12_listWorth_38 (q_geti (v := t.1 5) hm rfl (fun m i l => rg_5 m i l) rfl) rfl rfl rfl ?_
    refine y_1ne (a := t.1 5) (t := 63) (pc' := 44) dm_X12_listWorth_41 rfl rfl (by omega) (fun hb3 => ?_) (fun hb3 => ?_)
    · refine me1 (pc' := 64) (L' := [(0, .ref 102), (1, ii (n : Int)), (2, ii ((b0 : Nat) : Int)), (3, ii x)]) (S' := [ii ((b0 : Nat) : Int)]) dm_X12_listWorth_63 rfl rfl rfl rfl ?_
      refine me1 (pc' := 65) (L' := [(3, ii ((b0 : Nat) : Int)), (0, .ref 102), (1, ii (n : Int)), (2, ii ((b0 : Nat) : Int))]) (S' := []) dm_X12_listWorth_64 rfl rfl rfl rfl ?_
      refine me1 (pc' := 66) (L' := [(3, ii ((b0 : Nat) : Int)), (0, .ref 102), (1, ii (n : Int)), (2, ii ((b0 : Nat) : Int))]) (S' := [.ref 102]) dm_X12_listWorth_65 rfl rfl rfl rfl ?_
      refine me3 (pc' := 69) (S' := [ii (t.1 13)]) dm_X12_listWorth_66 (q_geti (v := t.1 13) hm rfl (fun m i l => rg_13 m i l) rfl) rfl rfl rfl ?_
      refine me0 (pc' := 70) (S' := [ii 1, ii (t.1 13)]) dm_X12_listWorth_69 rfl rfl rfl rfl ?_
      refine y_isub (a := t.1 13) (b := 1) dm_X12_listWorth_70 (pc' := 71) rfl ?_
      refine me1 (pc' := 73) (L' := [(4, ii ((t.1 13) - 1)), (3, ii ((b0 : Nat) : Int)), (0, .ref 102), (1, ii (n : Int)), (2, ii ((b0 : Nat) : Int))]) (S' := []) dm_X12_listWorth_71 rfl rfl rfl rfl ?_
      refine me1 (pc' := 74) (L' := [(4, ii ((t.1 13) - 1)), (3, ii ((b0 : Nat) : Int)), (0, .ref 102), (1, ii (n : Int)), (2, ii ((b0 : Nat) : Int))]) (S' := [ii ((b0 : Nat) : Int)]) dm_X12_listWorth_73 rfl rfl rfl rfl ?_
      refine me1 (pc' := 76) (L' := [(4, ii ((t.1 13) - 1)), (3, ii ((b0 : Nat) : Int)), (0, .ref 102), (1, ii (n : Int)), (2, ii ((b0 : Nat) : Int))]) (S' := [ii ((t.1 13) - 1), ii ((b0 : Nat) : Int)]) dm_X12_listWorth_74 rfl rfl rfl rfl ?_
      refine y_2ge (a := ((b0 : Nat) : Int)) (b := (t.1 13) - 1) (t := 118) (pc' := 79) dm_X12_listWorth_76 rfl rfl (by omega) (fun hb4 => ?_) (fun hb4 => ?_)
      · refine pg_cast (h2 := rI pre post ((rvS t b0 j j).1) ((rvS t b0 j j).2.1) ((rvS t b0 j j).2.2.1) ((rvS t b0 j j).2.2.2)) (by rw [hj, rvS_0]) ?_
        refine me1 (pc' := 119) (L' := [(4, ii ((t.1 13) - 1)), (3, ii ((b0 : Nat) : Int)), (0, .ref 102), (1, ii (n : Int)), (2, ii ((b0 : Nat) : Int))]) (S' := [.ref 102]) dm_X12_listWorth_118 rfl rfl rfl rfl ?_
        refine me1 (pc' := 120) (L' := [(4, ii ((t.1 13) - 1)), (3, ii ((b0 : Nat) : Int)), (0, .ref 102), (1, ii (n : Int)), (2, ii ((b0 : Nat) : Int))]) (S' := [ii ((b0 : Nat) : Int), .ref 102]) dm_X12_listWorth_119 rfl rfl rfl rfl ?_
        refine me1 (pc' := 121) (L' := [(4, ii ((t.1 13) - 1)), (3, ii ((b0 : Nat) : Int)), (0, .ref 102), (1, ii (n : Int)), (2, ii ((b0 : Nat) : Int))]) (S' := [.ref 102, ii ((b0 : Nat) : Int), .ref 102]) dm_X12_listWorth_120 rfl rfl rfl rfl ?_
        refine me3 (pc' := 124) (S' := [.ref (102 + 22), ii ((b0 : Nat) : Int), .ref 102]) dm_X12_listWorth_121 (q_getr hm rfl (fun m i l => rg_47 m i l)) rfl rfl rfl ?_
        refine me1 (pc' := 125) (L' := [(4, ii ((t.1 13) - 1)), (3, ii ((b0 : Nat) : Int)), (0, .ref 102), (1, ii (n : Int)), (2, ii ((b0 : Nat) : Int))]) (S' := [ii (n : Int), .ref (102 + 22), ii ((b0 : Nat) : Int), .ref 102]) dm_X12_listWorth_124 rfl rfl rfl rfl ?_
        refine me3 (pc' := 126) (S' := [ii ((((rvS t b0 j j).2.2.1) 47) n), ii ((b0 : Nat) : Int), .ref 102]) dm_X12_listWorth_125 (q_iald (v := (((rvS t b0 j j).2.2.1) 47) n) (k := 47) (n := 84000) hm (fun m i l I J => rc_47 m i l I J) (by omega) (by omega) (by decide) rfl) rfl rfl rfl ?_
        refine x_cv (pc' := 129) (rest := []) dm_X12_listWorth_126 rfl (q_inv (As := [ii ((b0 : Nat) : Int), ii ((((rvS t b0 j j).2.2.1) 47) n)]) (S := []) hm rfl rfl rfl) rfl rfl rfl (hc) ?_
        rintro x1 g1 f1
        obtain ⟨t1, z1, rfl, rfl, hE1, hZ1, hQ1⟩ := f1
        refine y_ret (r := some (ii z1)) dm_X12_listWorth_129 rfl rfl rfl ?_
        exact k _ _ hQ1
      · exfalso; omega
    · exfalso; omega
theorem dm_X12_listWorth_79 : mj_dec prog_14_method_107_code 79 = some (.aload_n 0, 1) := by decide +kernel
theorem dm_X12_listWorth_80 : mj_dec prog_14_method_107_code 80 = some (.getfield 30, 3) := by decide +kernel
theorem dm_X12_listWorth_83 : mj_dec prog_14_method_107_code 83 = some (.iload_n 3, 1) := by decide +kernel
theorem dm_X12_listWorth_84 : mj_dec prog_14_method_107_code 84 = some (.iaload, 1) := by decide +kernel
theorem dm_X12_listWorth_85 : mj_dec prog_14_method_107_code 85 = some (.istore 5, 2) := by decide +kernel
theorem dm_X12_listWorth_87 : mj_dec prog_14_method_107_code 87 = some (.aload_n 0, 1) := by decide +kernel
theorem dm_X12_listWorth_88 : mj_dec prog_14_method_107_code 88 = some (.getfield 30, 3) := by decide +kernel
theorem dm_X12_listWorth_91 : mj_dec prog_14_method_107_code 91 = some (.iload_n 3, 1) := by decide +kernel
theorem dm_X12_listWorth_92 : mj_dec prog_14_method_107_code 92 = some (.aload_n 0, 1) := by decide +kernel
theorem dm_X12_listWorth_93 : mj_dec prog_14_method_107_code 93 = some (.getfield 30, 3) := by decide +kernel
theorem dm_X12_listWorth_96 : mj_dec prog_14_method_107_code 96 = some (.iload 4, 2) := by decide +kernel
theorem dm_X12_listWorth_98 : mj_dec prog_14_method_107_code 98 = some (.iaload, 1) := by decide +kernel
theorem dm_X12_listWorth_99 : mj_dec prog_14_method_107_code 99 = some (.iastore, 1) := by decide +kernel
theorem dm_X12_listWorth_100 : mj_dec prog_14_method_107_code 100 = some (.aload_n 0, 1) := by decide +kernel
theorem dm_X12_listWorth_101 : mj_dec prog_14_method_107_code 101 = some (.getfield 30, 3) := by decide +kernel
theorem dm_X12_listWorth_104 : mj_dec prog_14_method_107_code 104 = some (.iload 4, 2) := by decide +kernel
theorem dm_X12_listWorth_106 : mj_dec prog_14_method_107_code 106 = some (.iload 5, 2) := by decide +kernel
theorem dm_X12_listWorth_108 : mj_dec prog_14_method_107_code 108 = some (.iastore, 1) := by decide +kernel
theorem dm_X12_listWorth_109 : mj_dec prog_14_method_107_code 109 = some (.iinc 3 1, 3) := by decide +kernel
theorem dm_X12_listWorth_112 : mj_dec prog_14_method_107_code 112 = some (.iinc 4 (-1), 3) := by decide +kernel
theorem dm_X12_listWorth_115 : mj_dec prog_14_method_107_code 115 = some (.goto (-42), 3) := by decide +kernel
theorem l_end1 {xt : mj_X} {d : Nat} {pre post : mj_H} {t : RS} {P : Option Value → mj_H → Prop} (hm : pre.length = 102) {n b0 j : Nat} {x : Int} (hn : n < 84000) (hx : -1 ≤ x ∧ x ≤ 84000) (hx5 : (x = -1 ∧ t.1 5 = 0) ∨ (0 < t.1 5 ∧ t.1 5 ≤ 100)) {Q1 : RS → Int → Prop} (hw : t.1 13 = ((b0 + j : Nat) : Int)) (hw0 : b0 + j ≤ 8192) (hc : pgV xt d 244 [.ref 102, ii ((b0 : Nat) : Int), ii (t.2.2.1 47 n)] (rS pre post (rvS t b0 j j)) (RA pre post Q1)) (k : ∀ u y, Q1 u y → P (some (ii y)) (rS pre post u)) (hj : 1 ≤ j) : HL xt d pre post t n ((b0 : Nat) : Int) x P := by
  refine me1 (pc' := 34) (L' := [(0, .ref 102), (1, ii (n : Int)), (2, ii ((b0 : Nat) : Int)), (3, ii x)]) (S' := [ii x]) dm_X12_listWorth_33 rfl rfl rfl rfl ?_
  refine y_1lt (a := x) (t := 63) (pc' := 37) dm_X12_listWorth_34 rfl rfl (by omega) (fun hb1 => ?_) (fun hb1 => ?_)
  · refine me1 (pc' := 64) (L' := [(0, .ref 102), (1, ii (n : Int)), (2, ii ((b0 : Nat) : Int)), (3, ii x)]) (S' := [ii ((b0 : Nat) : Int)]) dm_X12_listWorth_63 rfl rfl rfl rfl ?_
    refine me1 (pc' := 65) (L' := [(3, ii ((b0 : Nat) : Int)), (0, .ref 102), (1, ii (n : Int)), (2, ii ((b0 : Nat) : Int))]) (S' := []) dm_X12_listWorth_64 rfl rfl rfl rfl ?_
    refine me1 (pc' := 66) (L' := [(3, ii ((b0 : Nat) : Int)), (0, .ref 102), (1, ii (n : Int)), (2, ii ((b0 : Nat) : Int))]) (S' := [.ref 102]) dm_X12_listWorth_65 rfl rfl rfl rfl ?_
    refine me3 (pc' := 69) (S' := [ii (t.1 13)]) dm_X12_listWorth_66 (q_geti (v := t.1 13) hm rfl (fun m i l => rg_13 m i l) rfl) rfl rfl rfl ?_
    refine me0 (pc' := 70) (S' := [ii 1, ii (t.1 13)]) dm_X12_listWorth_69 rfl rfl rfl rfl ?_
    refine y_isub (a := t.1 13) (b := 1) dm_X12_listWorth_70 (pc' := 71) rfl ?_
    refine pg_st (S' := [ii ((b0 + j - 1 - 0 : Nat) : Int)]) (congrArg (fun z => ii z :: []) (by omega)) ?_
    refine me1 (pc' := 73) (L' := [(4, ii ((b0 + j - 1 - 0 : Nat) : Int)), (3, ii ((b0 : Nat) : Int)), (0, .ref 102), (1, ii (n : Int)), (2, ii ((b0 : Nat) : Int))]) (S' := []) dm_X12_listWorth_71 rfl rfl rfl rfl ?_
    have lp73 : ∀ (n73 : Nat) (i : Nat), j - i = n73 → (2 * i ≤ j) → pgE xt d 12 6 false (Option.some Jvm.ClassFile.FieldType.int) (mj_dec prog_14_method_107_code) 73 [(0, .ref 102), (1, ii (n : Int)), (2, ii ((b0 : Nat) : Int)), (3, ii ((b0 + i : Nat) : Int)), (4, ii ((b0 + j - 1 - i : Nat) : Int))] [] (rI pre post ((rvS t b0 j i).1) ((rvS t b0 j i).2.1) ((rvS t b0 j i).2.2.1) ((rvS t b0 j i).2.2.2)) (P) := by
      intro n73
      induction n73 using Nat.strongRecOn with
      | ind n73 ih73 =>
        intro i hm73 hi
        refine me1 (pc' := 74) (L' := [(0, .ref 102), (1, ii (n : Int)), (2, ii ((b0 : Nat) : Int)), (3, ii ((b0 + i : Nat) : Int)), (4, ii ((b0 + j - 1 - i : Nat) : Int))]) (S' := [ii ((b0 + i : Nat) : Int)]) dm_X12_listWorth_73 rfl rfl rfl rfl ?_
        refine me1 (pc' := 76) (L' := [(0, .ref 102), (1, ii (n : Int)), (2, ii ((b0 : Nat) : Int)), (3, ii ((b0 + i : Nat) : Int)), (4, ii ((b0 + j - 1 - i : Nat) : Int))]) (S' := [ii ((b0 + j - 1 - i : Nat) : Int), ii ((b0 + i : Nat) : Int)]) dm_X12_listWorth_74 rfl rfl rfl rfl ?_
        refine y_2ge (a := ((b0 + i : Nat) : Int)) (b := ((b0 + j - 1 - i : Nat) : Int)) (t := 118) (pc' := 79) dm_X12_listWorth_76 rfl rfl (by omega) (fun hb2 => ?_) (fun hb2 => ?_)
        · refine pg_cast (h2 := rI pre post ((rvS t b0 j j).1) ((rvS t b0 j j).2.1) ((rvS t b0 j j).2.2.1) ((rvS t b0 j j).2.2.2)) (by rw [rvS_e hi (by omega)]) ?_
          refine me1 (pc' := 119) (L' := [(0, .ref 102), (1, ii (n : Int)), (2, ii ((b0 : Nat) : Int)), (3, ii ((b0 + i : Nat) : Int)), (4, ii ((b0 + j - 1 - i : Nat) : Int))]) (S' := [.ref 102]) dm_X12_listWorth_118 rfl rfl rfl rfl ?_
          refine me1 (pc' := 120) (L' := [(0, .ref 102), (1, ii (n : Int)), (2, ii ((b0 : Nat) : Int)), (3, ii ((b0 + i : Nat) : Int)), (4, ii ((b0 + j - 1 - i : Nat) : Int))]) (S' := [ii ((b0 : Nat) : Int), .ref 102]) dm_X12_listWorth_119 rfl rfl rfl rfl ?_
          refine me1 (pc' := 121) (L' := [(0, .ref 102), (1, ii (n : Int)), (2, ii ((b0 : Nat) : Int)), (3, ii ((b0 + i : Nat) : Int)), (4, ii ((b0 + j - 1 - i : Nat) : Int))]) (S' := [.ref 102, ii ((b0 : Nat) : Int), .ref 102]) dm_X12_listWorth_120 rfl rfl rfl rfl ?_
          refine me3 (pc' := 124) (S' := [.ref (102 + 22), ii ((b0 : Nat) : Int), .ref 102]) dm_X12_listWorth_121 (q_getr hm rfl (fun m i l => rg_47 m i l)) rfl rfl rfl ?_
          refine me1 (pc' := 125) (L' := [(0, .ref 102), (1, ii (n : Int)), (2, ii ((b0 : Nat) : Int)), (3, ii ((b0 + i : Nat) : Int)), (4, ii ((b0 + j - 1 - i : Nat) : Int))]) (S' := [ii (n : Int), .ref (102 + 22), ii ((b0 : Nat) : Int), .ref 102]) dm_X12_listWorth_124 rfl rfl rfl rfl ?_
          refine me3 (pc' := 126) (S' := [ii ((((rvS t b0 j j).2.2.1) 47) n), ii ((b0 : Nat) : Int), .ref 102]) dm_X12_listWorth_125 (q_iald (v := (((rvS t b0 j j).2.2.1) 47) n) (k := 47) (n := 84000) hm (fun m i l I J => rc_47 m i l I J) (by omega) (by omega) (by decide) rfl) rfl rfl rfl ?_
          refine x_cv (pc' := 129) (rest := []) dm_X12_listWorth_126 rfl (q_inv (As := [ii ((b0 : Nat) : Int), ii ((((rvS t b0 j j).2.2.1) 47) n)]) (S := []) hm rfl rfl rfl) rfl rfl rfl (hc) ?_
          rintro x1 g1 f1
          obtain ⟨t1, z1, rfl, rfl, hE1, hZ1, hQ1⟩ := f1
          refine y_ret (r := some (ii z1)) dm_X12_listWorth_129 rfl rfl rfl ?_
          exact k _ _ hQ1
        · refine me1 (pc' := 80) (L' := [(0, .ref 102), (1, ii (n : Int)), (2, ii ((b0 : Nat) : Int)), (3, ii ((b0 + i : Nat) : Int)), (4, ii ((b0 + j - 1 - i : Nat) : Int))]) (S' := [.ref 102]) dm_X12_listWorth_79 rfl rfl rfl rfl ?_
          refine me3 (pc' := 83) (S' := [.ref (102 + 4)]) dm_X12_listWorth_80 (q_getr hm rfl (fun m i l => rg_12 m i l)) rfl rfl rfl ?_
          refine me1 (pc' := 84) (L' := [(0, .ref 102), (1, ii (n : Int)), (2, ii ((b0 : Nat) : Int)), (3, ii ((b0 + i : Nat) : Int)), (4, ii ((b0 + j - 1 - i : Nat) : Int))]) (S' := [ii ((b0 + i : Nat) : Int), .ref (102 + 4)]) dm_X12_listWorth_83 rfl rfl rfl rfl ?_
          refine me3 (pc' := 85) (S' := [ii ((((rvS t b0 j i).2.2.1) 12) (b0 + i))]) dm_X12_listWorth_84 (q_iald (v := (((rvS t b0 j i).2.2.1) 12) (b0 + i)) (k := 12) (n := 8192) hm (fun m i l I J => rc_12 m i l I J) (by omega) (by omega) (by decide) rfl) rfl rfl rfl ?_
          refine me1 (pc' := 87) (L' := [(5, ii ((((rvS t b0 j i).2.2.1) 12) (b0 + i))), (0, .ref 102), (1, ii (n : Int)), (2, ii ((b0 : Nat) : Int)), (3, ii ((b0 + i : Nat) : Int)), (4, ii ((b0 + j - 1 - i : Nat) : Int))]) (S' := []) dm_X12_listWorth_85 rfl rfl rfl rfl ?_
          refine me1 (pc' := 88) (L' := [(5, ii ((((rvS t b0 j i).2.2.1) 12) (b0 + i))), (0, .ref 102), (1, ii (n : Int)), (2, ii ((b0 : Nat) : Int)), (3, ii ((b0 + i : Nat) : Int)), (4, ii ((b0 + j - 1 - i : Nat) : Int))]) (S' := [.ref 102]) dm_X12_listWorth_87 rfl rfl rfl rfl ?_
          refine me3 (pc' := 91) (S' := [.ref (102 + 4)]) dm_X12_listWorth_88 (q_getr hm rfl (fun m i l => rg_12 m i l)) rfl rfl rfl ?_
          refine me1 (pc' := 92) (L' := [(5, ii ((((rvS t b0 j i).2.2.1) 12) (b0 + i))), (0, .ref 102), (1, ii (n : Int)), (2, ii ((b0 : Nat) : Int)), (3, ii ((b0 + i : Nat) : Int)), (4, ii ((b0 + j - 1 - i : Nat) : Int))]) (S' := [ii ((b0 + i : Nat) : Int), .ref (102 + 4)]) dm_X12_listWorth_91 rfl rfl rfl rfl ?_
          refine me1 (pc' := 93) (L' := [(5, ii ((((rvS t b0 j i).2.2.1) 12) (b0 + i))), (0, .ref 102), (1, ii (n : Int)), (2, ii ((b0 : Nat) : Int)), (3, ii ((b0 + i : Nat) : Int)), (4, ii ((b0 + j - 1 - i : Nat) : Int))]) (S' := [.ref 102, ii ((b0 + i : Nat) : Int), .ref (102 + 4)]) dm_X12_listWorth_92 rfl rfl rfl rfl ?_
          refine me3 (pc' := 96) (S' := [.ref (102 + 4), ii ((b0 + i : Nat) : Int), .ref (102 + 4)]) dm_X12_listWorth_93 (q_getr hm rfl (fun m i l => rg_12 m i l)) rfl rfl rfl ?_
          refine me1 (pc' := 98) (L' := [(5, ii ((((rvS t b0 j i).2.2.1) 12) (b0 + i))), (0, .ref 102), (1, ii (n : Int)), (2, ii ((b0 : Nat) : Int)), (3, ii ((b0 + i : Nat) : Int)), (4, ii ((b0 + j - 1 - i : Nat) : Int))]) (S' := [ii ((b0 + j - 1 - i : Nat) : Int), .ref (102 + 4), ii ((b0 + i : Nat) : Int), .ref (102 + 4)]) dm_X12_listWorth_96 rfl rfl rfl rfl ?_
          refine me3 (pc' := 99) (S' := [ii ((((rvS t b0 j i).2.2.1) 12) (b0 + j - 1 - i)), ii ((b0 + i : Nat) : Int), .ref (102 + 4)]) dm_X12_listWorth_98 (q_iald (v := (((rvS t b0 j i).2.2.1) 12) (b0 + j - 1 - i)) (k := 12) (n := 8192) hm (fun m i l I J => rc_12 m i l I J) (by omega) (by omega) (by decide) rfl) rfl rfl rfl ?_
          refine me3 (pc' := 100) (S' := []) (h1 := rI pre post ((rvS t b0 j i).1) ((rvS t b0 j i).2.1) (va_up ((rvS t b0 j i).2.2.1) 12 (va_up (((rvS t b0 j i).2.2.1) 12) (b0 + i) ((((rvS t b0 j i).2.2.1) 12) (b0 + j - 1 - i)))) ((rvS t b0 j i).2.2.2)) dm_X12_listWorth_99 (q_iast (j := ((b0 + i : Nat) : Int)) (k := 12) (n := 8192) hm (fun m i l I J => rc_12 m i l I J) (fun m i l I J f => rs_12 m i l I J f) (by omega) (by omega) (by decide)) rfl rfl rfl ?_
          refine me1 (pc' := 101) (L' := [(5, ii ((((rvS t b0 j i).2.2.1) 12) (b0 + i))), (0, .ref 102), (1, ii (n : Int)), (2, ii ((b0 : Nat) : Int)), (3, ii ((b0 + i : Nat) : Int)), (4, ii ((b0 + j - 1 - i : Nat) : Int))]) (S' := [.ref 102]) dm_X12_listWorth_100 rfl rfl rfl rfl ?_
          refine me3 (pc' := 104) (S' := [.ref (102 + 4)]) dm_X12_listWorth_101 (q_getr hm rfl (fun m i l => rg_12 m i l)) rfl rfl rfl ?_
          refine me1 (pc' := 106) (L' := [(5, ii ((((rvS t b0 j i).2.2.1) 12) (b0 + i))), (0, .ref 102), (1, ii (n : Int)), (2, ii ((b0 : Nat) : Int)), (3, ii ((b0 + i : Nat) : Int)), (4, ii ((b0 + j - 1 - i : Nat) : Int))]) (S' := [ii ((b0 + j - 1 - i : Nat) : Int), .ref (102 + 4)]) dm_X12_listWorth_104 rfl rfl rfl rfl ?_
          refine me1 (pc' := 108) (L' := [(5, ii ((((rvS t b0 j i).2.2.1) 12) (b0 + i))), (0, .ref 102), (1, ii (n : Int)), (2, ii ((b0 : Nat) : Int)), (3, ii ((b0 + i : Nat) : Int)), (4, ii ((b0 + j - 1 - i : Nat) : Int))]) (S' := [ii ((((rvS t b0 j i).2.2.1) 12) (b0 + i)), ii ((b0 + j - 1 - i : Nat) : Int), .ref (102 + 4)]) dm_X12_listWorth_106 rfl rfl rfl rfl ?_
          refine me3 (pc' := 109) (S' := []) (h1 := rI pre post ((rvS t b0 j i).1) ((rvS t b0 j i).2.1) (va_up (va_up ((rvS t b0 j i).2.2.1) 12 (va_up (((rvS t b0 j i).2.2.1) 12) (b0 + i) ((((rvS t b0 j i).2.2.1) 12) (b0 + j - 1 - i)))) 12 (va_up (va_up (((rvS t b0 j i).2.2.1) 12) (b0 + i) ((((rvS t b0 j i).2.2.1) 12) (b0 + j - 1 - i))) (b0 + j - 1 - i) ((((rvS t b0 j i).2.2.1) 12) (b0 + i)))) ((rvS t b0 j i).2.2.2)) dm_X12_listWorth_108 (q_iast (j := ((b0 + j - 1 - i : Nat) : Int)) (k := 12) (n := 8192) hm (fun m i l I J => rc_12 m i l I J) (fun m i l I J f => rs_12 m i l I J f) (by omega) (by omega) (by decide)) rfl rfl rfl ?_
          refine pg_cast (h2 := rI pre post ((rvS t b0 j (i + 1)).1) ((rvS t b0 j (i + 1)).2.1) ((rvS t b0 j (i + 1)).2.2.1) ((rvS t b0 j (i + 1)).2.2.2)) (by first | exact rvS_s (by omega) | exact (congrArg (rS pre post) (rvS_s (by omega)))) ?_
          refine y_iinc (pc' := 112) (L' := [(3, ii (((b0 + i : Nat) : Int) + 1)), (5, ii ((((rvS t b0 j i).2.2.1) 12) (b0 + i))), (0, .ref 102), (1, ii (n : Int)), (2, ii ((b0 : Nat) : Int)), (4, ii ((b0 + j - 1 - i : Nat) : Int))]) dm_X12_listWorth_109 (y_incp (a := ((b0 + i : Nat) : Int)) (c := 1) rfl rfl (by decide)) rfl ?_
          refine y_iinc (pc' := 115) (L' := [(4, ii (((b0 + j - 1 - i : Nat) : Int) + (-1))), (3, ii (((b0 + i : Nat) : Int) + 1)), (5, ii ((((rvS t b0 j i).2.2.1) 12) (b0 + i))), (0, .ref 102), (1, ii (n : Int)), (2, ii ((b0 : Nat) : Int))]) dm_X12_listWorth_112 (y_incp (a := ((b0 + j - 1 - i : Nat) : Int)) (c := (-1)) rfl rfl (by decide)) rfl ?_
          refine pg_sub (L := [(0, .ref 102), (1, ii (n : Int)), (2, ii ((b0 : Nat) : Int)), (3, ii (((b0 + i : Nat) : Int) + 1)), (4, ii (((b0 + j - 1 - i : Nat) : Int) + (-1)))]) rfl rfl rfl ?_
          refine pg_loc (L2 := [(0, .ref 102), (1, ii (n : Int)), (2, ii ((b0 : Nat) : Int)), (3, ii ((b0 + (i + 1) : Nat) : Int)), (4, ii ((b0 + j - 1 - (i + 1) : Nat) : Int))]) (by rw [show ((b0 + i : Nat) : Int) + 1 = ((b0 + (i + 1) : Nat) : Int) by omega, show ((b0 + j - 1 - i : Nat) : Int) + (-1) = ((b0 + j - 1 - (i + 1) : Nat) : Int) by omega]) ?_
          refine me2 (pc' := 73) (S' := []) dm_X12_listWorth_115 rfl rfl rfl ?_
          exact pg_sub (L := [(0, .ref 102), (1, ii (n : Int)), (2, ii ((b0 : Nat) : Int)), (3, ii ((b0 + (i + 1) : Nat) : Int)), (4, ii ((b0 + j - 1 - (i + 1) : Nat) : Int))]) rfl rfl rfl (ih73 (j - (i + 1)) (by omega) (i + 1) rfl (by omega))
    refine pg_cast (h2 := rI pre post ((rvS t b0 j 0).1) ((rvS t b0 j 0).2.1) ((rvS t b0 j 0).2.2.1) ((rvS t b0 j 0).2.2.2)) (by rw [rvS_0]) ?_
    exact pg_sub (L := [(0, .ref 102), (1, ii (n : Int)), (2, ii ((b0 : Nat) : Int)), (3, ii ((b0 + 0 : Nat) : Int)), (4, ii ((b0 + j - 1 - 0 : Nat) : Int))]) rfl rfl rfl (lp73 _ 0 rfl (by omega))
  · refine me1 (pc' := 38) (L' := [(0, .ref 102), (1, ii (n : Int)), (2, ii ((b0 : Nat) : Int)), (3, ii x)]) (S' := [.ref 102]) dm_X12_listWorth_37 rfl rfl rfl rfl ?_
    refine me3 (pc' := 41) (S' := [ii (t.1 5)]) dm_X12_listWorth_38 (q_geti (v := t.1 5) hm rfl (fun m i l => rg_5 m i l) rfl) rfl rfl rfl ?_
    refine y_1ne (a := t.1 5) (t := 63) (pc' := 44) dm_X12_listWorth_41 rfl rfl (by omega) (fun hb3 => ?_) (fun hb3 => ?_)
    · refine me1 (pc' := 64) (L' := [(0, .ref 102), (1, ii (n : Int)), (2, ii ((b0 : Nat) : Int)), (3, ii x)]) (S' := [ii ((b0 : Nat) : Int)]) dm_X12_listWorth_63 rfl rfl rfl rfl ?_
      refine me1 (pc' := 65) (L' := [(3, ii ((b0 : Nat) : Int)), (0, .ref 102), (1, ii (n : Int)), (2, ii ((b0 : Nat) : Int))]) (S' := []) dm_X12_listWorth_64 rfl rfl rfl rfl ?_
      refine me1 (pc' := 66) (L' := [(3, ii ((b0 : Nat) : Int)), (0, .ref 102), (1, ii (n : Int)), (2, ii ((b0 : Nat) : Int))]) (S' := [.ref 102]) dm_X12_listWorth_65 rfl rfl rfl rfl ?_
      refine me3 (pc' := 69) (S' := [ii (t.1 13)]) dm_X12_listWorth_66 (q_geti (v := t.1 13) hm rfl (fun m i l => rg_13 m i l) rfl) rfl rfl rfl ?_
      refine me0 (pc' := 70) (S' := [ii 1, ii (t.1 13)]) dm_X12_listWorth_69 rfl rfl rfl rfl ?_
      refine y_isub (a := t.1 13) (b := 1) dm_X12_listWorth_70 (pc' := 71) rfl ?_
      refine pg_st (S' := [ii ((b0 + j - 1 - 0 : Nat) : Int)]) (congrArg (fun z => ii z :: []) (by omega)) ?_
      refine me1 (pc' := 73) (L' := [(4, ii ((b0 + j - 1 - 0 : Nat) : Int)), (3, ii ((b0 : Nat) : Int)), (0, .ref 102), (1, ii (n : Int)), (2, ii ((b0 : Nat) : Int))]) (S' := []) dm_X12_listWorth_71 rfl rfl rfl rfl ?_
      have lp73 : ∀ (n73 : Nat) (i : Nat), j - i = n73 → (2 * i ≤ j) → pgE xt d 12 6 false (Option.some Jvm.ClassFile.FieldType.int) (mj_dec prog_14_method_107_code) 73 [(0, .ref 102), (1, ii (n : Int)), (2, ii ((b0 : Nat) : Int)), (3, ii ((b0 + i : Nat) : Int)), (4, ii ((b0 + j - 1 - i : Nat) : Int))] [] (rI pre post ((rvS t b0 j i).1) ((rvS t b0 j i).2.1) ((rvS t b0 j i).2.2.1) ((rvS t b0 j i).2.2.2)) (P) := by
        intro n73
        induction n73 using Nat.strongRecOn with
        | ind n73 ih73 =>
          intro i hm73 hi
          refine me1 (pc' := 74) (L' := [(0, .ref 102), (1, ii (n : Int)), (2, ii ((b0 : Nat) : Int)), (3, ii ((b0 + i : Nat) : Int)), (4, ii ((b0 + j - 1 - i : Nat) : Int))]) (S' := [ii ((b0 + i : Nat) : Int)]) dm_X12_listWorth_73 rfl rfl rfl rfl ?_
          refine me1 (pc' := 76) (L' := [(0, .ref 102), (1, ii (n : Int)), (2, ii ((b0 : Nat) : Int)), (3, ii ((b0 + i : Nat) : Int)), (4, ii ((b0 + j - 1 - i : Nat) : Int))]) (S' := [ii ((b0 + j - 1 - i : Nat) : Int), ii ((b0 + i : Nat) : Int)]) dm_X12_listWorth_74 rfl rfl rfl rfl ?_
          refine y_2ge (a := ((b0 + i : Nat) : Int)) (b := ((b0 + j - 1 - i : Nat) : Int)) (t := 118) (pc' := 79) dm_X12_listWorth_76 rfl rfl (by omega) (fun hb4 => ?_) (fun hb4 => ?_)
          · refine pg_cast (h2 := rI pre post ((rvS t b0 j j).1) ((rvS t b0 j j).2.1) ((rvS t b0 j j).2.2.1) ((rvS t b0 j j).2.2.2)) (by rw [rvS_e hi (by omega)]) ?_
            refine me1 (pc' := 119) (L' := [(0, .ref 102), (1, ii (n : Int)), (2, ii ((b0 : Nat) : Int)), (3, ii ((b0 + i : Nat) : Int)), (4, ii ((b0 + j - 1 - i : Nat) : Int))]) (S' := [.ref 102]) dm_X12_listWorth_118 rfl rfl rfl rfl ?_
            refine me1 (pc' := 120) (L' := [(0, .ref 102), (1, ii (n : Int)), (2, ii ((b0 : Nat) : Int)), (3, ii ((b0 + i : Nat) : Int)), (4, ii ((b0 + j - 1 - i : Nat) : Int))]) (S' := [ii ((b0 : Nat) : Int), .ref 102]) dm_X12_listWorth_119 rfl rfl rfl rfl ?_
            refine me1 (pc' := 121) (L' := [(0, .ref 102), (1, ii (n : Int)), (2, ii ((b0 : Nat) : Int)), (3, ii ((b0 + i : Nat) : Int)), (4, ii ((b0 + j - 1 - i : Nat) : Int))]) (S' := [.ref 102, ii ((b0 : Nat) : Int), .ref 102]) dm_X12_listWorth_120 rfl rfl rfl rfl ?_
            refine me3 (pc' := 124) (S' := [.ref (102 + 22), ii ((b0 : Nat) : Int), .ref 102]) dm_X12_listWorth_121 (q_getr hm rfl (fun m i l => rg_47 m i l)) rfl rfl rfl ?_
            refine me1 (pc' := 125) (L' := [(0, .ref 102), (1, ii (n : Int)), (2, ii ((b0 : Nat) : Int)), (3, ii ((b0 + i : Nat) : Int)), (4, ii ((b0 + j - 1 - i : Nat) : Int))]) (S' := [ii (n : Int), .ref (102 + 22), ii ((b0 : Nat) : Int), .ref 102]) dm_X12_listWorth_124 rfl rfl rfl rfl ?_
            refine me3 (pc' := 126) (S' := [ii ((((rvS t b0 j j).2.2.1) 47) n), ii ((b0 : Nat) : Int), .ref 102]) dm_X12_listWorth_125 (q_iald (v := (((rvS t b0 j j).2.2.1) 47) n) (k := 47) (n := 84000) hm (fun m i l I J => rc_47 m i l I J) (by omega) (by omega) (by decide) rfl) rfl rfl rfl ?_
            refine x_cv (pc' := 129) (rest := []) dm_X12_listWorth_126 rfl (q_inv (As := [ii ((b0 : Nat) : Int), ii ((((rvS t b0 j j).2.2.1) 47) n)]) (S := []) hm rfl rfl rfl) rfl rfl rfl (hc) ?_
            rintro x1 g1 f1
            obtain ⟨t1, z1, rfl, rfl, hE1, hZ1, hQ1⟩ := f1
            refine y_ret (r := some (ii z1)) dm_X12_listWorth_129 rfl rfl rfl ?_
            exact k _ _ hQ1
          · refine me1 (pc' := 80) (L' := [(0, .ref 102), (1, ii (n : Int)), (2, ii ((b0 : Nat) : Int)), (3, ii ((b0 + i : Nat) : Int)), (4, ii ((b0 + j - 1 - i : Nat) : Int))]) (S' := [.ref 102]) dm_X12_listWorth_79 rfl rfl rfl rfl ?_
            refine me3 (pc' := 83) (S' := [.ref (102 + 4)]) dm_X12_listWorth_80 (q_getr hm rfl (fun m i l => rg_12 m i l)) rfl rfl rfl ?_
            refine me1 (pc' := 84) (L' := [(0, .ref 102), (1, ii (n : Int)), (2, ii ((b0 : Nat) : Int)), (3, ii ((b0 + i : Nat) : Int)), (4, ii ((b0 + j - 1 - i : Nat) : Int))]) (S' := [ii ((b0 + i : Nat) : Int), .ref (102 + 4)]) dm_X12_listWorth_83 rfl rfl rfl rfl ?_
            refine me3 (pc' := 85) (S' := [ii ((((rvS t b0 j i).2.2.1) 12) (b0 + i))]) dm_X12_listWorth_84 (q_iald (v := (((rvS t b0 j i).2.2.1) 12) (b0 + i)) (k := 12) (n := 8192) hm (fun m i l I J => rc_12 m i l I J) (by omega) (by omega) (by decide) rfl) rfl rfl rfl ?_
            refine me1 (pc' := 87) (L' := [(5, ii ((((rvS t b0 j i).2.2.1) 12) (b0 + i))), (0, .ref 102), (1, ii (n : Int)), (2, ii ((b0 : Nat) : Int)), (3, ii ((b0 + i : Nat) : Int)), (4, ii ((b0 + j - 1 - i : Nat) : Int))]) (S' := []) dm_X12_listWorth_85 rfl rfl rfl rfl ?_
            refine me1 (pc' := 88) (L' := [(5, ii ((((rvS t b0 j i).2.2.1) 12) (b0 + i))), (0, .ref 102), (1, ii (n : Int)), (2, ii ((b0 : Nat) : Int)), (3, ii ((b0 + i : Nat) : Int)), (4, ii ((b0 + j - 1 - i : Nat) : Int))]) (S' := [.ref 102]) dm_X12_listWorth_87 rfl rfl rfl rfl ?_
            refine me3 (pc' := 91) (S' := [.ref (102 + 4)]) dm_X12_listWorth_88 (q_getr hm rfl (fun m i l => rg_12 m i l)) rfl rfl rfl ?_
            refine me1 (pc' := 92) (L' := [(5, ii ((((rvS t b0 j i).2.2.1) 12) (b0 + i))), (0, .ref 102), (1, ii (n : Int)), (2, ii ((b0 : Nat) : Int)), (3, ii ((b0 + i : Nat) : Int)), (4, ii ((b0 + j - 1 - i : Nat) : Int))]) (S' := [ii ((b0 + i : Nat) : Int), .ref (102 + 4)]) dm_X12_listWorth_91 rfl rfl rfl rfl ?_
            refine me1 (pc' := 93) (L' := [(5, ii ((((rvS t b0 j i).2.2.1) 12) (b0 + i))), (0, .ref 102), (1, ii (n : Int)), (2, ii ((b0 : Nat) : Int)), (3, ii ((b0 + i : Nat) : Int)), (4, ii ((b0 + j - 1 - i : Nat) : Int))]) (S' := [.ref 102, ii ((b0 + i : Nat) : Int), .ref (102 + 4)]) dm_X12_listWorth_92 rfl rfl rfl rfl ?_
            refine me3 (pc' := 96) (S' := [.ref (102 + 4), ii ((b0 + i : Nat) : Int), .ref (102 + 4)]) dm_X12_listWorth_93 (q_getr hm rfl (fun m i l => rg_12 m i l)) rfl rfl rfl ?_
            refine me1 (pc' := 98) (L' := [(5, ii ((((rvS t b0 j i).2.2.1) 12) (b0 + i))), (0, .ref 102), (1, ii (n : Int)), (2, ii ((b0 : Nat) : Int)), (3, ii ((b0 + i : Nat) : Int)), (4, ii ((b0 + j - 1 - i : Nat) : Int))]) (S' := [ii ((b0 + j - 1 - i : Nat) : Int), .ref (102 + 4), ii ((b0 + i : Nat) : Int), .ref (102 + 4)]) dm_X12_listWorth_96 rfl rfl rfl rfl ?_
            refine me3 (pc' := 99) (S' := [ii ((((rvS t b0 j i).2.2.1) 12) (b0 + j - 1 - i)), ii ((b0 + i : Nat) : Int), .ref (102 + 4)]) dm_X12_listWorth_98 (q_iald (v := (((rvS t b0 j i).2.2.1) 12) (b0 + j - 1 - i)) (k := 12) (n := 8192) hm (fun m i l I J => rc_12 m i l I J) (by omega) (by omega) (by decide) rfl) rfl rfl rfl ?_
            refine me3 (pc' := 100) (S' := []) (h1 := rI pre post ((rvS t b0 j i).1) ((rvS t b0 j i).2.1) (va_up ((rvS t b0 j i).2.2.1) 12 (va_up (((rvS t b0 j i).2.2.1) 12) (b0 + i) ((((rvS t b0 j i).2.2.1) 12) (b0 + j - 1 - i)))) ((rvS t b0 j i).2.2.2)) dm_X12_listWorth_99 (q_iast (j := ((b0 + i : Nat) : Int)) (k := 12) (n := 8192) hm (fun m i l I J => rc_12 m i l I J) (fun m i l I J f => rs_12 m i l I J f) (by omega) (by omega) (by decide)) rfl rfl rfl ?_
            refine me1 (pc' := 101) (L' := [(5, ii ((((rvS t b0 j i).2.2.1) 12) (b0 + i))), (0, .ref 102), (1, ii (n : Int)), (2, ii ((b0 : Nat) : Int)), (3, ii ((b0 + i : Nat) : Int)), (4, ii ((b0 + j - 1 - i : Nat) : Int))]) (S' := [.ref 102]) dm_X12_listWorth_100 rfl rfl rfl rfl ?_
            refine me3 (pc' := 104) (S' := [.ref (102 + 4)]) dm_X12_listWorth_101 (q_getr hm rfl (fun m i l => rg_12 m i l)) rfl rfl rfl ?_
            refine me1 (pc' := 106) (L' := [(5, ii ((((rvS t b0 j i).2.2.1) 12) (b0 + i))), (0, .ref 102), (1, ii (n : Int)), (2, ii ((b0 : Nat) : Int)), (3, ii ((b0 + i : Nat) : Int)), (4, ii ((b0 + j - 1 - i : Nat) : Int))]) (S' := [ii ((b0 + j - 1 - i : Nat) : Int), .ref (102 + 4)]) dm_X12_listWorth_104 rfl rfl rfl rfl ?_
            refine me1 (pc' := 108) (L' := [(5, ii ((((rvS t b0 j i).2.2.1) 12) (b0 + i))), (0, .ref 102), (1, ii (n : Int)), (2, ii ((b0 : Nat) : Int)), (3, ii ((b0 + i : Nat) : Int)), (4, ii ((b0 + j - 1 - i : Nat) : Int))]) (S' := [ii ((((rvS t b0 j i).2.2.1) 12) (b0 + i)), ii ((b0 + j - 1 - i : Nat) : Int), .ref (102 + 4)]) dm_X12_listWorth_106 rfl rfl rfl rfl ?_
            refine me3 (pc' := 109) (S' := []) (h1 := rI pre post ((rvS t b0 j i).1) ((rvS t b0 j i).2.1) (va_up (va_up ((rvS t b0 j i).2.2.1) 12 (va_up (((rvS t b0 j i).2.2.1) 12) (b0 + i) ((((rvS t b0 j i).2.2.1) 12) (b0 + j - 1 - i)))) 12 (va_up (va_up (((rvS t b0 j i).2.2.1) 12) (b0 + i) ((((rvS t b0 j i).2.2.1) 12) (b0 + j - 1 - i))) (b0 + j - 1 - i) ((((rvS t b0 j i).2.2.1) 12) (b0 + i)))) ((rvS t b0 j i).2.2.2)) dm_X12_listWorth_108 (q_iast (j := ((b0 + j - 1 - i : Nat) : Int)) (k := 12) (n := 8192) hm (fun m i l I J => rc_12 m i l I J) (fun m i l I J f => rs_12 m i l I J f) (by omega) (by omega) (by decide)) rfl rfl rfl ?_
            refine pg_cast (h2 := rI pre post ((rvS t b0 j (i + 1)).1) ((rvS t b0 j (i + 1)).2.1) ((rvS t b0 j (i + 1)).2.2.1) ((rvS t b0 j (i + 1)).2.2.2)) (by first | exact rvS_s (by omega) | exact (congrArg (rS pre post) (rvS_s (by omega)))) ?_
            refine y_iinc (pc' := 112) (L' := [(3, ii (((b0 + i : Nat) : Int) + 1)), (5, ii ((((rvS t b0 j i).2.2.1) 12) (b0 + i))), (0, .ref 102), (1, ii (n : Int)), (2, ii ((b0 : Nat) : Int)), (4, ii ((b0 + j - 1 - i : Nat) : Int))]) dm_X12_listWorth_109 (y_incp (a := ((b0 + i : Nat) : Int)) (c := 1) rfl rfl (by decide)) rfl ?_
            refine y_iinc (pc' := 115) (L' := [(4, ii (((b0 + j - 1 - i : Nat) : Int) + (-1))), (3, ii (((b0 + i : Nat) : Int) + 1)), (5, ii ((((rvS t b0 j i).2.2.1) 12) (b0 + i))), (0, .ref 102), (1, ii (n : Int)), (2, ii ((b0 : Nat) : Int))]) dm_X12_listWorth_112 (y_incp (a := ((b0 + j - 1 - i : Nat) : Int)) (c := (-1)) rfl rfl (by decide)) rfl ?_
            refine pg_sub (L := [(0, .ref 102), (1, ii (n : Int)), (2, ii ((b0 : Nat) : Int)), (3, ii (((b0 + i : Nat) : Int) + 1)), (4, ii (((b0 + j - 1 - i : Nat) : Int) + (-1)))]) rfl rfl rfl ?_
            refine pg_loc (L2 := [(0, .ref 102), (1, ii (n : Int)), (2, ii ((b0 : Nat) : Int)), (3, ii ((b0 + (i + 1) : Nat) : Int)), (4, ii ((b0 + j - 1 - (i + 1) : Nat) : Int))]) (by rw [show ((b0 + i : Nat) : Int) + 1 = ((b0 + (i + 1) : Nat) : Int) by omega, show ((b0 + j - 1 - i : Nat) : Int) + (-1) = ((b0 + j - 1 - (i + 1) : Nat) : Int) by omega]) ?_
            refine me2 (pc' := 73) (S' := []) dm_X12_listWorth_115 rfl rfl rfl ?_
            exact pg_sub (L := [(0, .ref 102), (1, ii (n : Int)), (2, ii ((b0 : Nat) : Int)), (3, ii ((b0 + (i + 1) : Nat) : Int)), (4, ii ((b0 + j - 1 - (i + 1) : Nat) : Int))]) rfl rfl rfl (ih73 (j - (i + 1)) (by omega) (i + 1) rfl (by omega))
      refine pg_cast (h2 := rI pre post ((rvS t b0 j 0).1) ((rvS t b0 j 0).2.1) ((rvS t b0 j 0).2.2.1) ((rvS t b0 j 0).2.2.2)) (by rw [rvS_0]) ?_
      exact pg_sub (L := [(0, .ref 102), (1, ii (n : Int)), (2, ii ((b0 : Nat) : Int)), (3, ii ((b0 + 0 : Nat) : Int)), (4, ii ((b0 + j - 1 - 0 : Nat) : Int))]) rfl rfl rfl (lp73 _ 0 rfl (by omega))
    · exfalso; omega
set_option maxRecDepth 20000 in
theorem pm_X12_applied : mj_mmof pg_ms 279 = some ((⟨"ArrayCalculatorModel", "applied", "(IIII)I"⟩, prog_14_method_108_code, 9, (Option.some Jvm.ClassFile.FieldType.int)), 12, false, mj_dec prog_14_method_108_code) := rfl
theorem dm_X12_applied_0 : mj_dec prog_14_method_108_code 0 = some (.aload_n 0, 1) := by decide +kernel
theorem dm_X12_applied_1 : mj_dec prog_14_method_108_code 1 = some (.getfield 87, 3) := by decide +kernel
theorem dm_X12_applied_4 : mj_dec prog_14_method_108_code 4 = some (.iload_n 1, 1) := by decide +kernel
theorem dm_X12_applied_5 : mj_dec prog_14_method_108_code 5 = some (.iaload, 1) := by decide +kernel
theorem dm_X12_applied_6 : mj_dec prog_14_method_108_code 6 = some (.istore 5, 2) := by decide +kernel
theorem dm_X12_applied_8 : mj_dec prog_14_method_108_code 8 = some (.iload_n 2, 1) := by decide +kernel
theorem dm_X12_applied_9 : mj_dec prog_14_method_108_code 9 = some (.ifCond .ne 67, 3) := by decide +kernel
theorem dm_X12_applied_12 : mj_dec prog_14_method_108_code 12 = some (.aload_n 0, 1) := by decide +kernel
theorem dm_X12_applied_13 : mj_dec prog_14_method_108_code 13 = some (.getfield 75, 3) := by decide +kernel
theorem dm_X12_applied_16 : mj_dec prog_14_method_108_code 16 = some (.iload_n 1, 1) := by decide +kernel
theorem dm_X12_applied_17 : mj_dec prog_14_method_108_code 17 = some (.iaload, 1) := by decide +kernel
theorem dm_X12_applied_18 : mj_dec prog_14_method_108_code 18 = some (.bipush 7, 2) := by decide +kernel
theorem dm_X12_applied_20 : mj_dec prog_14_method_108_code 20 = some (.if_icmp .ne 19, 3) := by decide +kernel
theorem dm_X12_applied_23 : mj_dec prog_14_method_108_code 23 = some (.aload_n 0, 1) := by decide +kernel
theorem dm_X12_applied_24 : mj_dec prog_14_method_108_code 24 = some (.aload_n 0, 1) := by decide +kernel
theorem dm_X12_applied_25 : mj_dec prog_14_method_108_code 25 = some (.getfield 93, 3) := by decide +kernel
theorem dm_X12_applied_28 : mj_dec prog_14_method_108_code 28 = some (.iload_n 1, 1) := by decide +kernel
theorem dm_X12_applied_29 : mj_dec prog_14_method_108_code 29 = some (.laload, 1) := by decide +kernel
theorem dm_X12_applied_30 : mj_dec prog_14_method_108_code 30 = some (.iload_n 3, 1) := by decide +kernel
theorem dm_X12_applied_31 : mj_dec prog_14_method_108_code 31 = some (.iload 4, 2) := by decide +kernel
theorem dm_X12_applied_33 : mj_dec prog_14_method_108_code 33 = some (.iload 5, 2) := by decide +kernel
theorem dm_X12_applied_35 : mj_dec prog_14_method_108_code 35 = some (.invokevirtual 563, 3) := by decide +kernel
theorem dm_X12_applied_38 : mj_dec prog_14_method_108_code 38 = some (.ireturn, 1) := by decide +kernel
theorem a_call {xt : mj_X} {d : Nat} {pre post : mj_H} {t : RS} (hm : pre.length = 102) (hd1 : 1 ≤ d) {a : Nat} {wz : Int} {Q : RS → Int → Prop} (ha : a < 84000) {lz : Int} (hw : t.2.2.1 43 a = 7) (hc : pgV xt (d - 1) 280 [.ref 102, .long (t.2.2.2 49 a), ii lz, ii wz, ii (t.2.2.1 47 a)] (rS pre post t) (RA pre post Q)) : pgV xt d 279 [.ref 102, ii (a : Int), ii 0, ii lz, ii wz] (rS pre post t) (RA pre post Q) := by
  refine x_enter pm_X12_applied (L0 := [(0, .ref 102), (1, ii (a : Int)), (2, ii 0), (3, ii lz), (4, ii wz)]) rfl (Nat.le_of_ble_eq_true rfl) (by omega) ?_
  refine me1 (pc' := 1) (L' := [(0, .ref 102), (1, ii (a : Int)), (2, ii 0), (3, ii lz), (4, ii wz)]) (S' := [.ref 102]) dm_X12_applied_0 rfl rfl rfl rfl ?_
  refine me3 (pc' := 4) (S' := [.ref (102 + 22)]) dm_X12_applied_1 (q_getr hm rfl (fun m i l => rg_47 m i l)) rfl rfl rfl ?_
  refine me1 (pc' := 5) (L' := [(0, .ref 102), (1, ii (a : Int)), (2, ii 0), (3, ii lz), (4, ii wz)]) (S' := [ii (a : Int), .ref (102 + 22)]) dm_X12_applied_4 rfl rfl rfl rfl ?_
  refine me3 (pc' := 6) (S' := [ii ((t.2.2.1 47) a)]) dm_X12_applied_5 (q_iald (v := (t.2.2.1 47) a) (k := 47) (n := 84000) hm (fun m i l I J => rc_47 m i l I J) (by omega) (by omega) (by decide) rfl) rfl rfl rfl ?_
  refine me1 (pc' := 8) (L' := [(5, ii ((t.2.2.1 47) a)), (0, .ref 102), (1, ii (a : Int)), (2, ii 0), (3, ii lz), (4, ii wz)]) (S' := []) dm_X12_applied_6 rfl rfl rfl rfl ?_
  refine me1 (pc' := 9) (L' := [(5, ii ((t.2.2.1 47) a)), (0, .ref 102), (1, ii (a : Int)), (2, ii 0), (3, ii lz), (4, ii wz)]) (S' := [ii 0]) dm_X12_applied_8 rfl rfl rfl rfl ?_
  refine me_1f (pc' := 12) dm_X12_applied_9 rfl (by decide) rfl ?_
  refine me1 (pc' := 13) (L' := [(5, ii ((t.2.2.1 47) a)), (0, .ref 102), (1, ii (a : Int)), (2, ii 0), (3, ii lz), (4, ii wz)]) (S' := [.ref 102]) dm_X12_applied_12 rfl rfl rfl rfl ?_
  refine me3 (pc' := 16) (S' := [.ref (102 + 18)]) dm_X12_applied_13 (q_getr hm rfl (fun m i l => rg_43 m i l)) rfl rfl rfl ?_
  refine me1 (pc' := 17) (L' := [(5, ii ((t.2.2.1 47) a)), (0, .ref 102), (1, ii (a : Int)), (2, ii 0), (3, ii lz), (4, ii wz)]) (S' := [ii (a : Int), .ref (102 + 18)]) dm_X12_applied_16 rfl rfl rfl rfl ?_
  refine me3 (pc' := 18) (S' := [ii ((t.2.2.1 43) a)]) dm_X12_applied_17 (q_iald (v := (t.2.2.1 43) a) (k := 43) (n := 84000) hm (fun m i l I J => rc_43 m i l I J) (by omega) (by omega) (by decide) rfl) rfl rfl rfl ?_
  refine me0 (pc' := 20) (S' := [ii 7, ii ((t.2.2.1 43) a)]) dm_X12_applied_18 rfl rfl rfl rfl ?_
  refine y_2ne (a := (t.2.2.1 43) a) (b := 7) (t := 39) (pc' := 23) dm_X12_applied_20 rfl rfl (by omega) (fun hb1 => ?_) (fun hb1 => ?_)
  · exfalso; omega
  · refine me1 (pc' := 24) (L' := [(5, ii ((t.2.2.1 47) a)), (0, .ref 102), (1, ii (a : Int)), (2, ii 0), (3, ii lz), (4, ii wz)]) (S' := [.ref 102]) dm_X12_applied_23 rfl rfl rfl rfl ?_
    refine me1 (pc' := 25) (L' := [(5, ii ((t.2.2.1 47) a)), (0, .ref 102), (1, ii (a : Int)), (2, ii 0), (3, ii lz), (4, ii wz)]) (S' := [.ref 102, .ref 102]) dm_X12_applied_24 rfl rfl rfl rfl ?_
    refine me3 (pc' := 28) (S' := [.ref (102 + 24), .ref 102]) dm_X12_applied_25 (q_getr hm rfl (fun m i l => rg_49 m i l)) rfl rfl rfl ?_
    refine me1 (pc' := 29) (L' := [(5, ii ((t.2.2.1 47) a)), (0, .ref 102), (1, ii (a : Int)), (2, ii 0), (3, ii lz), (4, ii wz)]) (S' := [ii (a : Int), .ref (102 + 24), .ref 102]) dm_X12_applied_28 rfl rfl rfl rfl ?_
    refine me3 (pc' := 30) (S' := [.long ((t.2.2.2 49) a), .ref 102]) dm_X12_applied_29 (q_lald (v := (t.2.2.2 49) a) (k := 49) (n := 84000) hm (fun m i l I J => rc_49 m i l I J) (by omega) (by omega) (by decide) rfl) rfl rfl rfl ?_
    refine me1 (pc' := 31) (L' := [(5, ii ((t.2.2.1 47) a)), (0, .ref 102), (1, ii (a : Int)), (2, ii 0), (3, ii lz), (4, ii wz)]) (S' := [ii lz, .long ((t.2.2.2 49) a), .ref 102]) dm_X12_applied_30 rfl rfl rfl rfl ?_
    refine me1 (pc' := 33) (L' := [(5, ii ((t.2.2.1 47) a)), (0, .ref 102), (1, ii (a : Int)), (2, ii 0), (3, ii lz), (4, ii wz)]) (S' := [ii wz, ii lz, .long ((t.2.2.2 49) a), .ref 102]) dm_X12_applied_31 rfl rfl rfl rfl ?_
    refine me1 (pc' := 35) (L' := [(5, ii ((t.2.2.1 47) a)), (0, .ref 102), (1, ii (a : Int)), (2, ii 0), (3, ii lz), (4, ii wz)]) (S' := [ii ((t.2.2.1 47) a), ii wz, ii lz, .long ((t.2.2.2 49) a), .ref 102]) dm_X12_applied_33 rfl rfl rfl rfl ?_
    refine x_cv (pc' := 38) (rest := []) dm_X12_applied_35 rfl (q_inv (As := [.long ((t.2.2.2 49) a), ii lz, ii wz, ii ((t.2.2.1 47) a)]) (S := []) hm rfl rfl rfl) rfl rfl rfl (hc) ?_
    rintro x1 g1 f1
    obtain ⟨t1, z1, rfl, rfl, hE1, hZ1, hQ1⟩ := f1
    refine y_ret (r := some (ii z1)) dm_X12_applied_38 rfl rfl rfl ?_
    exact ⟨_, rfl, _, _, rfl, rfl, hE1, hZ1, hQ1⟩
theorem dm_X12_applied_39 : mj_dec prog_14_method_108_code 39 = some (.iload_n 3, 1) := by decide +kernel
theorem dm_X12_applied_40 : mj_dec prog_14_method_108_code 40 = some (.ifCond .ge 20, 3) := by decide +kernel
theorem dm_X12_applied_43 : mj_dec prog_14_method_108_code 43 = some (.aload_n 0, 1) := by decide +kernel
theorem dm_X12_applied_44 : mj_dec prog_14_method_108_code 44 = some (.aload_n 0, 1) := by decide +kernel
theorem dm_X12_applied_45 : mj_dec prog_14_method_108_code 45 = some (.getfield 81, 3) := by decide +kernel
theorem dm_X12_applied_48 : mj_dec prog_14_method_108_code 48 = some (.iload_n 1, 1) := by decide +kernel
theorem dm_X12_applied_49 : mj_dec prog_14_method_108_code 49 = some (.iaload, 1) := by decide +kernel
theorem dm_X12_applied_50 : mj_dec prog_14_method_108_code 50 = some (.iload 4, 2) := by decide +kernel
theorem dm_X12_applied_52 : mj_dec prog_14_method_108_code 52 = some (.iload 5, 2) := by decide +kernel
theorem dm_X12_applied_54 : mj_dec prog_14_method_108_code 54 = some (.invokevirtual 567, 3) := by decide +kernel
theorem dm_X12_applied_57 : mj_dec prog_14_method_108_code 57 = some (.goto 18, 3) := by decide +kernel
theorem dm_X12_applied_75 : mj_dec prog_14_method_108_code 75 = some (.ireturn, 1) := by decide +kernel
theorem a_one {xt : mj_X} {d : Nat} {pre post : mj_H} {t : RS} (hm : pre.length = 102) (hd1 : 1 ≤ d) {a : Nat} {wz : Int} {Q : RS → Int → Prop} (ha : a < 84000) (hw : t.2.2.1 43 a = 6) (hc : pgV xt (d - 1) 281 [.ref 102, ii (t.2.2.1 45 a), ii wz, ii (t.2.2.1 47 a)] (rS pre post t) (RA pre post Q)) : pgV xt d 279 [.ref 102, ii (a : Int), ii 0, ii (-1), ii wz] (rS pre post t) (RA pre post Q) := by
  refine x_enter pm_X12_applied (L0 := [(0, .ref 102), (1, ii (a : Int)), (2, ii 0), (3, ii (-1)), (4, ii wz)]) rfl (Nat.le_of_ble_eq_true rfl) (by omega) ?_
  refine me1 (pc' := 1) (L' := [(0, .ref 102), (1, ii (a : Int)), (2, ii 0), (3, ii (-1)), (4, ii wz)]) (S' := [.ref 102]) dm_X12_applied_0 rfl rfl rfl rfl ?_
  refine me3 (pc' := 4) (S' := [.ref (102 + 22)]) dm_X12_applied_1 (q_getr hm rfl (fun m i l => rg_47 m i l)) rfl rfl rfl ?_
  refine me1 (pc' := 5) (L' := [(0, .ref 102), (1, ii (a : Int)), (2, ii 0), (3, ii (-1)), (4, ii wz)]) (S' := [ii (a : Int), .ref (102 + 22)]) dm_X12_applied_4 rfl rfl rfl rfl ?_
  refine me3 (pc' := 6) (S' := [ii ((t.2.2.1 47) a)]) dm_X12_applied_5 (q_iald (v := (t.2.2.1 47) a) (k := 47) (n := 84000) hm (fun m i l I J => rc_47 m i l I J) (by omega) (by omega) (by decide) rfl) rfl rfl rfl ?_
  refine me1 (pc' := 8) (L' := [(5, ii ((t.2.2.1 47) a)), (0, .ref 102), (1, ii (a : Int)), (2, ii 0), (3, ii (-1)), (4, ii wz)]) (S' := []) dm_X12_applied_6 rfl rfl rfl rfl ?_
  refine me1 (pc' := 9) (L' := [(5, ii ((t.2.2.1 47) a)), (0, .ref 102), (1, ii (a : Int)), (2, ii 0), (3, ii (-1)), (4, ii wz)]) (S' := [ii 0]) dm_X12_applied_8 rfl rfl rfl rfl ?_
  refine me_1f (pc' := 12) dm_X12_applied_9 rfl (by decide) rfl ?_
  refine me1 (pc' := 13) (L' := [(5, ii ((t.2.2.1 47) a)), (0, .ref 102), (1, ii (a : Int)), (2, ii 0), (3, ii (-1)), (4, ii wz)]) (S' := [.ref 102]) dm_X12_applied_12 rfl rfl rfl rfl ?_
  refine me3 (pc' := 16) (S' := [.ref (102 + 18)]) dm_X12_applied_13 (q_getr hm rfl (fun m i l => rg_43 m i l)) rfl rfl rfl ?_
  refine me1 (pc' := 17) (L' := [(5, ii ((t.2.2.1 47) a)), (0, .ref 102), (1, ii (a : Int)), (2, ii 0), (3, ii (-1)), (4, ii wz)]) (S' := [ii (a : Int), .ref (102 + 18)]) dm_X12_applied_16 rfl rfl rfl rfl ?_
  refine me3 (pc' := 18) (S' := [ii ((t.2.2.1 43) a)]) dm_X12_applied_17 (q_iald (v := (t.2.2.1 43) a) (k := 43) (n := 84000) hm (fun m i l I J => rc_43 m i l I J) (by omega) (by omega) (by decide) rfl) rfl rfl rfl ?_
  refine me0 (pc' := 20) (S' := [ii 7, ii ((t.2.2.1 43) a)]) dm_X12_applied_18 rfl rfl rfl rfl ?_
  refine y_2ne (a := (t.2.2.1 43) a) (b := 7) (t := 39) (pc' := 23) dm_X12_applied_20 rfl rfl (by omega) (fun hb1 => ?_) (fun hb1 => ?_)
  · refine me1 (pc' := 40) (L' := [(5, ii ((t.2.2.1 47) a)), (0, .ref 102), (1, ii (a : Int)), (2, ii 0), (3, ii (-1)), (4, ii wz)]) (S' := [ii (-1)]) dm_X12_applied_39 rfl rfl rfl rfl ?_
    refine me_1f (pc' := 43) dm_X12_applied_40 rfl (by decide) rfl ?_
    refine me1 (pc' := 44) (L' := [(5, ii ((t.2.2.1 47) a)), (0, .ref 102), (1, ii (a : Int)), (2, ii 0), (3, ii (-1)), (4, ii wz)]) (S' := [.ref 102]) dm_X12_applied_43 rfl rfl rfl rfl ?_
    refine me1 (pc' := 45) (L' := [(5, ii ((t.2.2.1 47) a)), (0, .ref 102), (1, ii (a : Int)), (2, ii 0), (3, ii (-1)), (4, ii wz)]) (S' := [.ref 102, .ref 102]) dm_X12_applied_44 rfl rfl rfl rfl ?_
    refine me3 (pc' := 48) (S' := [.ref (102 + 20), .ref 102]) dm_X12_applied_45 (q_getr hm rfl (fun m i l => rg_45 m i l)) rfl rfl rfl ?_
    refine me1 (pc' := 49) (L' := [(5, ii ((t.2.2.1 47) a)), (0, .ref 102), (1, ii (a : Int)), (2, ii 0), (3, ii (-1)), (4, ii wz)]) (S' := [ii (a : Int), .ref (102 + 20), .ref 102]) dm_X12_applied_48 rfl rfl rfl rfl ?_
    refine me3 (pc' := 50) (S' := [ii ((t.2.2.1 45) a), .ref 102]) dm_X12_applied_49 (q_iald (v := (t.2.2.1 45) a) (k := 45) (n := 84000) hm (fun m i l I J => rc_45 m i l I J) (by omega) (by omega) (by decide) rfl) rfl rfl rfl ?_
    refine me1 (pc' := 52) (L' := [(5, ii ((t.2.2.1 47) a)), (0, .ref 102), (1, ii (a : Int)), (2, ii 0), (3, ii (-1)), (4, ii wz)]) (S' := [ii wz, ii ((t.2.2.1 45) a), .ref 102]) dm_X12_applied_50 rfl rfl rfl rfl ?_
    refine me1 (pc' := 54) (L' := [(5, ii ((t.2.2.1 47) a)), (0, .ref 102), (1, ii (a : Int)), (2, ii 0), (3, ii (-1)), (4, ii wz)]) (S' := [ii ((t.2.2.1 47) a), ii wz, ii ((t.2.2.1 45) a), .ref 102]) dm_X12_applied_52 rfl rfl rfl rfl ?_
    refine x_cv (pc' := 57) (rest := []) dm_X12_applied_54 rfl (q_inv (As := [ii ((t.2.2.1 45) a), ii wz, ii ((t.2.2.1 47) a)]) (S := []) hm rfl rfl rfl) rfl rfl rfl (hc) ?_
    rintro x1 g1 f1
    obtain ⟨t1, z1, rfl, rfl, hE1, hZ1, hQ1⟩ := f1
    refine me2 (pc' := 75) (S' := [ii z1]) dm_X12_applied_57 rfl rfl rfl ?_
    refine y_ret (r := some (ii z1)) dm_X12_applied_75 rfl rfl rfl ?_
    exact ⟨_, rfl, _, _, rfl, rfl, hE1, hZ1, hQ1⟩
  · exfalso; omega
theorem dm_X12_applied_60 : mj_dec prog_14_method_108_code 60 = some (.aload_n 0, 1) := by decide +kernel
theorem dm_X12_applied_61 : mj_dec prog_14_method_108_code 61 = some (.aload_n 0, 1) := by decide +kernel
theorem dm_X12_applied_62 : mj_dec prog_14_method_108_code 62 = some (.getfield 81, 3) := by decide +kernel
theorem dm_X12_applied_65 : mj_dec prog_14_method_108_code 65 = some (.iload_n 1, 1) := by decide +kernel
theorem dm_X12_applied_66 : mj_dec prog_14_method_108_code 66 = some (.iaload, 1) := by decide +kernel
theorem dm_X12_applied_67 : mj_dec prog_14_method_108_code 67 = some (.iload_n 3, 1) := by decide +kernel
theorem dm_X12_applied_68 : mj_dec prog_14_method_108_code 68 = some (.iload 4, 2) := by decide +kernel
theorem dm_X12_applied_70 : mj_dec prog_14_method_108_code 70 = some (.iload 5, 2) := by decide +kernel
theorem dm_X12_applied_72 : mj_dec prog_14_method_108_code 72 = some (.invokevirtual 557, 3) := by decide +kernel
theorem a_two {xt : mj_X} {d : Nat} {pre post : mj_H} {t : RS} (hm : pre.length = 102) (hd1 : 1 ≤ d) {a : Nat} {wz : Int} {Q : RS → Int → Prop} (ha : a < 84000) {lq : Nat} (hw : t.2.2.1 43 a = 6) (hl : lq ≤ 310000) (hc : pgV xt (d - 1) 255 [.ref 102, ii (t.2.2.1 45 a), ii (lq : Int), ii wz, ii (t.2.2.1 47 a)] (rS pre post t) (RA pre post Q)) : pgV xt d 279 [.ref 102, ii (a : Int), ii 0, ii (lq : Int), ii wz] (rS pre post t) (RA pre post Q) := by
  refine x_enter pm_X12_applied (L0 := [(0, .ref 102), (1, ii (a : Int)), (2, ii 0), (3, ii (lq : Int)), (4, ii wz)]) rfl (Nat.le_of_ble_eq_true rfl) (by omega) ?_
  refine me1 (pc' := 1) (L' := [(0, .ref 102), (1, ii (a : Int)), (2, ii 0), (3, ii (lq : Int)), (4, ii wz)]) (S' := [.ref 102]) dm_X12_applied_0 rfl rfl rfl rfl ?_
  refine me3 (pc' := 4) (S' := [.ref (102 + 22)]) dm_X12_applied_1 (q_getr hm rfl (fun m i l => rg_47 m i l)) rfl rfl rfl ?_
  refine me1 (pc' := 5) (L' := [(0, .ref 102), (1, ii (a : Int)), (2, ii 0), (3, ii (lq : Int)), (4, ii wz)]) (S' := [ii (a : Int), .ref (102 + 22)]) dm_X12_applied_4 rfl rfl rfl rfl ?_
  refine me3 (pc' := 6) (S' := [ii ((t.2.2.1 47) a)]) dm_X12_applied_5 (q_iald (v := (t.2.2.1 47) a) (k := 47) (n := 84000) hm (fun m i l I J => rc_47 m i l I J) (by omega) (by omega) (by decide) rfl) rfl rfl rfl ?_
  refine me1 (pc' := 8) (L' := [(5, ii ((t.2.2.1 47) a)), (0, .ref 102), (1, ii (a : Int)), (2, ii 0), (3, ii (lq : Int)), (4, ii wz)]) (S' := []) dm_X12_applied_6 rfl rfl rfl rfl ?_
  refine me1 (pc' := 9) (L' := [(5, ii ((t.2.2.1 47) a)), (0, .ref 102), (1, ii (a : Int)), (2, ii 0), (3, ii (lq : Int)), (4, ii wz)]) (S' := [ii 0]) dm_X12_applied_8 rfl rfl rfl rfl ?_
  refine me_1f (pc' := 12) dm_X12_applied_9 rfl (by decide) rfl ?_
  refine me1 (pc' := 13) (L' := [(5, ii ((t.2.2.1 47) a)), (0, .ref 102), (1, ii (a : Int)), (2, ii 0), (3, ii (lq : Int)), (4, ii wz)]) (S' := [.ref 102]) dm_X12_applied_12 rfl rfl rfl rfl ?_
  refine me3 (pc' := 16) (S' := [.ref (102 + 18)]) dm_X12_applied_13 (q_getr hm rfl (fun m i l => rg_43 m i l)) rfl rfl rfl ?_
  refine me1 (pc' := 17) (L' := [(5, ii ((t.2.2.1 47) a)), (0, .ref 102), (1, ii (a : Int)), (2, ii 0), (3, ii (lq : Int)), (4, ii wz)]) (S' := [ii (a : Int), .ref (102 + 18)]) dm_X12_applied_16 rfl rfl rfl rfl ?_
  refine me3 (pc' := 18) (S' := [ii ((t.2.2.1 43) a)]) dm_X12_applied_17 (q_iald (v := (t.2.2.1 43) a) (k := 43) (n := 84000) hm (fun m i l I J => rc_43 m i l I J) (by omega) (by omega) (by decide) rfl) rfl rfl rfl ?_
  refine me0 (pc' := 20) (S' := [ii 7, ii ((t.2.2.1 43) a)]) dm_X12_applied_18 rfl rfl rfl rfl ?_
  refine y_2ne (a := (t.2.2.1 43) a) (b := 7) (t := 39) (pc' := 23) dm_X12_applied_20 rfl rfl (by omega) (fun hb1 => ?_) (fun hb1 => ?_)
  · refine me1 (pc' := 40) (L' := [(5, ii ((t.2.2.1 47) a)), (0, .ref 102), (1, ii (a : Int)), (2, ii 0), (3, ii (lq : Int)), (4, ii wz)]) (S' := [ii (lq : Int)]) dm_X12_applied_39 rfl rfl rfl rfl ?_
    refine y_1ge (a := (lq : Int)) (t := 60) (pc' := 43) dm_X12_applied_40 rfl rfl (by omega) (fun hb2 => ?_) (fun hb2 => ?_)
    · refine me1 (pc' := 61) (L' := [(5, ii ((t.2.2.1 47) a)), (0, .ref 102), (1, ii (a : Int)), (2, ii 0), (3, ii (lq : Int)), (4, ii wz)]) (S' := [.ref 102]) dm_X12_applied_60 rfl rfl rfl rfl ?_
      refine me1 (pc' := 62) (L' := [(5, ii ((t.2.2.1 47) a)), (0, .ref 102), (1, ii (a : Int)), (2, ii 0), (3, ii (lq : Int)), (4, ii wz)]) (S' := [.ref 102, .ref 102]) dm_X12_applied_61 rfl rfl rfl rfl ?_
      refine me3 (pc' := 65) (S' := [.ref (102 + 20), .ref 102]) dm_X12_applied_62 (q_getr hm rfl (fun m i l => rg_45 m i l)) rfl rfl rfl ?_
      refine me1 (pc' := 66) (L' := [(5, ii ((t.2.2.1 47) a)), (0, .ref 102), (1, ii (a : Int)), (2, ii 0), (3, ii (lq : Int)), (4, ii wz)]) (S' := [ii (a : Int), .ref (102 + 20), .ref 102]) dm_X12_applied_65 rfl rfl rfl rfl ?_
      refine me3 (pc' := 67) (S' := [ii ((t.2.2.1 45) a), .ref 102]) dm_X12_applied_66 (q_iald (v := (t.2.2.1 45) a) (k := 45) (n := 84000) hm (fun m i l I J => rc_45 m i l I J) (by omega) (by omega) (by decide) rfl) rfl rfl rfl ?_
      refine me1 (pc' := 68) (L' := [(5, ii ((t.2.2.1 47) a)), (0, .ref 102), (1, ii (a : Int)), (2, ii 0), (3, ii (lq : Int)), (4, ii wz)]) (S' := [ii (lq : Int), ii ((t.2.2.1 45) a), .ref 102]) dm_X12_applied_67 rfl rfl rfl rfl ?_
      refine me1 (pc' := 70) (L' := [(5, ii ((t.2.2.1 47) a)), (0, .ref 102), (1, ii (a : Int)), (2, ii 0), (3, ii (lq : Int)), (4, ii wz)]) (S' := [ii wz, ii (lq : Int), ii ((t.2.2.1 45) a), .ref 102]) dm_X12_applied_68 rfl rfl rfl rfl ?_
      refine me1 (pc' := 72) (L' := [(5, ii ((t.2.2.1 47) a)), (0, .ref 102), (1, ii (a : Int)), (2, ii 0), (3, ii (lq : Int)), (4, ii wz)]) (S' := [ii ((t.2.2.1 47) a), ii wz, ii (lq : Int), ii ((t.2.2.1 45) a), .ref 102]) dm_X12_applied_70 rfl rfl rfl rfl ?_
      refine x_cv (pc' := 75) (rest := []) dm_X12_applied_72 rfl (q_inv (As := [ii ((t.2.2.1 45) a), ii (lq : Int), ii wz, ii ((t.2.2.1 47) a)]) (S := []) hm rfl rfl rfl) rfl rfl rfl (hc) ?_
      rintro x1 g1 f1
      obtain ⟨t1, z1, rfl, rfl, hE1, hZ1, hQ1⟩ := f1
      refine y_ret (r := some (ii z1)) dm_X12_applied_75 rfl rfl rfl ?_
      exact ⟨_, rfl, _, _, rfl, rfl, hE1, hZ1, hQ1⟩
    · exfalso; omega
  · exfalso; omega
theorem dm_X12_applied_76 : mj_dec prog_14_method_108_code 76 = some (.iconst 0, 1) := by decide +kernel
theorem dm_X12_applied_77 : mj_dec prog_14_method_108_code 77 = some (.istore 6, 2) := by decide +kernel
theorem dm_X12_applied_79 : mj_dec prog_14_method_108_code 79 = some (.iload_n 2, 1) := by decide +kernel
theorem dm_X12_applied_80 : mj_dec prog_14_method_108_code 80 = some (.iconst 2, 1) := by decide +kernel
theorem dm_X12_applied_81 : mj_dec prog_14_method_108_code 81 = some (.iload 6, 2) := by decide +kernel
theorem dm_X12_applied_83 : mj_dec prog_14_method_108_code 83 = some (.imul, 1) := by decide +kernel
theorem dm_X12_applied_84 : mj_dec prog_14_method_108_code 84 = some (.iconst 2, 1) := by decide +kernel
theorem dm_X12_applied_85 : mj_dec prog_14_method_108_code 85 = some (.iadd, 1) := by decide +kernel
theorem dm_X12_applied_86 : mj_dec prog_14_method_108_code 86 = some (.ishr, 1) := by decide +kernel
theorem dm_X12_applied_87 : mj_dec prog_14_method_108_code 87 = some (.ifCond .eq 9, 3) := by decide +kernel
theorem dm_X12_applied_96 : mj_dec prog_14_method_108_code 96 = some (.iload_n 2, 1) := by decide +kernel
theorem dm_X12_applied_97 : mj_dec prog_14_method_108_code 97 = some (.iconst 2, 1) := by decide +kernel
theorem dm_X12_applied_98 : mj_dec prog_14_method_108_code 98 = some (.iload 6, 2) := by decide +kernel
theorem dm_X12_applied_100 : mj_dec prog_14_method_108_code 100 = some (.imul, 1) := by decide +kernel
theorem dm_X12_applied_101 : mj_dec prog_14_method_108_code 101 = some (.ishr, 1) := by decide +kernel
theorem dm_X12_applied_102 : mj_dec prog_14_method_108_code 102 = some (.istore 7, 2) := by decide +kernel
theorem dm_X12_applied_104 : mj_dec prog_14_method_108_code 104 = some (.iload_n 2, 1) := by decide +kernel
theorem dm_X12_applied_105 : mj_dec prog_14_method_108_code 105 = some (.iconst 1, 1) := by decide +kernel
theorem dm_X12_applied_106 : mj_dec prog_14_method_108_code 106 = some (.iconst 2, 1) := by decide +kernel
theorem dm_X12_applied_107 : mj_dec prog_14_method_108_code 107 = some (.iload 6, 2) := by decide +kernel
theorem dm_X12_applied_109 : mj_dec prog_14_method_108_code 109 = some (.imul, 1) := by decide +kernel
theorem dm_X12_applied_110 : mj_dec prog_14_method_108_code 110 = some (.ishl, 1) := by decide +kernel
theorem dm_X12_applied_111 : mj_dec prog_14_method_108_code 111 = some (.iconst 1, 1) := by decide +kernel
theorem dm_X12_applied_112 : mj_dec prog_14_method_108_code 112 = some (.isub, 1) := by decide +kernel
theorem dm_X12_applied_113 : mj_dec prog_14_method_108_code 113 = some (.iand, 1) := by decide +kernel
theorem dm_X12_applied_114 : mj_dec prog_14_method_108_code 114 = some (.istore 8, 2) := by decide +kernel
theorem dm_X12_applied_116 : mj_dec prog_14_method_108_code 116 = some (.aload_n 0, 1) := by decide +kernel
theorem dm_X12_applied_117 : mj_dec prog_14_method_108_code 117 = some (.iconst 3, 1) := by decide +kernel
theorem dm_X12_applied_118 : mj_dec prog_14_method_108_code 118 = some (.iload 5, 2) := by decide +kernel
theorem dm_X12_applied_120 : mj_dec prog_14_method_108_code 120 = some (.invokevirtual 199, 3) := by decide +kernel
theorem dm_X12_applied_123 : mj_dec prog_14_method_108_code 123 = some (.ifCond .ne 5, 3) := by decide +kernel
theorem dm_X12_applied_126 : mj_dec prog_14_method_108_code 126 = some (.iconst (-1), 1) := by decide +kernel
theorem dm_X12_applied_127 : mj_dec prog_14_method_108_code 127 = some (.ireturn, 1) := by decide +kernel
theorem a_no0 {xt : mj_X} {d : Nat} {pre post : mj_H} {t : RS} (hm : pre.length = 102) (hd1 : 1 ≤ d) {a : Nat} {wz : Int} {Q : RS → Int → Prop} (ha : a < 84000) {lo cc lz A : Int} (hA : A = lo + cc * 1) (hlo : 0 ≤ lo ∧ lo < 1) (hcc : 1 ≤ cc ∧ cc ≤ 3) (h5 : t.1 5 = 0) (hca : 0 ≤ t.1 10 ∧ t.1 10 ≤ 100) (h8 : 0 ≤ t.1 8 ∧ t.1 8 ≤ 500000) (hd2 : 3 ≤ d) (hW : t.1 8 < 3) (k : Q (failS t 10 (t.2.2.1 47 a)) (-1)) : pgV xt d 279 [.ref 102, ii (a : Int), ii A, ii lz, ii wz] (rS pre post t) (RA pre post Q) := by
  refine x_enter pm_X12_applied (L0 := [(0, .ref 102), (1, ii (a : Int)), (2, ii A), (3, ii lz), (4, ii wz)]) rfl (Nat.le_of_ble_eq_true rfl) (by omega) ?_
  refine me1 (pc' := 1) (L' := [(0, .ref 102), (1, ii (a : Int)), (2, ii A), (3, ii lz), (4, ii wz)]) (S' := [.ref 102]) dm_X12_applied_0 rfl rfl rfl rfl ?_
  refine me3 (pc' := 4) (S' := [.ref (102 + 22)]) dm_X12_applied_1 (q_getr hm rfl (fun m i l => rg_47 m i l)) rfl rfl rfl ?_
  refine me1 (pc' := 5) (L' := [(0, .ref 102), (1, ii (a : Int)), (2, ii A), (3, ii lz), (4, ii wz)]) (S' := [ii (a : Int), .ref (102 + 22)]) dm_X12_applied_4 rfl rfl rfl rfl ?_
  refine me3 (pc' := 6) (S' := [ii ((t.2.2.1 47) a)]) dm_X12_applied_5 (q_iald (v := (t.2.2.1 47) a) (k := 47) (n := 84000) hm (fun m i l I J => rc_47 m i l I J) (by omega) (by omega) (by decide) rfl) rfl rfl rfl ?_
  refine me1 (pc' := 8) (L' := [(5, ii ((t.2.2.1 47) a)), (0, .ref 102), (1, ii (a : Int)), (2, ii A), (3, ii lz), (4, ii wz)]) (S' := []) dm_X12_applied_6 rfl rfl rfl rfl ?_
  refine me1 (pc' := 9) (L' := [(5, ii ((t.2.2.1 47) a)), (0, .ref 102), (1, ii (a : Int)), (2, ii A), (3, ii lz), (4, ii wz)]) (S' := [ii A]) dm_X12_applied_8 rfl rfl rfl rfl ?_
  refine y_1ne (a := A) (t := 76) (pc' := 12) dm_X12_applied_9 rfl rfl (by omega) (fun hb1 => ?_) (fun hb1 => ?_)
  · refine me0 (pc' := 77) (S' := [ii 0]) dm_X12_applied_76 rfl rfl rfl rfl ?_
    refine me1 (pc' := 79) (L' := [(6, ii 0), (5, ii ((t.2.2.1 47) a)), (0, .ref 102), (1, ii (a : Int)), (2, ii A), (3, ii lz), (4, ii wz)]) (S' := []) dm_X12_applied_77 rfl rfl rfl rfl ?_
    refine me1 (pc' := 80) (L' := [(6, ii 0), (5, ii ((t.2.2.1 47) a)), (0, .ref 102), (1, ii (a : Int)), (2, ii A), (3, ii lz), (4, ii wz)]) (S' := [ii A]) dm_X12_applied_79 rfl rfl rfl rfl ?_
    refine me0 (pc' := 81) (S' := [ii 2, ii A]) dm_X12_applied_80 rfl rfl rfl rfl ?_
    refine me1 (pc' := 83) (L' := [(6, ii 0), (5, ii ((t.2.2.1 47) a)), (0, .ref 102), (1, ii (a : Int)), (2, ii A), (3, ii lz), (4, ii wz)]) (S' := [ii 0, ii 2, ii A]) dm_X12_applied_81 rfl rfl rfl rfl ?_
    refine y_imul (a := 2) (b := 0) dm_X12_applied_83 (pc' := 84) rfl ?_
    refine pg_st (S' := [ii 0, ii A]) (congrArg (fun z => ii z :: [ii A]) (by decide)) ?_
    refine me0 (pc' := 85) (S' := [ii 2, ii 0, ii A]) dm_X12_applied_84 rfl rfl rfl rfl ?_
    refine me0 (pc' := 86) (S' := [ii 2, ii A]) dm_X12_applied_85 rfl rfl rfl rfl ?_
    refine y_shr (a := A) (k := 2) dm_X12_applied_86 (pc' := 87) rfl (by omega) (by omega) (by decide) ?_
    refine y_1eq (a := A / 4) (t := 96) (pc' := 90) dm_X12_applied_87 rfl rfl (by omega) (fun hb2 => ?_) (fun hb2 => ?_)
    · refine me1 (pc' := 97) (L' := [(6, ii 0), (5, ii ((t.2.2.1 47) a)), (0, .ref 102), (1, ii (a : Int)), (2, ii A), (3, ii lz), (4, ii wz)]) (S' := [ii A]) dm_X12_applied_96 rfl rfl rfl rfl ?_
      refine me0 (pc' := 98) (S' := [ii 2, ii A]) dm_X12_applied_97 rfl rfl rfl rfl ?_
      refine me1 (pc' := 100) (L' := [(6, ii 0), (5, ii ((t.2.2.1 47) a)), (0, .ref 102), (1, ii (a : Int)), (2, ii A), (3, ii lz), (4, ii wz)]) (S' := [ii 0, ii 2, ii A]) dm_X12_applied_98 rfl rfl rfl rfl ?_
      refine y_imul (a := 2) (b := 0) dm_X12_applied_100 (pc' := 101) rfl ?_
      refine pg_st (S' := [ii 0, ii A]) (congrArg (fun z => ii z :: [ii A]) (by decide)) ?_
      refine y_shr (a := A) (k := 0) dm_X12_applied_101 (pc' := 102) rfl (by omega) (by omega) (by decide) ?_
      refine pg_st (S' := [ii cc]) (congrArg (fun z => ii z :: []) (by omega)) ?_
      refine me1 (pc' := 104) (L' := [(7, ii cc), (6, ii 0), (5, ii ((t.2.2.1 47) a)), (0, .ref 102), (1, ii (a : Int)), (2, ii A), (3, ii lz), (4, ii wz)]) (S' := []) dm_X12_applied_102 rfl rfl rfl rfl ?_
      refine me1 (pc' := 105) (L' := [(7, ii cc), (6, ii 0), (5, ii ((t.2.2.1 47) a)), (0, .ref 102), (1, ii (a : Int)), (2, ii A), (3, ii lz), (4, ii wz)]) (S' := [ii A]) dm_X12_applied_104 rfl rfl rfl rfl ?_
      refine me0 (pc' := 106) (S' := [ii 1, ii A]) dm_X12_applied_105 rfl rfl rfl rfl ?_
      refine me0 (pc' := 107) (S' := [ii 2, ii 1, ii A]) dm_X12_applied_106 rfl rfl rfl rfl ?_
      refine me1 (pc' := 109) (L' := [(7, ii cc), (6, ii 0), (5, ii ((t.2.2.1 47) a)), (0, .ref 102), (1, ii (a : Int)), (2, ii A), (3, ii lz), (4, ii wz)]) (S' := [ii 0, ii 2, ii 1, ii A]) dm_X12_applied_107 rfl rfl rfl rfl ?_
      refine y_imul (a := 2) (b := 0) dm_X12_applied_109 (pc' := 110) rfl ?_
      refine pg_st (S' := [ii 0, ii 1, ii A]) (congrArg (fun z => ii z :: [ii 1, ii A]) (by decide)) ?_
      refine y_shl (a := 1) (k := 0) dm_X12_applied_110 (pc' := 111) rfl (by decide) ?_
      refine me0 (pc' := 112) (S' := [ii 1, ii (1 * 1), ii A]) dm_X12_applied_111 rfl rfl rfl rfl ?_
      refine y_isub (a := 1 * 1) (b := 1) dm_X12_applied_112 (pc' := 113) rfl ?_
      refine y_andM (a := A) (k := 0) dm_X12_applied_113 (pc' := 114) rfl (by omega) (by omega) (by decide) (by decide) ?_
      refine pg_st (S' := [ii lo]) (congrArg (fun z => ii z :: []) (by omega)) ?_
      refine me1 (pc' := 116) (L' := [(8, ii lo), (7, ii cc), (6, ii 0), (5, ii ((t.2.2.1 47) a)), (0, .ref 102), (1, ii (a : Int)), (2, ii A), (3, ii lz), (4, ii wz)]) (S' := []) dm_X12_applied_114 rfl rfl rfl rfl ?_
      refine me1 (pc' := 117) (L' := [(8, ii lo), (7, ii cc), (6, ii 0), (5, ii ((t.2.2.1 47) a)), (0, .ref 102), (1, ii (a : Int)), (2, ii A), (3, ii lz), (4, ii wz)]) (S' := [.ref 102]) dm_X12_applied_116 rfl rfl rfl rfl ?_
      refine me0 (pc' := 118) (S' := [ii 3, .ref 102]) dm_X12_applied_117 rfl rfl rfl rfl ?_
      refine me1 (pc' := 120) (L' := [(8, ii lo), (7, ii cc), (6, ii 0), (5, ii ((t.2.2.1 47) a)), (0, .ref 102), (1, ii (a : Int)), (2, ii A), (3, ii lz), (4, ii wz)]) (S' := [ii ((t.2.2.1 47) a), ii 3, .ref 102]) dm_X12_applied_118 rfl rfl rfl rfl ?_
      refine x_cv (pc' := 123) (rest := []) dm_X12_applied_120 rfl (q_inv (As := [ii 3, ii ((t.2.2.1 47) a)]) (S := []) hm rfl rfl rfl) rfl rfl rfl (r_takes_ (s := t) (n := 3) hm (by omega) h5 hca.1 hca.2 h8.1 h8.2 (by omega)) ?_
      rintro _ _ ⟨rfl, rfl⟩
      refine y_zne (c := decide ((3 : Int) ≤ t.1 8)) (t := 128) (pc' := 126) dm_X12_applied_123 rfl rfl (fun hb3 => ?_) (fun hb3 => ?_)
      · replace hb3 := dT hb3; exfalso; omega
      · replace hb3 := dF hb3
        refine me0 (pc' := 127) (S' := [ii (-1)]) dm_X12_applied_126 rfl rfl rfl rfl ?_
        refine y_ret (r := some (ii (-1))) dm_X12_applied_127 rfl rfl rfl ?_
        rw [tkS_f hW]
        exact ⟨_, rfl, _, _, rfl, rfl, by rw [failS_5]; decide, by omega, k⟩
    · exfalso; omega
  · exfalso; omega
theorem dm_X12_applied_128 : mj_dec prog_14_method_108_code 128 = some (.iload 7, 2) := by decide +kernel
theorem dm_X12_applied_130 : mj_dec prog_14_method_108_code 130 = some (.iconst 3, 1) := by decide +kernel
theorem dm_X12_applied_131 : mj_dec prog_14_method_108_code 131 = some (.if_icmp .ne 18, 3) := by decide +kernel
theorem dm_X12_applied_134 : mj_dec prog_14_method_108_code 134 = some (.aload_n 0, 1) := by decide +kernel
theorem dm_X12_applied_135 : mj_dec prog_14_method_108_code 135 = some (.iload_n 1, 1) := by decide +kernel
theorem dm_X12_applied_136 : mj_dec prog_14_method_108_code 136 = some (.iload 8, 2) := by decide +kernel
theorem dm_X12_applied_138 : mj_dec prog_14_method_108_code 138 = some (.iload_n 3, 1) := by decide +kernel
theorem dm_X12_applied_139 : mj_dec prog_14_method_108_code 139 = some (.iload 4, 2) := by decide +kernel
theorem dm_X12_applied_141 : mj_dec prog_14_method_108_code 141 = some (.iload 5, 2) := by decide +kernel
theorem dm_X12_applied_143 : mj_dec prog_14_method_108_code 143 = some (.invokevirtual 570, 3) := by decide +kernel
theorem dm_X12_applied_146 : mj_dec prog_14_method_108_code 146 = some (.goto 26, 3) := by decide +kernel
theorem dm_X12_applied_172 : mj_dec prog_14_method_108_code 172 = some (.ireturn, 1) := by decide +kernel
theorem a_each0 {xt : mj_X} {d : Nat} {pre post : mj_H} {t : RS} (hm : pre.length = 102) (hd1 : 1 ≤ d) {a : Nat} {wz : Int} {Q : RS → Int → Prop} (ha : a < 84000) {lo cc lz A : Int} (hA : A = lo + cc * 1) (hlo : 0 ≤ lo ∧ lo < 1) (hcc : 1 ≤ cc ∧ cc ≤ 3) (h5 : t.1 5 = 0) (hca : 0 ≤ t.1 10 ∧ t.1 10 ≤ 100) (h8 : 0 ≤ t.1 8 ∧ t.1 8 ≤ 500000) (hd2 : 3 ≤ d) (hW : 3 ≤ t.1 8) (h3 : cc = 3) (hc : pgV xt (d - 1) 298 [.ref 102, ii (a : Int), ii lo, ii lz, ii wz, ii (t.2.2.1 47 a)] (rS pre post (takeS t 3)) (RA pre post Q)) : pgV xt d 279 [.ref 102, ii (a : Int), ii A, ii lz, ii wz] (rS pre post t) (RA pre post Q) := by
  refine x_enter pm_X12_applied (L0 := [(0, .ref 102), (1, ii (a : Int)), (2, ii A), (3, ii lz), (4, ii wz)]) rfl (Nat.le_of_ble_eq_true rfl) (by omega) ?_
  refine me1 (pc' := 1) (L' := [(0, .ref 102), (1, ii (a : Int)), (2, ii A), (3, ii lz), (4, ii wz)]) (S' := [.ref 102]) dm_X12_applied_0 rfl rfl rfl rfl ?_
  refine me3 (pc' := 4) (S' := [.ref (102 + 22)]) dm_X12_applied_1 (q_getr hm rfl (fun m i l => rg_47 m i l)) rfl rfl rfl ?_
  refine me1 (pc' := 5) (L' := [(0, .ref 102), (1, ii (a : Int)), (2, ii A), (3, ii lz), (4, ii wz)]) (S' := [ii (a : Int), .ref (102 + 22)]) dm_X12_applied_4 rfl rfl rfl rfl ?_
  refine me3 (pc' := 6) (S' := [ii ((t.2.2.1 47) a)]) dm_X12_applied_5 (q_iald (v := (t.2.2.1 47) a) (k := 47) (n := 84000) hm (fun m i l I J => rc_47 m i l I J) (by omega) (by omega) (by decide) rfl) rfl rfl rfl ?_
  refine me1 (pc' := 8) (L' := [(5, ii ((t.2.2.1 47) a)), (0, .ref 102), (1, ii (a : Int)), (2, ii A), (3, ii lz), (4, ii wz)]) (S' := []) dm_X12_applied_6 rfl rfl rfl rfl ?_
  refine me1 (pc' := 9) (L' := [(5, ii ((t.2.2.1 47) a)), (0, .ref 102), (1, ii (a : Int)), (2, ii A), (3, ii lz), (4, ii wz)]) (S' := [ii A]) dm_X12_applied_8 rfl rfl rfl rfl ?_
  refine y_1ne (a := A) (t := 76) (pc' := 12) dm_X12_applied_9 rfl rfl (by omega) (fun hb1 => ?_) (fun hb1 => ?_)
  · refine me0 (pc' := 77) (S' := [ii 0]) dm_X12_applied_76 rfl rfl rfl rfl ?_
    refine me1 (pc' := 79) (L' := [(6, ii 0), (5, ii ((t.2.2.1 47) a)), (0, .ref 102), (1, ii (a : Int)), (2, ii A), (3, ii lz), (4, ii wz)]) (S' := []) dm_X12_applied_77 rfl rfl rfl rfl ?_
    refine me1 (pc' := 80) (L' := [(6, ii 0), (5, ii ((t.2.2.1 47) a)), (0, .ref 102), (1, ii (a : Int)), (2, ii A), (3, ii lz), (4, ii wz)]) (S' := [ii A]) dm_X12_applied_79 rfl rfl rfl rfl ?_
    refine me0 (pc' := 81) (S' := [ii 2, ii A]) dm_X12_applied_80 rfl rfl rfl rfl ?_
    refine me1 (pc' := 83) (L' := [(6, ii 0), (5, ii ((t.2.2.1 47) a)), (0, .ref 102), (1, ii (a : Int)), (2, ii A), (3, ii lz), (4, ii wz)]) (S' := [ii 0, ii 2, ii A]) dm_X12_applied_81 rfl rfl rfl rfl ?_
    refine y_imul (a := 2) (b := 0) dm_X12_applied_83 (pc' := 84) rfl ?_
    refine pg_st (S' := [ii 0, ii A]) (congrArg (fun z => ii z :: [ii A]) (by decide)) ?_
    refine me0 (pc' := 85) (S' := [ii 2, ii 0, ii A]) dm_X12_applied_84 rfl rfl rfl rfl ?_
    refine me0 (pc' := 86) (S' := [ii 2, ii A]) dm_X12_applied_85 rfl rfl rfl rfl ?_
    refine y_shr (a := A) (k := 2) dm_X12_applied_86 (pc' := 87) rfl (by omega) (by omega) (by decide) ?_
    refine y_1eq (a := A / 4) (t := 96) (pc' := 90) dm_X12_applied_87 rfl rfl (by omega) (fun hb2 => ?_) (fun hb2 => ?_)
    · refine me1 (pc' := 97) (L' := [(6, ii 0), (5, ii ((t.2.2.1 47) a)), (0, .ref 102), (1, ii (a : Int)), (2, ii A), (3, ii lz), (4, ii wz)]) (S' := [ii A]) dm_X12_applied_96 rfl rfl rfl rfl ?_
      refine me0 (pc' := 98) (S' := [ii 2, ii A]) dm_X12_applied_97 rfl rfl rfl rfl ?_
      refine me1 (pc' := 100) (L' := [(6, ii 0), (5, ii ((t.2.2.1 47) a)), (0, .ref 102), (1, ii (a : Int)), (2, ii A), (3, ii lz), (4, ii wz)]) (S' := [ii 0, ii 2, ii A]) dm_X12_applied_98 rfl rfl rfl rfl ?_
      refine y_imul (a := 2) (b := 0) dm_X12_applied_100 (pc' := 101) rfl ?_
      refine pg_st (S' := [ii 0, ii A]) (congrArg (fun z => ii z :: [ii A]) (by decide)) ?_
      refine y_shr (a := A) (k := 0) dm_X12_applied_101 (pc' := 102) rfl (by omega) (by omega) (by decide) ?_
      refine pg_st (S' := [ii cc]) (congrArg (fun z => ii z :: []) (by omega)) ?_
      refine me1 (pc' := 104) (L' := [(7, ii cc), (6, ii 0), (5, ii ((t.2.2.1 47) a)), (0, .ref 102), (1, ii (a : Int)), (2, ii A), (3, ii lz), (4, ii wz)]) (S' := []) dm_X12_applied_102 rfl rfl rfl rfl ?_
      refine me1 (pc' := 105) (L' := [(7, ii cc), (6, ii 0), (5, ii ((t.2.2.1 47) a)), (0, .ref 102), (1, ii (a : Int)), (2, ii A), (3, ii lz), (4, ii wz)]) (S' := [ii A]) dm_X12_applied_104 rfl rfl rfl rfl ?_
      refine me0 (pc' := 106) (S' := [ii 1, ii A]) dm_X12_applied_105 rfl rfl rfl rfl ?_
      refine me0 (pc' := 107) (S' := [ii 2, ii 1, ii A]) dm_X12_applied_106 rfl rfl rfl rfl ?_
      refine me1 (pc' := 109) (L' := [(7, ii cc), (6, ii 0), (5, ii ((t.2.2.1 47) a)), (0, .ref 102), (1, ii (a : Int)), (2, ii A), (3, ii lz), (4, ii wz)]) (S' := [ii 0, ii 2, ii 1, ii A]) dm_X12_applied_107 rfl rfl rfl rfl ?_
      refine y_imul (a := 2) (b := 0) dm_X12_applied_109 (pc' := 110) rfl ?_
      refine pg_st (S' := [ii 0, ii 1, ii A]) (congrArg (fun z => ii z :: [ii 1, ii A]) (by decide)) ?_
      refine y_shl (a := 1) (k := 0) dm_X12_applied_110 (pc' := 111) rfl (by decide) ?_
      refine me0 (pc' := 112) (S' := [ii 1, ii (1 * 1), ii A]) dm_X12_applied_111 rfl rfl rfl rfl ?_
      refine y_isub (a := 1 * 1) (b := 1) dm_X12_applied_112 (pc' := 113) rfl ?_
      refine y_andM (a := A) (k := 0) dm_X12_applied_113 (pc' := 114) rfl (by omega) (by omega) (by decide) (by decide) ?_
      refine pg_st (S' := [ii lo]) (congrArg (fun z => ii z :: []) (by omega)) ?_
      refine me1 (pc' := 116) (L' := [(8, ii lo), (7, ii cc), (6, ii 0), (5, ii ((t.2.2.1 47) a)), (0, .ref 102), (1, ii (a : Int)), (2, ii A), (3, ii lz), (4, ii wz)]) (S' := []) dm_X12_applied_114 rfl rfl rfl rfl ?_
      refine me1 (pc' := 117) (L' := [(8, ii lo), (7, ii cc), (6, ii 0), (5, ii ((t.2.2.1 47) a)), (0, .ref 102), (1, ii (a : Int)), (2, ii A), (3, ii lz), (4, ii wz)]) (S' := [.ref 102]) dm_X12_applied_116 rfl rfl rfl rfl ?_
      refine me0 (pc' := 118) (S' := [ii 3, .ref 102]) dm_X12_applied_117 rfl rfl rfl rfl ?_
      refine me1 (pc' := 120) (L' := [(8, ii lo), (7, ii cc), (6, ii 0), (5, ii ((t.2.2.1 47) a)), (0, .ref 102), (1, ii (a : Int)), (2, ii A), (3, ii lz), (4, ii wz)]) (S' := [ii ((t.2.2.1 47) a), ii 3, .ref 102]) dm_X12_applied_118 rfl rfl rfl rfl ?_
      refine x_cv (pc' := 123) (rest := []) dm_X12_applied_120 rfl (q_inv (As := [ii 3, ii ((t.2.2.1 47) a)]) (S := []) hm rfl rfl rfl) rfl rfl rfl (r_takes_ (s := t) (n := 3) hm (by omega) h5 hca.1 hca.2 h8.1 h8.2 (by omega)) ?_
      rintro _ _ ⟨rfl, rfl⟩
      refine y_zne (c := decide ((3 : Int) ≤ t.1 8)) (t := 128) (pc' := 126) dm_X12_applied_123 rfl rfl (fun hb3 => ?_) (fun hb3 => ?_)
      · replace hb3 := dT hb3
        refine pg_cast (h2 := rI pre post ((takeS t 3).1) ((takeS t 3).2.1) ((takeS t 3).2.2.1) ((takeS t 3).2.2.2)) (by rw [tkS_t (by omega)]) ?_
        refine me1 (pc' := 130) (L' := [(8, ii lo), (7, ii cc), (6, ii 0), (5, ii ((t.2.2.1 47) a)), (0, .ref 102), (1, ii (a : Int)), (2, ii A), (3, ii lz), (4, ii wz)]) (S' := [ii cc]) dm_X12_applied_128 rfl rfl rfl rfl ?_
        refine me0 (pc' := 131) (S' := [ii 3, ii cc]) dm_X12_applied_130 rfl rfl rfl rfl ?_
        refine y_2ne (a := cc) (b := 3) (t := 149) (pc' := 134) dm_X12_applied_131 rfl rfl (by omega) (fun hb4 => ?_) (fun hb4 => ?_)
        · exfalso; omega
        · refine me1 (pc' := 135) (L' := [(8, ii lo), (7, ii cc), (6, ii 0), (5, ii ((t.2.2.1 47) a)), (0, .ref 102), (1, ii (a : Int)), (2, ii A), (3, ii lz), (4, ii wz)]) (S' := [.ref 102]) dm_X12_applied_134 rfl rfl rfl rfl ?_
          refine me1 (pc' := 136) (L' := [(8, ii lo), (7, ii cc), (6, ii 0), (5, ii ((t.2.2.1 47) a)), (0, .ref 102), (1, ii (a : Int)), (2, ii A), (3, ii lz), (4, ii wz)]) (S' := [ii (a : Int), .ref 102]) dm_X12_applied_135 rfl rfl rfl rfl ?_
          refine me1 (pc' := 138) (L' := [(8, ii lo), (7, ii cc), (6, ii 0), (5, ii ((t.2.2.1 47) a)), (0, .ref 102), (1, ii (a : Int)), (2, ii A), (3, ii lz), (4, ii wz)]) (S' := [ii lo, ii (a : Int), .ref 102]) dm_X12_applied_136 rfl rfl rfl rfl ?_
          refine me1 (pc' := 139) (L' := [(8, ii lo), (7, ii cc), (6, ii 0), (5, ii ((t.2.2.1 47) a)), (0, .ref 102), (1, ii (a : Int)), (2, ii A), (3, ii lz), (4, ii wz)]) (S' := [ii lz, ii lo, ii (a : Int), .ref 102]) dm_X12_applied_138 rfl rfl rfl rfl ?_
          refine me1 (pc' := 141) (L' := [(8, ii lo), (7, ii cc), (6, ii 0), (5, ii ((t.2.2.1 47) a)), (0, .ref 102), (1, ii (a : Int)), (2, ii A), (3, ii lz), (4, ii wz)]) (S' := [ii wz, ii lz, ii lo, ii (a : Int), .ref 102]) dm_X12_applied_139 rfl rfl rfl rfl ?_
          refine me1 (pc' := 143) (L' := [(8, ii lo), (7, ii cc), (6, ii 0), (5, ii ((t.2.2.1 47) a)), (0, .ref 102), (1, ii (a : Int)), (2, ii A), (3, ii lz), (4, ii wz)]) (S' := [ii ((t.2.2.1 47) a), ii wz, ii lz, ii lo, ii (a : Int), .ref 102]) dm_X12_applied_141 rfl rfl rfl rfl ?_
          refine x_cv (pc' := 146) (rest := []) dm_X12_applied_143 rfl (q_inv (As := [ii (a : Int), ii lo, ii lz, ii wz, ii ((t.2.2.1 47) a)]) (S := []) hm rfl rfl rfl) rfl rfl rfl (hc) ?_
          rintro x1 g1 f1
          obtain ⟨t1, z1, rfl, rfl, hE1, hZ1, hQ1⟩ := f1
          refine me2 (pc' := 172) (S' := [ii z1]) dm_X12_applied_146 rfl rfl rfl ?_
          refine y_ret (r := some (ii z1)) dm_X12_applied_172 rfl rfl rfl ?_
          exact ⟨_, rfl, _, _, rfl, rfl, hE1, hZ1, hQ1⟩
      · replace hb3 := dF hb3; exfalso; omega
    · exfalso; omega
  · exfalso; omega
theorem dm_X12_applied_149 : mj_dec prog_14_method_108_code 149 = some (.aload_n 0, 1) := by decide +kernel
theorem dm_X12_applied_150 : mj_dec prog_14_method_108_code 150 = some (.iload_n 1, 1) := by decide +kernel
theorem dm_X12_applied_151 : mj_dec prog_14_method_108_code 151 = some (.iload 8, 2) := by decide +kernel
theorem dm_X12_applied_153 : mj_dec prog_14_method_108_code 153 = some (.iload_n 3, 1) := by decide +kernel
theorem dm_X12_applied_154 : mj_dec prog_14_method_108_code 154 = some (.iload 4, 2) := by decide +kernel
theorem dm_X12_applied_156 : mj_dec prog_14_method_108_code 156 = some (.iload 7, 2) := by decide +kernel
theorem dm_X12_applied_158 : mj_dec prog_14_method_108_code 158 = some (.iconst 2, 1) := by decide +kernel
theorem dm_X12_applied_159 : mj_dec prog_14_method_108_code 159 = some (.if_icmp .ne 7, 3) := by decide +kernel
theorem dm_X12_applied_166 : mj_dec prog_14_method_108_code 166 = some (.iconst 0, 1) := by decide +kernel
theorem dm_X12_applied_167 : mj_dec prog_14_method_108_code 167 = some (.iload 5, 2) := by decide +kernel
theorem dm_X12_applied_169 : mj_dec prog_14_method_108_code 169 = some (.invokevirtual 573, 3) := by decide +kernel
theorem a_fold01 {xt : mj_X} {d : Nat} {pre post : mj_H} {t : RS} (hm : pre.length = 102) (hd1 : 1 ≤ d) {a : Nat} {wz : Int} {Q : RS → Int → Prop} (ha : a < 84000) {lo cc lz A : Int} (hA : A = lo + cc * 1) (hlo : 0 ≤ lo ∧ lo < 1) (hcc : 1 ≤ cc ∧ cc ≤ 3) (h5 : t.1 5 = 0) (hca : 0 ≤ t.1 10 ∧ t.1 10 ≤ 100) (h8 : 0 ≤ t.1 8 ∧ t.1 8 ≤ 500000) (hd2 : 3 ≤ d) (hW : 3 ≤ t.1 8) (h3 : cc = 1) (hc : pgV xt (d - 1) 299 [.ref 102, ii (a : Int), ii lo, ii lz, ii wz, ii 0, ii (t.2.2.1 47 a)] (rS pre post (takeS t 3)) (RA pre post Q)) : pgV xt d 279 [.ref 102, ii (a : Int), ii A, ii lz, ii wz] (rS pre post t) (RA pre post Q) := by
  refine x_enter pm_X12_applied (L0 := [(0, .ref 102), (1, ii (a : Int)), (2, ii A), (3, ii lz), (4, ii wz)]) rfl (Nat.le_of_ble_eq_true rfl) (by omega) ?_
  refine me1 (pc' := 1) (L' := [(0, .ref 102), (1, ii (a : Int)), (2, ii A), (3, ii lz), (4, ii wz)]) (S' := [.ref 102]) dm_X12_applied_0 rfl rfl rfl rfl ?_
  refine me3 (pc' := 4) (S' := [.ref (102 + 22)]) dm_X12_applied_1 (q_getr hm rfl (fun m i l => rg_47 m i l)) rfl rfl rfl ?_
  refine me1 (pc' := 5) (L' := [(0, .ref 102), (1, ii (a : Int)), (2, ii A), (3, ii lz), (4, ii wz)]) (S' := [ii (a : Int), .ref (102 + 22)]) dm_X12_applied_4 rfl rfl rfl rfl ?_
  refine me3 (pc' := 6) (S' := [ii ((t.2.2.1 47) a)]) dm_X12_applied_5 (q_iald (v := (t.2.2.1 47) a) (k := 47) (n := 84000) hm (fun m i l I J => rc_47 m i l I J) (by omega) (by omega) (by decide) rfl) rfl rfl rfl ?_
  refine me1 (pc' := 8) (L' := [(5, ii ((t.2.2.1 47) a)), (0, .ref 102), (1, ii (a : Int)), (2, ii A), (3, ii lz), (4, ii wz)]) (S' := []) dm_X12_applied_6 rfl rfl rfl rfl ?_
  refine me1 (pc' := 9) (L' := [(5, ii ((t.2.2.1 47) a)), (0, .ref 102), (1, ii (a : Int)), (2, ii A), (3, ii lz), (4, ii wz)]) (S' := [ii A]) dm_X12_applied_8 rfl rfl rfl rfl ?_
  refine y_1ne (a := A) (t := 76) (pc' := 12) dm_X12_applied_9 rfl rfl (by omega) (fun hb1 => ?_) (fun hb1 => ?_)
  · refine me0 (pc' := 77) (S' := [ii 0]) dm_X12_applied_76 rfl rfl rfl rfl ?_
    refine me1 (pc' := 79) (L' := [(6, ii 0), (5, ii ((t.2.2.1 47) a)), (0, .ref 102), (1, ii (a : Int)), (2, ii A), (3, ii lz), (4, ii wz)]) (S' := []) dm_X12_applied_77 rfl rfl rfl rfl ?_
    refine me1 (pc' := 80) (L' := [(6, ii 0), (5, ii ((t.2.2.1 47) a)), (0, .ref 102), (1, ii (a : Int)), (2, ii A), (3, ii lz), (4, ii wz)]) (S' := [ii A]) dm_X12_applied_79 rfl rfl rfl rfl ?_
    refine me0 (pc' := 81) (S' := [ii 2, ii A]) dm_X12_applied_80 rfl rfl rfl rfl ?_
    refine me1 (pc' := 83) (L' := [(6, ii 0), (5, ii ((t.2.2.1 47) a)), (0, .ref 102), (1, ii (a : Int)), (2, ii A), (3, ii lz), (4, ii wz)]) (S' := [ii 0, ii 2, ii A]) dm_X12_applied_81 rfl rfl rfl rfl ?_
    refine y_imul (a := 2) (b := 0) dm_X12_applied_83 (pc' := 84) rfl ?_
    refine pg_st (S' := [ii 0, ii A]) (congrArg (fun z => ii z :: [ii A]) (by decide)) ?_
    refine me0 (pc' := 85) (S' := [ii 2, ii 0, ii A]) dm_X12_applied_84 rfl rfl rfl rfl ?_
    refine me0 (pc' := 86) (S' := [ii 2, ii A]) dm_X12_applied_85 rfl rfl rfl rfl ?_
    refine y_shr (a := A) (k := 2) dm_X12_applied_86 (pc' := 87) rfl (by omega) (by omega) (by decide) ?_
    refine y_1eq (a := A / 4) (t := 96) (pc' := 90) dm_X12_applied_87 rfl rfl (by omega) (fun hb2 => ?_) (fun hb2 => ?_)
    · refine me1 (pc' := 97) (L' := [(6, ii 0), (5, ii ((t.2.2.1 47) a)), (0, .ref 102), (1, ii (a : Int)), (2, ii A), (3, ii lz), (4, ii wz)]) (S' := [ii A]) dm_X12_applied_96 rfl rfl rfl rfl ?_
      refine me0 (pc' := 98) (S' := [ii 2, ii A]) dm_X12_applied_97 rfl rfl rfl rfl ?_
      refine me1 (pc' := 100) (L' := [(6, ii 0), (5, ii ((t.2.2.1 47) a)), (0, .ref 102), (1, ii (a : Int)), (2, ii A), (3, ii lz), (4, ii wz)]) (S' := [ii 0, ii 2, ii A]) dm_X12_applied_98 rfl rfl rfl rfl ?_
      refine y_imul (a := 2) (b := 0) dm_X12_applied_100 (pc' := 101) rfl ?_
      refine pg_st (S' := [ii 0, ii A]) (congrArg (fun z => ii z :: [ii A]) (by decide)) ?_
      refine y_shr (a := A) (k := 0) dm_X12_applied_101 (pc' := 102) rfl (by omega) (by omega) (by decide) ?_
      refine pg_st (S' := [ii cc]) (congrArg (fun z => ii z :: []) (by omega)) ?_
      refine me1 (pc' := 104) (L' := [(7, ii cc), (6, ii 0), (5, ii ((t.2.2.1 47) a)), (0, .ref 102), (1, ii (a : Int)), (2, ii A), (3, ii lz), (4, ii wz)]) (S' := []) dm_X12_applied_102 rfl rfl rfl rfl ?_
      refine me1 (pc' := 105) (L' := [(7, ii cc), (6, ii 0), (5, ii ((t.2.2.1 47) a)), (0, .ref 102), (1, ii (a : Int)), (2, ii A), (3, ii lz), (4, ii wz)]) (S' := [ii A]) dm_X12_applied_104 rfl rfl rfl rfl ?_
      refine me0 (pc' := 106) (S' := [ii 1, ii A]) dm_X12_applied_105 rfl rfl rfl rfl ?_
      refine me0 (pc' := 107) (S' := [ii 2, ii 1, ii A]) dm_X12_applied_106 rfl rfl rfl rfl ?_
      refine me1 (pc' := 109) (L' := [(7, ii cc), (6, ii 0), (5, ii ((t.2.2.1 47) a)), (0, .ref 102), (1, ii (a : Int)), (2, ii A), (3, ii lz), (4, ii wz)]) (S' := [ii 0, ii 2, ii 1, ii A]) dm_X12_applied_107 rfl rfl rfl rfl ?_
      refine y_imul (a := 2) (b := 0) dm_X12_applied_109 (pc' := 110) rfl ?_
      refine pg_st (S' := [ii 0, ii 1, ii A]) (congrArg (fun z => ii z :: [ii 1, ii A]) (by decide)) ?_
      refine y_shl (a := 1) (k := 0) dm_X12_applied_110 (pc' := 111) rfl (by decide) ?_
      refine me0 (pc' := 112) (S' := [ii 1, ii (1 * 1), ii A]) dm_X12_applied_111 rfl rfl rfl rfl ?_
      refine y_isub (a := 1 * 1) (b := 1) dm_X12_applied_112 (pc' := 113) rfl ?_
      refine y_andM (a := A) (k := 0) dm_X12_applied_113 (pc' := 114) rfl (by omega) (by omega) (by decide) (by decide) ?_
      refine pg_st (S' := [ii lo]) (congrArg (fun z => ii z :: []) (by omega)) ?_
      refine me1 (pc' := 116) (L' := [(8, ii lo), (7, ii cc), (6, ii 0), (5, ii ((t.2.2.1 47) a)), (0, .ref 102), (1, ii (a : Int)), (2, ii A), (3, ii lz), (4, ii wz)]) (S' := []) dm_X12_applied_114 rfl rfl rfl rfl ?_
      refine me1 (pc' := 117) (L' := [(8, ii lo), (7, ii cc), (6, ii 0), (5, ii ((t.2.2.1 47) a)), (0, .ref 102), (1, ii (a : Int)), (2, ii A), (3, ii lz), (4, ii wz)]) (S' := [.ref 102]) dm_X12_applied_116 rfl rfl rfl rfl ?_
      refine me0 (pc' := 118) (S' := [ii 3, .ref 102]) dm_X12_applied_117 rfl rfl rfl rfl ?_
      refine me1 (pc' := 120) (L' := [(8, ii lo), (7, ii cc), (6, ii 0), (5, ii ((t.2.2.1 47) a)), (0, .ref 102), (1, ii (a : Int)), (2, ii A), (3, ii lz), (4, ii wz)]) (S' := [ii ((t.2.2.1 47) a), ii 3, .ref 102]) dm_X12_applied_118 rfl rfl rfl rfl ?_
      refine x_cv (pc' := 123) (rest := []) dm_X12_applied_120 rfl (q_inv (As := [ii 3, ii ((t.2.2.1 47) a)]) (S := []) hm rfl rfl rfl) rfl rfl rfl (r_takes_ (s := t) (n := 3) hm (by omega) h5 hca.1 hca.2 h8.1 h8.2 (by omega)) ?_
      rintro _ _ ⟨rfl, rfl⟩
      refine y_zne (c := decide ((3 : Int) ≤ t.1 8)) (t := 128) (pc' := 126) dm_X12_applied_123 rfl rfl (fun hb3 => ?_) (fun hb3 => ?_)
      · replace hb3 := dT hb3
        refine pg_cast (h2 := rI pre post ((takeS t 3).1) ((takeS t 3).2.1) ((takeS t 3).2.2.1) ((takeS t 3).2.2.2)) (by rw [tkS_t (by omega)]) ?_
        refine me1 (pc' := 130) (L' := [(8, ii lo), (7, ii cc), (6, ii 0), (5, ii ((t.2.2.1 47) a)), (0, .ref 102), (1, ii (a : Int)), (2, ii A), (3, ii lz), (4, ii wz)]) (S' := [ii cc]) dm_X12_applied_128 rfl rfl rfl rfl ?_
        refine me0 (pc' := 131) (S' := [ii 3, ii cc]) dm_X12_applied_130 rfl rfl rfl rfl ?_
        refine y_2ne (a := cc) (b := 3) (t := 149) (pc' := 134) dm_X12_applied_131 rfl rfl (by omega) (fun hb4 => ?_) (fun hb4 => ?_)
        · refine me1 (pc' := 150) (L' := [(8, ii lo), (7, ii cc), (6, ii 0), (5, ii ((t.2.2.1 47) a)), (0, .ref 102), (1, ii (a : Int)), (2, ii A), (3, ii lz), (4, ii wz)]) (S' := [.ref 102]) dm_X12_applied_149 rfl rfl rfl rfl ?_
          refine me1 (pc' := 151) (L' := [(8, ii lo), (7, ii cc), (6, ii 0), (5, ii ((t.2.2.1 47) a)), (0, .ref 102), (1, ii (a : Int)), (2, ii A), (3, ii lz), (4, ii wz)]) (S' := [ii (a : Int), .ref 102]) dm_X12_applied_150 rfl rfl rfl rfl ?_
          refine me1 (pc' := 153) (L' := [(8, ii lo), (7, ii cc), (6, ii 0), (5, ii ((t.2.2.1 47) a)), (0, .ref 102), (1, ii (a : Int)), (2, ii A), (3, ii lz), (4, ii wz)]) (S' := [ii lo, ii (a : Int), .ref 102]) dm_X12_applied_151 rfl rfl rfl rfl ?_
          refine me1 (pc' := 154) (L' := [(8, ii lo), (7, ii cc), (6, ii 0), (5, ii ((t.2.2.1 47) a)), (0, .ref 102), (1, ii (a : Int)), (2, ii A), (3, ii lz), (4, ii wz)]) (S' := [ii lz, ii lo, ii (a : Int), .ref 102]) dm_X12_applied_153 rfl rfl rfl rfl ?_
          refine me1 (pc' := 156) (L' := [(8, ii lo), (7, ii cc), (6, ii 0), (5, ii ((t.2.2.1 47) a)), (0, .ref 102), (1, ii (a : Int)), (2, ii A), (3, ii lz), (4, ii wz)]) (S' := [ii wz, ii lz, ii lo, ii (a : Int), .ref 102]) dm_X12_applied_154 rfl rfl rfl rfl ?_
          refine me1 (pc' := 158) (L' := [(8, ii lo), (7, ii cc), (6, ii 0), (5, ii ((t.2.2.1 47) a)), (0, .ref 102), (1, ii (a : Int)), (2, ii A), (3, ii lz), (4, ii wz)]) (S' := [ii cc, ii wz, ii lz, ii lo, ii (a : Int), .ref 102]) dm_X12_applied_156 rfl rfl rfl rfl ?_
          refine me0 (pc' := 159) (S' := [ii 2, ii cc, ii wz, ii lz, ii lo, ii (a : Int), .ref 102]) dm_X12_applied_158 rfl rfl rfl rfl ?_
          refine y_2ne (a := cc) (b := 2) (t := 166) (pc' := 162) dm_X12_applied_159 rfl rfl (by omega) (fun hb5 => ?_) (fun hb5 => ?_)
          · refine me0 (pc' := 167) (S' := [ii 0, ii wz, ii lz, ii lo, ii (a : Int), .ref 102]) dm_X12_applied_166 rfl rfl rfl rfl ?_
            refine me1 (pc' := 169) (L' := [(8, ii lo), (7, ii cc), (6, ii 0), (5, ii ((t.2.2.1 47) a)), (0, .ref 102), (1, ii (a : Int)), (2, ii A), (3, ii lz), (4, ii wz)]) (S' := [ii ((t.2.2.1 47) a), ii 0, ii wz, ii lz, ii lo, ii (a : Int), .ref 102]) dm_X12_applied_167 rfl rfl rfl rfl ?_
            refine x_cv (pc' := 172) (rest := []) dm_X12_applied_169 rfl (q_inv (As := [ii (a : Int), ii lo, ii lz, ii wz, ii 0, ii ((t.2.2.1 47) a)]) (S := []) hm rfl rfl rfl) rfl rfl rfl (hc) ?_
            rintro x1 g1 f1
            obtain ⟨t1, z1, rfl, rfl, hE1, hZ1, hQ1⟩ := f1
            refine y_ret (r := some (ii z1)) dm_X12_applied_172 rfl rfl rfl ?_
            exact ⟨_, rfl, _, _, rfl, rfl, hE1, hZ1, hQ1⟩
          · exfalso; omega
        · exfalso; omega
      · replace hb3 := dF hb3; exfalso; omega
    · exfalso; omega
  · exfalso; omega
theorem dm_X12_applied_162 : mj_dec prog_14_method_108_code 162 = some (.iconst 1, 1) := by decide +kernel
theorem dm_X12_applied_163 : mj_dec prog_14_method_108_code 163 = some (.goto 4, 3) := by decide +kernel
theorem a_fold02 {xt : mj_X} {d : Nat} {pre post : mj_H} {t : RS} (hm : pre.length = 102) (hd1 : 1 ≤ d) {a : Nat} {wz : Int} {Q : RS → Int → Prop} (ha : a < 84000) {lo cc lz A : Int} (hA : A = lo + cc * 1) (hlo : 0 ≤ lo ∧ lo < 1) (hcc : 1 ≤ cc ∧ cc ≤ 3) (h5 : t.1 5 = 0) (hca : 0 ≤ t.1 10 ∧ t.1 10 ≤ 100) (h8 : 0 ≤ t.1 8 ∧ t.1 8 ≤ 500000) (hd2 : 3 ≤ d) (hW : 3 ≤ t.1 8) (h3 : cc = 2) (hc : pgV xt (d - 1) 299 [.ref 102, ii (a : Int), ii lo, ii lz, ii wz, ii 1, ii (t.2.2.1 47 a)] (rS pre post (takeS t 3)) (RA pre post Q)) : pgV xt d 279 [.ref 102, ii (a : Int), ii A, ii lz, ii wz] (rS pre post t) (RA pre post Q) := by
  refine x_enter pm_X12_applied (L0 := [(0, .ref 102), (1, ii (a : Int)), (2, ii A), (3, ii lz), (4, ii wz)]) rfl (Nat.le_of_ble_eq_true rfl) (by omega) ?_
  refine me1 (pc' := 1) (L' := [(0, .ref 102), (1, ii (a : Int)), (2, ii A), (3, ii lz), (4, ii wz)]) (S' := [.ref 102]) dm_X12_applied_0 rfl rfl rfl rfl ?_
  refine me3 (pc' := 4) (S' := [.ref (102 + 22)]) dm_X12_applied_1 (q_getr hm rfl (fun m i l => rg_47 m i l)) rfl rfl rfl ?_
  refine me1 (pc' := 5) (L' := [(0, .ref 102), (1, ii (a : Int)), (2, ii A), (3, ii lz), (4, ii wz)]) (S' := [ii (a : Int), .ref (102 + 22)]) dm_X12_applied_4 rfl rfl rfl rfl ?_
  refine me3 (pc' := 6) (S' := [ii ((t.2.2.1 47) a)]) dm_X12_applied_5 (q_iald (v := (t.2.2.1 47) a) (k := 47) (n := 84000) hm (fun m i l I J => rc_47 m i l I J) (by omega) (by omega) (by decide) rfl) rfl rfl rfl ?_
  refine me1 (pc' := 8) (L' := [(5, ii ((t.2.2.1 47) a)), (0, .ref 102), (1, ii (a : Int)), (2, ii A), (3, ii lz), (4, ii wz)]) (S' := []) dm_X12_applied_6 rfl rfl rfl rfl ?_
  refine me1 (pc' := 9) (L' := [(5, ii ((t.2.2.1 47) a)), (0, .ref 102), (1, ii (a : Int)), (2, ii A), (3, ii lz), (4, ii wz)]) (S' := [ii A]) dm_X12_applied_8 rfl rfl rfl rfl ?_
  refine y_1ne (a := A) (t := 76) (pc' := 12) dm_X12_applied_9 rfl rfl (by omega) (fun hb1 => ?_) (fun hb1 => ?_)
  · refine me0 (pc' := 77) (S' := [ii 0]) dm_X12_applied_76 rfl rfl rfl rfl ?_
    refine me1 (pc' := 79) (L' := [(6, ii 0), (5, ii ((t.2.2.1 47) a)), (0, .ref 102), (1, ii (a : Int)), (2, ii A), (3, ii lz), (4, ii wz)]) (S' := []) dm_X12_applied_77 rfl rfl rfl rfl ?_
    refine me1 (pc' := 80) (L' := [(6, ii 0), (5, ii ((t.2.2.1 47) a)), (0, .ref 102), (1, ii (a : Int)), (2, ii A), (3, ii lz), (4, ii wz)]) (S' := [ii A]) dm_X12_applied_79 rfl rfl rfl rfl ?_
    refine me0 (pc' := 81) (S' := [ii 2, ii A]) dm_X12_applied_80 rfl rfl rfl rfl ?_
    refine me1 (pc' := 83) (L' := [(6, ii 0), (5, ii ((t.2.2.1 47) a)), (0, .ref 102), (1, ii (a : Int)), (2, ii A), (3, ii lz), (4, ii wz)]) (S' := [ii 0, ii 2, ii A]) dm_X12_applied_81 rfl rfl rfl rfl ?_
    refine y_imul (a := 2) (b := 0) dm_X12_applied_83 (pc' := 84) rfl ?_
    refine pg_st (S' := [ii 0, ii A]) (congrArg (fun z => ii z :: [ii A]) (by decide)) ?_
    refine me0 (pc' := 85) (S' := [ii 2, ii 0, ii A]) dm_X12_applied_84 rfl rfl rfl rfl ?_
    refine me0 (pc' := 86) (S' := [ii 2, ii A]) dm_X12_applied_85 rfl rfl rfl rfl ?_
    refine y_shr (a := A) (k := 2) dm_X12_applied_86 (pc' := 87) rfl (by omega) (by omega) (by decide) ?_
    refine y_1eq (a := A / 4) (t := 96) (pc' := 90) dm_X12_applied_87 rfl rfl (by omega) (fun hb2 => ?_) (fun hb2 => ?_)
    · refine me1 (pc' := 97) (L' := [(6, ii 0), (5, ii ((t.2.2.1 47) a)), (0, .ref 102), (1, ii (a : Int)), (2, ii A), (3, ii lz), (4, ii wz)]) (S' := [ii A]) dm_X12_applied_96 rfl rfl rfl rfl ?_
      refine me0 (pc' := 98) (S' := [ii 2, ii A]) dm_X12_applied_97 rfl rfl rfl rfl ?_
      refine me1 (pc' := 100) (L' := [(6, ii 0), (5, ii ((t.2.2.1 47) a)), (0, .ref 102), (1, ii (a : Int)), (2, ii A), (3, ii lz), (4, ii wz)]) (S' := [ii 0, ii 2, ii A]) dm_X12_applied_98 rfl rfl rfl rfl ?_
      refine y_imul (a := 2) (b := 0) dm_X12_applied_100 (pc' := 101) rfl ?_
      refine pg_st (S' := [ii 0, ii A]) (congrArg (fun z => ii z :: [ii A]) (by decide)) ?_
      refine y_shr (a := A) (k := 0) dm_X12_applied_101 (pc' := 102) rfl (by omega) (by omega) (by decide) ?_
      refine pg_st (S' := [ii cc]) (congrArg (fun z => ii z :: []) (by omega)) ?_
      refine me1 (pc' := 104) (L' := [(7, ii cc), (6, ii 0), (5, ii ((t.2.2.1 47) a)), (0, .ref 102), (1, ii (a : Int)), (2, ii A), (3, ii lz), (4, ii wz)]) (S' := []) dm_X12_applied_102 rfl rfl rfl rfl ?_
      refine me1 (pc' := 105) (L' := [(7, ii cc), (6, ii 0), (5, ii ((t.2.2.1 47) a)), (0, .ref 102), (1, ii (a : Int)), (2, ii A), (3, ii lz), (4, ii wz)]) (S' := [ii A]) dm_X12_applied_104 rfl rfl rfl rfl ?_
      refine me0 (pc' := 106) (S' := [ii 1, ii A]) dm_X12_applied_105 rfl rfl rfl rfl ?_
      refine me0 (pc' := 107) (S' := [ii 2, ii 1, ii A]) dm_X12_applied_106 rfl rfl rfl rfl ?_
      refine me1 (pc' := 109) (L' := [(7, ii cc), (6, ii 0), (5, ii ((t.2.2.1 47) a)), (0, .ref 102), (1, ii (a : Int)), (2, ii A), (3, ii lz), (4, ii wz)]) (S' := [ii 0, ii 2, ii 1, ii A]) dm_X12_applied_107 rfl rfl rfl rfl ?_
      refine y_imul (a := 2) (b := 0) dm_X12_applied_109 (pc' := 110) rfl ?_
      refine pg_st (S' := [ii 0, ii 1, ii A]) (congrArg (fun z => ii z :: [ii 1, ii A]) (by decide)) ?_
      refine y_shl (a := 1) (k := 0) dm_X12_applied_110 (pc' := 111) rfl (by decide) ?_
      refine me0 (pc' := 112) (S' := [ii 1, ii (1 * 1), ii A]) dm_X12_applied_111 rfl rfl rfl rfl ?_
      refine y_isub (a := 1 * 1) (b := 1) dm_X12_applied_112 (pc' := 113) rfl ?_
      refine y_andM (a := A) (k := 0) dm_X12_applied_113 (pc' := 114) rfl (by omega) (by omega) (by decide) (by decide) ?_
      refine pg_st (S' := [ii lo]) (congrArg (fun z => ii z :: []) (by omega)) ?_
      refine me1 (pc' := 116) (L' := [(8, ii lo), (7, ii cc), (6, ii 0), (5, ii ((t.2.2.1 47) a)), (0, .ref 102), (1, ii (a : Int)), (2, ii A), (3, ii lz), (4, ii wz)]) (S' := []) dm_X12_applied_114 rfl rfl rfl rfl ?_
      refine me1 (pc' := 117) (L' := [(8, ii lo), (7, ii cc), (6, ii 0), (5, ii ((t.2.2.1 47) a)), (0, .ref 102), (1, ii (a : Int)), (2, ii A), (3, ii lz), (4, ii wz)]) (S' := [.ref 102]) dm_X12_applied_116 rfl rfl rfl rfl ?_
      refine me0 (pc' := 118) (S' := [ii 3, .ref 102]) dm_X12_applied_117 rfl rfl rfl rfl ?_
      refine me1 (pc' := 120) (L' := [(8, ii lo), (7, ii cc), (6, ii 0), (5, ii ((t.2.2.1 47) a)), (0, .ref 102), (1, ii (a : Int)), (2, ii A), (3, ii lz), (4, ii wz)]) (S' := [ii ((t.2.2.1 47) a), ii 3, .ref 102]) dm_X12_applied_118 rfl rfl rfl rfl ?_
      refine x_cv (pc' := 123) (rest := []) dm_X12_applied_120 rfl (q_inv (As := [ii 3, ii ((t.2.2.1 47) a)]) (S := []) hm rfl rfl rfl) rfl rfl rfl (r_takes_ (s := t) (n := 3) hm (by omega) h5 hca.1 hca.2 h8.1 h8.2 (by omega)) ?_
      rintro _ _ ⟨rfl, rfl⟩
      refine y_zne (c := decide ((3 : Int) ≤ t.1 8)) (t := 128) (pc' := 126) dm_X12_applied_123 rfl rfl (fun hb3 => ?_) (fun hb3 => ?_)
      · replace hb3 := dT hb3
        refine pg_cast (h2 := rI pre post ((takeS t 3).1) ((takeS t 3).2.1) ((takeS t 3).2.2.1) ((takeS t 3).2.2.2)) (by rw [tkS_t (by omega)]) ?_
        refine me1 (pc' := 130) (L' := [(8, ii lo), (7, ii cc), (6, ii 0), (5, ii ((t.2.2.1 47) a)), (0, .ref 102), (1, ii (a : Int)), (2, ii A), (3, ii lz), (4, ii wz)]) (S' := [ii cc]) dm_X12_applied_128 rfl rfl rfl rfl ?_
        refine me0 (pc' := 131) (S' := [ii 3, ii cc]) dm_X12_applied_130 rfl rfl rfl rfl ?_
        refine y_2ne (a := cc) (b := 3) (t := 149) (pc' := 134) dm_X12_applied_131 rfl rfl (by omega) (fun hb4 => ?_) (fun hb4 => ?_)
        · refine me1 (pc' := 150) (L' := [(8, ii lo), (7, ii cc), (6, ii 0), (5, ii ((t.2.2.1 47) a)), (0, .ref 102), (1, ii (a : Int)), (2, ii A), (3, ii lz), (4, ii wz)]) (S' := [.ref 102]) dm_X12_applied_149 rfl rfl rfl rfl ?_
          refine me1 (pc' := 151) (L' := [(8, ii lo), (7, ii cc), (6, ii 0), (5, ii ((t.2.2.1 47) a)), (0, .ref 102), (1, ii (a : Int)), (2, ii A), (3, ii lz), (4, ii wz)]) (S' := [ii (a : Int), .ref 102]) dm_X12_applied_150 rfl rfl rfl rfl ?_
          refine me1 (pc' := 153) (L' := [(8, ii lo), (7, ii cc), (6, ii 0), (5, ii ((t.2.2.1 47) a)), (0, .ref 102), (1, ii (a : Int)), (2, ii A), (3, ii lz), (4, ii wz)]) (S' := [ii lo, ii (a : Int), .ref 102]) dm_X12_applied_151 rfl rfl rfl rfl ?_
          refine me1 (pc' := 154) (L' := [(8, ii lo), (7, ii cc), (6, ii 0), (5, ii ((t.2.2.1 47) a)), (0, .ref 102), (1, ii (a : Int)), (2, ii A), (3, ii lz), (4, ii wz)]) (S' := [ii lz, ii lo, ii (a : Int), .ref 102]) dm_X12_applied_153 rfl rfl rfl rfl ?_
          refine me1 (pc' := 156) (L' := [(8, ii lo), (7, ii cc), (6, ii 0), (5, ii ((t.2.2.1 47) a)), (0, .ref 102), (1, ii (a : Int)), (2, ii A), (3, ii lz), (4, ii wz)]) (S' := [ii wz, ii lz, ii lo, ii (a : Int), .ref 102]) dm_X12_applied_154 rfl rfl rfl rfl ?_
          refine me1 (pc' := 158) (L' := [(8, ii lo), (7, ii cc), (6, ii 0), (5, ii ((t.2.2.1 47) a)), (0, .ref 102), (1, ii (a : Int)), (2, ii A), (3, ii lz), (4, ii wz)]) (S' := [ii cc, ii wz, ii lz, ii lo, ii (a : Int), .ref 102]) dm_X12_applied_156 rfl rfl rfl rfl ?_
          refine me0 (pc' := 159) (S' := [ii 2, ii cc, ii wz, ii lz, ii lo, ii (a : Int), .ref 102]) dm_X12_applied_158 rfl rfl rfl rfl ?_
          refine y_2ne (a := cc) (b := 2) (t := 166) (pc' := 162) dm_X12_applied_159 rfl rfl (by omega) (fun hb5 => ?_) (fun hb5 => ?_)
          · exfalso; omega
          · refine me0 (pc' := 163) (S' := [ii 1, ii wz, ii lz, ii lo, ii (a : Int), .ref 102]) dm_X12_applied_162 rfl rfl rfl rfl ?_
            refine me2 (pc' := 167) (S' := [ii 1, ii wz, ii lz, ii lo, ii (a : Int), .ref 102]) dm_X12_applied_163 rfl rfl rfl ?_
            refine me1 (pc' := 169) (L' := [(8, ii lo), (7, ii cc), (6, ii 0), (5, ii ((t.2.2.1 47) a)), (0, .ref 102), (1, ii (a : Int)), (2, ii A), (3, ii lz), (4, ii wz)]) (S' := [ii ((t.2.2.1 47) a), ii 1, ii wz, ii lz, ii lo, ii (a : Int), .ref 102]) dm_X12_applied_167 rfl rfl rfl rfl ?_
            refine x_cv (pc' := 172) (rest := []) dm_X12_applied_169 rfl (q_inv (As := [ii (a : Int), ii lo, ii lz, ii wz, ii 1, ii ((t.2.2.1 47) a)]) (S := []) hm rfl rfl rfl) rfl rfl rfl (hc) ?_
            rintro x1 g1 f1
            obtain ⟨t1, z1, rfl, rfl, hE1, hZ1, hQ1⟩ := f1
            refine y_ret (r := some (ii z1)) dm_X12_applied_172 rfl rfl rfl ?_
            exact ⟨_, rfl, _, _, rfl, rfl, hE1, hZ1, hQ1⟩
        · exfalso; omega
      · replace hb3 := dF hb3; exfalso; omega
    · exfalso; omega
  · exfalso; omega
theorem dm_X12_applied_90 : mj_dec prog_14_method_108_code 90 = some (.iinc 6 1, 3) := by decide +kernel
theorem dm_X12_applied_93 : mj_dec prog_14_method_108_code 93 = some (.goto (-14), 3) := by decide +kernel
theorem a_no1 {xt : mj_X} {d : Nat} {pre post : mj_H} {t : RS} (hm : pre.length = 102) (hd1 : 1 ≤ d) {a : Nat} {wz : Int} {Q : RS → Int → Prop} (ha : a < 84000) {lo cc lz A : Int} (hA : A = lo + cc * 4) (hlo : 0 ≤ lo ∧ lo < 4) (hcc : 1 ≤ cc ∧ cc ≤ 3) (h5 : t.1 5 = 0) (hca : 0 ≤ t.1 10 ∧ t.1 10 ≤ 100) (h8 : 0 ≤ t.1 8 ∧ t.1 8 ≤ 500000) (hd2 : 3 ≤ d) (hW : t.1 8 < 3) (k : Q (failS t 10 (t.2.2.1 47 a)) (-1)) : pgV xt d 279 [.ref 102, ii (a : Int), ii A, ii lz, ii wz] (rS pre post t) (RA pre post Q) := by
  refine x_enter pm_X12_applied (L0 := [(0, .ref 102), (1, ii (a : Int)), (2, ii A), (3, ii lz), (4, ii wz)]) rfl (Nat.le_of_ble_eq_true rfl) (by omega) ?_
  refine me1 (pc' := 1) (L' := [(0, .ref 102), (1, ii (a : Int)), (2, ii A), (3, ii lz), (4, ii wz)]) (S' := [.ref 102]) dm_X12_applied_0 rfl rfl rfl rfl ?_
  refine me3 (pc' := 4) (S' := [.ref (102 + 22)]) dm_X12_applied_1 (q_getr hm rfl (fun m i l => rg_47 m i l)) rfl rfl rfl ?_
  refine me1 (pc' := 5) (L' := [(0, .ref 102), (1, ii (a : Int)), (2, ii A), (3, ii lz), (4, ii wz)]) (S' := [ii (a : Int), .ref (102 + 22)]) dm_X12_applied_4 rfl rfl rfl rfl ?_
  refine me3 (pc' := 6) (S' := [ii ((t.2.2.1 47) a)]) dm_X12_applied_5 (q_iald (v := (t.2.2.1 47) a) (k := 47) (n := 84000) hm (fun m i l I J => rc_47 m i l I J) (by omega) (by omega) (by decide) rfl) rfl rfl rfl ?_
  refine me1 (pc' := 8) (L' := [(5, ii ((t.2.2.1 47) a)), (0, .ref 102), (1, ii (a : Int)), (2, ii A), (3, ii lz), (4, ii wz)]) (S' := []) dm_X12_applied_6 rfl rfl rfl rfl ?_
  refine me1 (pc' := 9) (L' := [(5, ii ((t.2.2.1 47) a)), (0, .ref 102), (1, ii (a : Int)), (2, ii A), (3, ii lz), (4, ii wz)]) (S' := [ii A]) dm_X12_applied_8 rfl rfl rfl rfl ?_
  refine y_1ne (a := A) (t := 76) (pc' := 12) dm_X12_applied_9 rfl rfl (by omega) (fun hb1 => ?_) (fun hb1 => ?_)
  · refine me0 (pc' := 77) (S' := [ii 0]) dm_X12_applied_76 rfl rfl rfl rfl ?_
    refine me1 (pc' := 79) (L' := [(6, ii 0), (5, ii ((t.2.2.1 47) a)), (0, .ref 102), (1, ii (a : Int)), (2, ii A), (3, ii lz), (4, ii wz)]) (S' := []) dm_X12_applied_77 rfl rfl rfl rfl ?_
    refine me1 (pc' := 80) (L' := [(6, ii 0), (5, ii ((t.2.2.1 47) a)), (0, .ref 102), (1, ii (a : Int)), (2, ii A), (3, ii lz), (4, ii wz)]) (S' := [ii A]) dm_X12_applied_79 rfl rfl rfl rfl ?_
    refine me0 (pc' := 81) (S' := [ii 2, ii A]) dm_X12_applied_80 rfl rfl rfl rfl ?_
    refine me1 (pc' := 83) (L' := [(6, ii 0), (5, ii ((t.2.2.1 47) a)), (0, .ref 102), (1, ii (a : Int)), (2, ii A), (3, ii lz), (4, ii wz)]) (S' := [ii 0, ii 2, ii A]) dm_X12_applied_81 rfl rfl rfl rfl ?_
    refine y_imul (a := 2) (b := 0) dm_X12_applied_83 (pc' := 84) rfl ?_
    refine pg_st (S' := [ii 0, ii A]) (congrArg (fun z => ii z :: [ii A]) (by decide)) ?_
    refine me0 (pc' := 85) (S' := [ii 2, ii 0, ii A]) dm_X12_applied_84 rfl rfl rfl rfl ?_
    refine me0 (pc' := 86) (S' := [ii 2, ii A]) dm_X12_applied_85 rfl rfl rfl rfl ?_
    refine y_shr (a := A) (k := 2) dm_X12_applied_86 (pc' := 87) rfl (by omega) (by omega) (by decide) ?_
    refine y_1eq (a := A / 4) (t := 96) (pc' := 90) dm_X12_applied_87 rfl rfl (by omega) (fun hb2 => ?_) (fun hb2 => ?_)
    · exfalso; omega
    · refine y_iinc (pc' := 93) (L' := [(6, ii 1), (5, ii ((t.2.2.1 47) a)), (0, .ref 102), (1, ii (a : Int)), (2, ii A), (3, ii lz), (4, ii wz)]) dm_X12_applied_90 (y_incp (a := 0) (c := 1) rfl rfl (by decide)) rfl ?_
      refine me2 (pc' := 79) (S' := []) dm_X12_applied_93 rfl rfl rfl ?_
      refine me1 (pc' := 80) (L' := [(6, ii 1), (5, ii ((t.2.2.1 47) a)), (0, .ref 102), (1, ii (a : Int)), (2, ii A), (3, ii lz), (4, ii wz)]) (S' := [ii A]) dm_X12_applied_79 rfl rfl rfl rfl ?_
      refine me0 (pc' := 81) (S' := [ii 2, ii A]) dm_X12_applied_80 rfl rfl rfl rfl ?_
      refine me1 (pc' := 83) (L' := [(6, ii 1), (5, ii ((t.2.2.1 47) a)), (0, .ref 102), (1, ii (a : Int)), (2, ii A), (3, ii lz), (4, ii wz)]) (S' := [ii 1, ii 2, ii A]) dm_X12_applied_81 rfl rfl rfl rfl ?_
      refine y_imul (a := 2) (b := 1) dm_X12_applied_83 (pc' := 84) rfl ?_
      refine pg_st (S' := [ii 2, ii A]) (congrArg (fun z => ii z :: [ii A]) (by decide)) ?_
      refine me0 (pc' := 85) (S' := [ii 2, ii 2, ii A]) dm_X12_applied_84 rfl rfl rfl rfl ?_
      refine me0 (pc' := 86) (S' := [ii 4, ii A]) dm_X12_applied_85 rfl rfl rfl rfl ?_
      refine y_shr (a := A) (k := 4) dm_X12_applied_86 (pc' := 87) rfl (by omega) (by omega) (by decide) ?_
      refine y_1eq (a := A / 16) (t := 96) (pc' := 90) dm_X12_applied_87 rfl rfl (by omega) (fun hb3 => ?_) (fun hb3 => ?_)
      · refine me1 (pc' := 97) (L' := [(6, ii 1), (5, ii ((t.2.2.1 47) a)), (0, .ref 102), (1, ii (a : Int)), (2, ii A), (3, ii lz), (4, ii wz)]) (S' := [ii A]) dm_X12_applied_96 rfl rfl rfl rfl ?_
        refine me0 (pc' := 98) (S' := [ii 2, ii A]) dm_X12_applied_97 rfl rfl rfl rfl ?_
        refine me1 (pc' := 100) (L' := [(6, ii 1), (5, ii ((t.2.2.1 47) a)), (0, .ref 102), (1, ii (a : Int)), (2, ii A), (3, ii lz), (4, ii wz)]) (S' := [ii 1, ii 2, ii A]) dm_X12_applied_98 rfl rfl rfl rfl ?_
        refine y_imul (a := 2) (b := 1) dm_X12_applied_100 (pc' := 101) rfl ?_
        refine pg_st (S' := [ii 2, ii A]) (congrArg (fun z => ii z :: [ii A]) (by decide)) ?_
        refine y_shr (a := A) (k := 2) dm_X12_applied_101 (pc' := 102) rfl (by omega) (by omega) (by decide) ?_
        refine pg_st (S' := [ii cc]) (congrArg (fun z => ii z :: []) (by omega)) ?_
        refine me1 (pc' := 104) (L' := [(7, ii cc), (6, ii 1), (5, ii ((t.2.2.1 47) a)), (0, .ref 102), (1, ii (a : Int)), (2, ii A), (3, ii lz), (4, ii wz)]) (S' := []) dm_X12_applied_102 rfl rfl rfl rfl ?_
        refine me1 (pc' := 105) (L' := [(7, ii cc), (6, ii 1), (5, ii ((t.2.2.1 47) a)), (0, .ref 102), (1, ii (a : Int)), (2, ii A), (3, ii lz), (4, ii wz)]) (S' := [ii A]) dm_X12_applied_104 rfl rfl rfl rfl ?_
        refine me0 (pc' := 106) (S' := [ii 1, ii A]) dm_X12_applied_105 rfl rfl rfl rfl ?_
        refine me0 (pc' := 107) (S' := [ii 2, ii 1, ii A]) dm_X12_applied_106 rfl rfl rfl rfl ?_
        refine me1 (pc' := 109) (L' := [(7, ii cc), (6, ii 1), (5, ii ((t.2.2.1 47) a)), (0, .ref 102), (1, ii (a : Int)), (2, ii A), (3, ii lz), (4, ii wz)]) (S' := [ii 1, ii 2, ii 1, ii A]) dm_X12_applied_107 rfl rfl rfl rfl ?_
        refine y_imul (a := 2) (b := 1) dm_X12_applied_109 (pc' := 110) rfl ?_
        refine pg_st (S' := [ii 2, ii 1, ii A]) (congrArg (fun z => ii z :: [ii 1, ii A]) (by decide)) ?_
        refine y_shl (a := 1) (k := 2) dm_X12_applied_110 (pc' := 111) rfl (by decide) ?_
        refine me0 (pc' := 112) (S' := [ii 1, ii (1 * 4), ii A]) dm_X12_applied_111 rfl rfl rfl rfl ?_
        refine y_isub (a := 1 * 4) (b := 1) dm_X12_applied_112 (pc' := 113) rfl ?_
        refine y_andM (a := A) (k := 2) dm_X12_applied_113 (pc' := 114) rfl (by omega) (by omega) (by decide) (by decide) ?_
        refine pg_st (S' := [ii lo]) (congrArg (fun z => ii z :: []) (by omega)) ?_
        refine me1 (pc' := 116) (L' := [(8, ii lo), (7, ii cc), (6, ii 1), (5, ii ((t.2.2.1 47) a)), (0, .ref 102), (1, ii (a : Int)), (2, ii A), (3, ii lz), (4, ii wz)]) (S' := []) dm_X12_applied_114 rfl rfl rfl rfl ?_
        refine me1 (pc' := 117) (L' := [(8, ii lo), (7, ii cc), (6, ii 1), (5, ii ((t.2.2.1 47) a)), (0, .ref 102), (1, ii (a : Int)), (2, ii A), (3, ii lz), (4, ii wz)]) (S' := [.ref 102]) dm_X12_applied_116 rfl rfl rfl rfl ?_
        refine me0 (pc' := 118) (S' := [ii 3, .ref 102]) dm_X12_applied_117 rfl rfl rfl rfl ?_
        refine me1 (pc' := 120) (L' := [(8, ii lo), (7, ii cc), (6, ii 1), (5, ii ((t.2.2.1 47) a)), (0, .ref 102), (1, ii (a : Int)), (2, ii A), (3, ii lz), (4, ii wz)]) (S' := [ii ((t.2.2.1 47) a), ii 3, .ref 102]) dm_X12_applied_118 rfl rfl rfl rfl ?_
        refine x_cv (pc' := 123) (rest := []) dm_X12_applied_120 rfl (q_inv (As := [ii 3, ii ((t.2.2.1 47) a)]) (S := []) hm rfl rfl rfl) rfl rfl rfl (r_takes_ (s := t) (n := 3) hm (by omega) h5 hca.1 hca.2 h8.1 h8.2 (by omega)) ?_
        rintro _ _ ⟨rfl, rfl⟩
        refine y_zne (c := decide ((3 : Int) ≤ t.1 8)) (t := 128) (pc' := 126) dm_X12_applied_123 rfl rfl (fun hb4 => ?_) (fun hb4 => ?_)
        · replace hb4 := dT hb4; exfalso; omega
        · replace hb4 := dF hb4
          refine me0 (pc' := 127) (S' := [ii (-1)]) dm_X12_applied_126 rfl rfl rfl rfl ?_
          refine y_ret (r := some (ii (-1))) dm_X12_applied_127 rfl rfl rfl ?_
          rw [tkS_f hW]
          exact ⟨_, rfl, _, _, rfl, rfl, by rw [failS_5]; decide, by omega, k⟩
      · exfalso; omega
  · exfalso; omega
theorem a_each1 {xt : mj_X} {d : Nat} {pre post : mj_H} {t : RS} (hm : pre.length = 102) (hd1 : 1 ≤ d) {a : Nat} {wz : Int} {Q : RS → Int → Prop} (ha : a < 84000) {lo cc lz A : Int} (hA : A = lo + cc * 4) (hlo : 0 ≤ lo ∧ lo < 4) (hcc : 1 ≤ cc ∧ cc ≤ 3) (h5 : t.1 5 = 0) (hca : 0 ≤ t.1 10 ∧ t.1 10 ≤ 100) (h8 : 0 ≤ t.1 8 ∧ t.1 8 ≤ 500000) (hd2 : 3 ≤ d) (hW : 3 ≤ t.1 8) (h3 : cc = 3) (hc : pgV xt (d - 1) 298 [.ref 102, ii (a : Int), ii lo, ii lz, ii wz, ii (t.2.2.1 47 a)] (rS pre post (takeS t 3)) (RA pre post Q)) : pgV xt d 279 [.ref 102, ii (a : Int), ii A, ii lz, ii wz] (rS pre post t) (RA pre post Q) := by
  refine x_enter pm_X12_applied (L0 := [(0, .ref 102), (1, ii (a : Int)), (2, ii A), (3, ii lz), (4, ii wz)]) rfl (Nat.le_of_ble_eq_true rfl) (by omega) ?_
  refine me1 (pc' := 1) (L' := [(0, .ref 102), (1, ii (a : Int)), (2, ii A), (3, ii lz), (4, ii wz)]) (S' := [.ref 102]) dm_X12_applied_0 rfl rfl rfl rfl ?_
  refine me3 (pc' := 4) (S' := [.ref (102 + 22)]) dm_X12_applied_1 (q_getr hm rfl (fun m i l => rg_47 m i l)) rfl rfl rfl ?_
  refine me1 (pc' := 5) (L' := [(0, .ref 102), (1, ii (a : Int)), (2, ii A), (3, ii lz), (4, ii wz)]) (S' := [ii (a : Int), .ref (102 + 22)]) dm_X12_applied_4 rfl rfl rfl rfl ?_
  refine me3 (pc' := 6) (S' := [ii ((t.2.2.1 47) a)]) dm_X12_applied_5 (q_iald (v := (t.2.2.1 47) a) (k := 47) (n := 84000) hm (fun m i l I J => rc_47 m i l I J) (by omega) (by omega) (by decide) rfl) rfl rfl rfl ?_
  refine me1 (pc' := 8) (L' := [(5, ii ((t.2.2.1 47) a)), (0, .ref 102), (1, ii (a : Int)), (2, ii A), (3, ii lz), (4, ii wz)]) (S' := []) dm_X12_applied_6 rfl rfl rfl rfl ?_
  refine me1 (pc' := 9) (L' := [(5, ii ((t.2.2.1 47) a)), (0, .ref 102), (1, ii (a : Int)), (2, ii A), (3, ii lz), (4, ii wz)]) (S' := [ii A]) dm_X12_applied_8 rfl rfl rfl rfl ?_
  refine y_1ne (a := A) (t := 76) (pc' := 12) dm_X12_applied_9 rfl rfl (by omega) (fun hb1 => ?_) (fun hb1 => ?_)
  · refine me0 (pc' := 77) (S' := [ii 0]) dm_X12_applied_76 rfl rfl rfl rfl ?_
    refine me1 (pc' := 79) (L' := [(6, ii 0), (5, ii ((t.2.2.1 47) a)), (0, .ref 102), (1, ii (a : Int)), (2, ii A), (3, ii lz), (4, ii wz)]) (S' := []) dm_X12_applied_77 rfl rfl rfl rfl ?_
    refine me1 (pc' := 80) (L' := [(6, ii 0), (5, ii ((t.2.2.1 47) a)), (0, .ref 102), (1, ii (a : Int)), (2, ii A), (3, ii lz), (4, ii wz)]) (S' := [ii A]) dm_X12_applied_79 rfl rfl rfl rfl ?_
    refine me0 (pc' := 81) (S' := [ii 2, ii A]) dm_X12_applied_80 rfl rfl rfl rfl ?_
    refine me1 (pc' := 83) (L' := [(6, ii 0), (5, ii ((t.2.2.1 47) a)), (0, .ref 102), (1, ii (a : Int)), (2, ii A), (3, ii lz), (4, ii wz)]) (S' := [ii 0, ii 2, ii A]) dm_X12_applied_81 rfl rfl rfl rfl ?_
    refine y_imul (a := 2) (b := 0) dm_X12_applied_83 (pc' := 84) rfl ?_
    refine pg_st (S' := [ii 0, ii A]) (congrArg (fun z => ii z :: [ii A]) (by decide)) ?_
    refine me0 (pc' := 85) (S' := [ii 2, ii 0, ii A]) dm_X12_applied_84 rfl rfl rfl rfl ?_
    refine me0 (pc' := 86) (S' := [ii 2, ii A]) dm_X12_applied_85 rfl rfl rfl rfl ?_
    refine y_shr (a := A) (k := 2) dm_X12_applied_86 (pc' := 87) rfl (by omega) (by omega) (by decide) ?_
    refine y_1eq (a := A / 4) (t := 96) (pc' := 90) dm_X12_applied_87 rfl rfl (by omega) (fun hb2 => ?_) (fun hb2 => ?_)
    · exfalso; omega
    · refine y_iinc (pc' := 93) (L' := [(6, ii 1), (5, ii ((t.2.2.1 47) a)), (0, .ref 102), (1, ii (a : Int)), (2, ii A), (3, ii lz), (4, ii wz)]) dm_X12_applied_90 (y_incp (a := 0) (c := 1) rfl rfl (by decide)) rfl ?_
      refine me2 (pc' := 79) (S' := []) dm_X12_applied_93 rfl rfl rfl ?_
      refine me1 (pc' := 80) (L' := [(6, ii 1), (5, ii ((t.2.2.1 47) a)), (0, .ref 102), (1, ii (a : Int)), (2, ii A), (3, ii lz), (4, ii wz)]) (S' := [ii A]) dm_X12_applied_79 rfl rfl rfl rfl ?_
      refine me0 (pc' := 81) (S' := [ii 2, ii A]) dm_X12_applied_80 rfl rfl rfl rfl ?_
      refine me1 (pc' := 83) (L' := [(6, ii 1), (5, ii ((t.2.2.1 47) a)), (0, .ref 102), (1, ii (a : Int)), (2, ii A), (3, ii lz), (4, ii wz)]) (S' := [ii 1, ii 2, ii A]) dm_X12_applied_81 rfl rfl rfl rfl ?_
      refine y_imul (a := 2) (b := 1) dm_X12_applied_83 (pc' := 84) rfl ?_
      refine pg_st (S' := [ii 2, ii A]) (congrArg (fun z => ii z :: [ii A]) (by decide)) ?_
      refine me0 (pc' := 85) (S' := [ii 2, ii 2, ii A]) dm_X12_applied_84 rfl rfl rfl rfl ?_
      refine me0 (pc' := 86) (S' := [ii 4, ii A]) dm_X12_applied_85 rfl rfl rfl rfl ?_
      refine y_shr (a := A) (k := 4) dm_X12_applied_86 (pc' := 87) rfl (by omega) (by omega) (by decide) ?_
      refine y_1eq (a := A / 16) (t := 96) (pc' := 90) dm_X12_applied_87 rfl rfl (by omega) (fun hb3 => ?_) (fun hb3 => ?_)
      · refine me1 (pc' := 97) (L' := [(6, ii 1), (5, ii ((t.2.2.1 47) a)), (0, .ref 102), (1, ii (a : Int)), (2, ii A), (3, ii lz), (4, ii wz)]) (S' := [ii A]) dm_X12_applied_96 rfl rfl rfl rfl ?_
        refine me0 (pc' := 98) (S' := [ii 2, ii A]) dm_X12_applied_97 rfl rfl rfl rfl ?_
        refine me1 (pc' := 100) (L' := [(6, ii 1), (5, ii ((t.2.2.1 47) a)), (0, .ref 102), (1, ii (a : Int)), (2, ii A), (3, ii lz), (4, ii wz)]) (S' := [ii 1, ii 2, ii A]) dm_X12_applied_98 rfl rfl rfl rfl ?_
        refine y_imul (a := 2) (b := 1) dm_X12_applied_100 (pc' := 101) rfl ?_
        refine pg_st (S' := [ii 2, ii A]) (congrArg (fun z => ii z :: [ii A]) (by decide)) ?_
        refine y_shr (a := A) (k := 2) dm_X12_applied_101 (pc' := 102) rfl (by omega) (by omega) (by decide) ?_
        refine pg_st (S' := [ii cc]) (congrArg (fun z => ii z :: []) (by omega)) ?_
        refine me1 (pc' := 104) (L' := [(7, ii cc), (6, ii 1), (5, ii ((t.2.2.1 47) a)), (0, .ref 102), (1, ii (a : Int)), (2, ii A), (3, ii lz), (4, ii wz)]) (S' := []) dm_X12_applied_102 rfl rfl rfl rfl ?_
        refine me1 (pc' := 105) (L' := [(7, ii cc), (6, ii 1), (5, ii ((t.2.2.1 47) a)), (0, .ref 102), (1, ii (a : Int)), (2, ii A), (3, ii lz), (4, ii wz)]) (S' := [ii A]) dm_X12_applied_104 rfl rfl rfl rfl ?_
        refine me0 (pc' := 106) (S' := [ii 1, ii A]) dm_X12_applied_105 rfl rfl rfl rfl ?_
        refine me0 (pc' := 107) (S' := [ii 2, ii 1, ii A]) dm_X12_applied_106 rfl rfl rfl rfl ?_
        refine me1 (pc' := 109) (L' := [(7, ii cc), (6, ii 1), (5, ii ((t.2.2.1 47) a)), (0, .ref 102), (1, ii (a : Int)), (2, ii A), (3, ii lz), (4, ii wz)]) (S' := [ii 1, ii 2, ii 1, ii A]) dm_X12_applied_107 rfl rfl rfl rfl ?_
        refine y_imul (a := 2) (b := 1) dm_X12_applied_109 (pc' := 110) rfl ?_
        refine pg_st (S' := [ii 2, ii 1, ii A]) (congrArg (fun z => ii z :: [ii 1, ii A]) (by decide)) ?_
        refine y_shl (a := 1) (k := 2) dm_X12_applied_110 (pc' := 111) rfl (by decide) ?_
        refine me0 (pc' := 112) (S' := [ii 1, ii (1 * 4), ii A]) dm_X12_applied_111 rfl rfl rfl rfl ?_
        refine y_isub (a := 1 * 4) (b := 1) dm_X12_applied_112 (pc' := 113) rfl ?_
        refine y_andM (a := A) (k := 2) dm_X12_applied_113 (pc' := 114) rfl (by omega) (by omega) (by decide) (by decide) ?_
        refine pg_st (S' := [ii lo]) (congrArg (fun z => ii z :: []) (by omega)) ?_
        refine me1 (pc' := 116) (L' := [(8, ii lo), (7, ii cc), (6, ii 1), (5, ii ((t.2.2.1 47) a)), (0, .ref 102), (1, ii (a : Int)), (2, ii A), (3, ii lz), (4, ii wz)]) (S' := []) dm_X12_applied_114 rfl rfl rfl rfl ?_
        refine me1 (pc' := 117) (L' := [(8, ii lo), (7, ii cc), (6, ii 1), (5, ii ((t.2.2.1 47) a)), (0, .ref 102), (1, ii (a : Int)), (2, ii A), (3, ii lz), (4, ii wz)]) (S' := [.ref 102]) dm_X12_applied_116 rfl rfl rfl rfl ?_
        refine me0 (pc' := 118) (S' := [ii 3, .ref 102]) dm_X12_applied_117 rfl rfl rfl rfl ?_
        refine me1 (pc' := 120) (L' := [(8, ii lo), (7, ii cc), (6, ii 1), (5, ii ((t.2.2.1 47) a)), (0, .ref 102), (1, ii (a : Int)), (2, ii A), (3, ii lz), (4, ii wz)]) (S' := [ii ((t.2.2.1 47) a), ii 3, .ref 102]) dm_X12_applied_118 rfl rfl rfl rfl ?_
        refine x_cv (pc' := 123) (rest := []) dm_X12_applied_120 rfl (q_inv (As := [ii 3, ii ((t.2.2.1 47) a)]) (S := []) hm rfl rfl rfl) rfl rfl rfl (r_takes_ (s := t) (n := 3) hm (by omega) h5 hca.1 hca.2 h8.1 h8.2 (by omega)) ?_
        rintro _ _ ⟨rfl, rfl⟩
        refine y_zne (c := decide ((3 : Int) ≤ t.1 8)) (t := 128) (pc' := 126) dm_X12_applied_123 rfl rfl (fun hb4 => ?_) (fun hb4 => ?_)
        · replace hb4 := dT hb4
          refine pg_cast (h2 := rI pre post ((takeS t 3).1) ((takeS t 3).2.1) ((takeS t 3).2.2.1) ((takeS t 3).2.2.2)) (by rw [tkS_t (by omega)]) ?_
          refine me1 (pc' := 130) (L' := [(8, ii lo), (7, ii cc), (6, ii 1), (5, ii ((t.2.2.1 47) a)), (0, .ref 102), (1, ii (a : Int)), (2, ii A), (3, ii lz), (4, ii wz)]) (S' := [ii cc]) dm_X12_applied_128 rfl rfl rfl rfl ?_
          refine me0 (pc' := 131) (S' := [ii 3, ii cc]) dm_X12_applied_130 rfl rfl rfl rfl ?_
          refine y_2ne (a := cc) (b := 3) (t := 149) (pc' := 134) dm_X12_applied_131 rfl rfl (by omega) (fun hb5 => ?_) (fun hb5 => ?_)
          · exfalso; omega
          · refine me1 (pc' := 135) (L' := [(8, ii lo), (7, ii cc), (6, ii 1), (5, ii ((t.2.2.1 47) a)), (0, .ref 102), (1, ii (a : Int)), (2, ii A), (3, ii lz), (4, ii wz)]) (S' := [.ref 102]) dm_X12_applied_134 rfl rfl rfl rfl ?_
            refine me1 (pc' := 136) (L' := [(8, ii lo), (7, ii cc), (6, ii 1), (5, ii ((t.2.2.1 47) a)), (0, .ref 102), (1, ii (a : Int)), (2, ii A), (3, ii lz), (4, ii wz)]) (S' := [ii (a : Int), .ref 102]) dm_X12_applied_135 rfl rfl rfl rfl ?_
            refine me1 (pc' := 138) (L' := [(8, ii lo), (7, ii cc), (6, ii 1), (5, ii ((t.2.2.1 47) a)), (0, .ref 102), (1, ii (a : Int)), (2, ii A), (3, ii lz), (4, ii wz)]) (S' := [ii lo, ii (a : Int), .ref 102]) dm_X12_applied_136 rfl rfl rfl rfl ?_
            refine me1 (pc' := 139) (L' := [(8, ii lo), (7, ii cc), (6, ii 1), (5, ii ((t.2.2.1 47) a)), (0, .ref 102), (1, ii (a : Int)), (2, ii A), (3, ii lz), (4, ii wz)]) (S' := [ii lz, ii lo, ii (a : Int), .ref 102]) dm_X12_applied_138 rfl rfl rfl rfl ?_
            refine me1 (pc' := 141) (L' := [(8, ii lo), (7, ii cc), (6, ii 1), (5, ii ((t.2.2.1 47) a)), (0, .ref 102), (1, ii (a : Int)), (2, ii A), (3, ii lz), (4, ii wz)]) (S' := [ii wz, ii lz, ii lo, ii (a : Int), .ref 102]) dm_X12_applied_139 rfl rfl rfl rfl ?_
            refine me1 (pc' := 143) (L' := [(8, ii lo), (7, ii cc), (6, ii 1), (5, ii ((t.2.2.1 47) a)), (0, .ref 102), (1, ii (a : Int)), (2, ii A), (3, ii lz), (4, ii wz)]) (S' := [ii ((t.2.2.1 47) a), ii wz, ii lz, ii lo, ii (a : Int), .ref 102]) dm_X12_applied_141 rfl rfl rfl rfl ?_
            refine x_cv (pc' := 146) (rest := []) dm_X12_applied_143 rfl (q_inv (As := [ii (a : Int), ii lo, ii lz, ii wz, ii ((t.2.2.1 47) a)]) (S := []) hm rfl rfl rfl) rfl rfl rfl (hc) ?_
            rintro x1 g1 f1
            obtain ⟨t1, z1, rfl, rfl, hE1, hZ1, hQ1⟩ := f1
            refine me2 (pc' := 172) (S' := [ii z1]) dm_X12_applied_146 rfl rfl rfl ?_
            refine y_ret (r := some (ii z1)) dm_X12_applied_172 rfl rfl rfl ?_
            exact ⟨_, rfl, _, _, rfl, rfl, hE1, hZ1, hQ1⟩
        · replace hb4 := dF hb4; exfalso; omega
      · exfalso; omega
  · exfalso; omega
theorem a_fold11 {xt : mj_X} {d : Nat} {pre post : mj_H} {t : RS} (hm : pre.length = 102) (hd1 : 1 ≤ d) {a : Nat} {wz : Int} {Q : RS → Int → Prop} (ha : a < 84000) {lo cc lz A : Int} (hA : A = lo + cc * 4) (hlo : 0 ≤ lo ∧ lo < 4) (hcc : 1 ≤ cc ∧ cc ≤ 3) (h5 : t.1 5 = 0) (hca : 0 ≤ t.1 10 ∧ t.1 10 ≤ 100) (h8 : 0 ≤ t.1 8 ∧ t.1 8 ≤ 500000) (hd2 : 3 ≤ d) (hW : 3 ≤ t.1 8) (h3 : cc = 1) (hc : pgV xt (d - 1) 299 [.ref 102, ii (a : Int), ii lo, ii lz, ii wz, ii 0, ii (t.2.2.1 47 a)] (rS pre post (takeS t 3)) (RA pre post Q)) : pgV xt d 279 [.ref 102, ii (a : Int), ii A, ii lz, ii wz] (rS pre post t) (RA pre post Q) := by
  refine x_enter pm_X12_applied (L0 := [(0, .ref 102), (1, ii (a : Int)), (2, ii A), (3, ii lz), (4, ii wz)]) rfl (Nat.le_of_ble_eq_true rfl) (by omega) ?_
  refine me1 (pc' := 1) (L' := [(0, .ref 102), (1, ii (a : Int)), (2, ii A), (3, ii lz), (4, ii wz)]) (S' := [.ref 102]) dm_X12_applied_0 rfl rfl rfl rfl ?_
  refine me3 (pc' := 4) (S' := [.ref (102 + 22)]) dm_X12_applied_1 (q_getr hm rfl (fun m i l => rg_47 m i l)) rfl rfl rfl ?_
  refine me1 (pc' := 5) (L' := [(0, .ref 102), (1, ii (a : Int)), (2, ii A), (3, ii lz), (4, ii wz)]) (S' := [ii (a : Int), .ref (102 + 22)]) dm_X12_applied_4 rfl rfl rfl rfl ?_
  refine me3 (pc' := 6) (S' := [ii ((t.2.2.1 47) a)]) dm_X12_applied_5 (q_iald (v := (t.2.2.1 47) a) (k := 47) (n := 84000) hm (fun m i l I J => rc_47 m i l I J) (by omega) (by omega) (by decide) rfl) rfl rfl rfl ?_
  refine me1 (pc' := 8) (L' := [(5, ii ((t.2.2.1 47) a)), (0, .ref 102), (1, ii (a : Int)), (2, ii A), (3, ii lz), (4, ii wz)]) (S' := []) dm_X12_applied_6 rfl rfl rfl rfl ?_
  refine me1 (pc' := 9) (L' := [(5, ii ((t.2.2.1 47) a)), (0, .ref 102), (1, ii (a : Int)), (2, ii A), (3, ii lz), (4, ii wz)]) (S' := [ii A]) dm_X12_applied_8 rfl rfl rfl rfl ?_
  refine y_1ne (a := A) (t := 76) (pc' := 12) dm_X12_applied_9 rfl rfl (by omega) (fun hb1 => ?_) (fun hb1 => ?_)
  · refine me0 (pc' := 77) (S' := [ii 0]) dm_X12_applied_76 rfl rfl rfl rfl ?_
    refine me1 (pc' := 79) (L' := [(6, ii 0), (5, ii ((t.2.2.1 47) a)), (0, .ref 102), (1, ii (a : Int)), (2, ii A), (3, ii lz), (4, ii wz)]) (S' := []) dm_X12_applied_77 rfl rfl rfl rfl ?_
    refine me1 (pc' := 80) (L' := [(6, ii 0), (5, ii ((t.2.2.1 47) a)), (0, .ref 102), (1, ii (a : Int)), (2, ii A), (3, ii lz), (4, ii wz)]) (S' := [ii A]) dm_X12_applied_79 rfl rfl rfl rfl ?_
    refine me0 (pc' := 81) (S' := [ii 2, ii A]) dm_X12_applied_80 rfl rfl rfl rfl ?_
    refine me1 (pc' := 83) (L' := [(6, ii 0), (5, ii ((t.2.2.1 47) a)), (0, .ref 102), (1, ii (a : Int)), (2, ii A), (3, ii lz), (4, ii wz)]) (S' := [ii 0, ii 2, ii A]) dm_X12_applied_81 rfl rfl rfl rfl ?_
    refine y_imul (a := 2) (b := 0) dm_X12_applied_83 (pc' := 84) rfl ?_
    refine pg_st (S' := [ii 0, ii A]) (congrArg (fun z => ii z :: [ii A]) (by decide)) ?_
    refine me0 (pc' := 85) (S' := [ii 2, ii 0, ii A]) dm_X12_applied_84 rfl rfl rfl rfl ?_
    refine me0 (pc' := 86) (S' := [ii 2, ii A]) dm_X12_applied_85 rfl rfl rfl rfl ?_
    refine y_shr (a := A) (k := 2) dm_X12_applied_86 (pc' := 87) rfl (by omega) (by omega) (by decide) ?_
    refine y_1eq (a := A / 4) (t := 96) (pc' := 90) dm_X12_applied_87 rfl rfl (by omega) (fun hb2 => ?_) (fun hb2 => ?_)
    · exfalso; omega
    · refine y_iinc (pc' := 93) (L' := [(6, ii 1), (5, ii ((t.2.2.1 47) a)), (0, .ref 102), (1, ii (a : Int)), (2, ii A), (3, ii lz), (4, ii wz)]) dm_X12_applied_90 (y_incp (a := 0) (c := 1) rfl rfl (by decide)) rfl ?_
      refine me2 (pc' := 79) (S' := []) dm_X12_applied_93 rfl rfl rfl ?_
      refine me1 (pc' := 80) (L' := [(6, ii 1), (5, ii ((t.2.2.1 47) a)), (0, .ref 102), (1, ii (a : Int)), (2, ii A), (3, ii lz), (4, ii wz)]) (S' := [ii A]) dm_X12_applied_79 rfl rfl rfl rfl ?_
      refine me0 (pc' := 81) (S' := [ii 2, ii A]) dm_X12_applied_80 rfl rfl rfl rfl ?_
      refine me1 (pc' := 83) (L' := [(6, ii 1), (5, ii ((t.2.2.1 47) a)), (0, .ref 102), (1, ii (a : Int)), (2, ii A), (3, ii lz), (4, ii wz)]) (S' := [ii 1, ii 2, ii A]) dm_X12_applied_81 rfl rfl rfl rfl ?_
      refine y_imul (a := 2) (b := 1) dm_X12_applied_83 (pc' := 84) rfl ?_
      refine pg_st (S' := [ii 2, ii A]) (congrArg (fun z => ii z :: [ii A]) (by decide)) ?_
      refine me0 (pc' := 85) (S' := [ii 2, ii 2, ii A]) dm_X12_applied_84 rfl rfl rfl rfl ?_
      refine me0 (pc' := 86) (S' := [ii 4, ii A]) dm_X12_applied_85 rfl rfl rfl rfl ?_
      refine y_shr (a := A) (k := 4) dm_X12_applied_86 (pc' := 87) rfl (by omega) (by omega) (by decide) ?_
      refine y_1eq (a := A / 16) (t := 96) (pc' := 90) dm_X12_applied_87 rfl rfl (by omega) (fun hb3 => ?_) (fun hb3 => ?_)
      · refine me1 (pc' := 97) (L' := [(6, ii 1), (5, ii ((t.2.2.1 47) a)), (0, .ref 102), (1, ii (a : Int)), (2, ii A), (3, ii lz), (4, ii wz)]) (S' := [ii A]) dm_X12_applied_96 rfl rfl rfl rfl ?_
        refine me0 (pc' := 98) (S' := [ii 2, ii A]) dm_X12_applied_97 rfl rfl rfl rfl ?_
        refine me1 (pc' := 100) (L' := [(6, ii 1), (5, ii ((t.2.2.1 47) a)), (0, .ref 102), (1, ii (a : Int)), (2, ii A), (3, ii lz), (4, ii wz)]) (S' := [ii 1, ii 2, ii A]) dm_X12_applied_98 rfl rfl rfl rfl ?_
        refine y_imul (a := 2) (b := 1) dm_X12_applied_100 (pc' := 101) rfl ?_
        refine pg_st (S' := [ii 2, ii A]) (congrArg (fun z => ii z :: [ii A]) (by decide)) ?_
        refine y_shr (a := A) (k := 2) dm_X12_applied_101 (pc' := 102) rfl (by omega) (by omega) (by decide) ?_
        refine pg_st (S' := [ii cc]) (congrArg (fun z => ii z :: []) (by omega)) ?_
        refine me1 (pc' := 104) (L' := [(7, ii cc), (6, ii 1), (5, ii ((t.2.2.1 47) a)), (0, .ref 102), (1, ii (a : Int)), (2, ii A), (3, ii lz), (4, ii wz)]) (S' := []) dm_X12_applied_102 rfl rfl rfl rfl ?_
        refine me1 (pc' := 105) (L' := [(7, ii cc), (6, ii 1), (5, ii ((t.2.2.1 47) a)), (0, .ref 102), (1, ii (a : Int)), (2, ii A), (3, ii lz), (4, ii wz)]) (S' := [ii A]) dm_X12_applied_104 rfl rfl rfl rfl ?_
        refine me0 (pc' := 106) (S' := [ii 1, ii A]) dm_X12_applied_105 rfl rfl rfl rfl ?_
        refine me0 (pc' := 107) (S' := [ii 2, ii 1, ii A]) dm_X12_applied_106 rfl rfl rfl rfl ?_
        refine me1 (pc' := 109) (L' := [(7, ii cc), (6, ii 1), (5, ii ((t.2.2.1 47) a)), (0, .ref 102), (1, ii (a : Int)), (2, ii A), (3, ii lz), (4, ii wz)]) (S' := [ii 1, ii 2, ii 1, ii A]) dm_X12_applied_107 rfl rfl rfl rfl ?_
        refine y_imul (a := 2) (b := 1) dm_X12_applied_109 (pc' := 110) rfl ?_
        refine pg_st (S' := [ii 2, ii 1, ii A]) (congrArg (fun z => ii z :: [ii 1, ii A]) (by decide)) ?_
        refine y_shl (a := 1) (k := 2) dm_X12_applied_110 (pc' := 111) rfl (by decide) ?_
        refine me0 (pc' := 112) (S' := [ii 1, ii (1 * 4), ii A]) dm_X12_applied_111 rfl rfl rfl rfl ?_
        refine y_isub (a := 1 * 4) (b := 1) dm_X12_applied_112 (pc' := 113) rfl ?_
        refine y_andM (a := A) (k := 2) dm_X12_applied_113 (pc' := 114) rfl (by omega) (by omega) (by decide) (by decide) ?_
        refine pg_st (S' := [ii lo]) (congrArg (fun z => ii z :: []) (by omega)) ?_
        refine me1 (pc' := 116) (L' := [(8, ii lo), (7, ii cc), (6, ii 1), (5, ii ((t.2.2.1 47) a)), (0, .ref 102), (1, ii (a : Int)), (2, ii A), (3, ii lz), (4, ii wz)]) (S' := []) dm_X12_applied_114 rfl rfl rfl rfl ?_
        refine me1 (pc' := 117) (L' := [(8, ii lo), (7, ii cc), (6, ii 1), (5, ii ((t.2.2.1 47) a)), (0, .ref 102), (1, ii (a : Int)), (2, ii A), (3, ii lz), (4, ii wz)]) (S' := [.ref 102]) dm_X12_applied_116 rfl rfl rfl rfl ?_
        refine me0 (pc' := 118) (S' := [ii 3, .ref 102]) dm_X12_applied_117 rfl rfl rfl rfl ?_
        refine me1 (pc' := 120) (L' := [(8, ii lo), (7, ii cc), (6, ii 1), (5, ii ((t.2.2.1 47) a)), (0, .ref 102), (1, ii (a : Int)), (2, ii A), (3, ii lz), (4, ii wz)]) (S' := [ii ((t.2.2.1 47) a), ii 3, .ref 102]) dm_X12_applied_118 rfl rfl rfl rfl ?_
        refine x_cv (pc' := 123) (rest := []) dm_X12_applied_120 rfl (q_inv (As := [ii 3, ii ((t.2.2.1 47) a)]) (S := []) hm rfl rfl rfl) rfl rfl rfl (r_takes_ (s := t) (n := 3) hm (by omega) h5 hca.1 hca.2 h8.1 h8.2 (by omega)) ?_
        rintro _ _ ⟨rfl, rfl⟩
        refine y_zne (c := decide ((3 : Int) ≤ t.1 8)) (t := 128) (pc' := 126) dm_X12_applied_123 rfl rfl (fun hb4 => ?_) (fun hb4 => ?_)
        · replace hb4 := dT hb4
          refine pg_cast (h2 := rI pre post ((takeS t 3).1) ((takeS t 3).2.1) ((takeS t 3).2.2.1) ((takeS t 3).2.2.2)) (by rw [tkS_t (by omega)]) ?_
          refine me1 (pc' := 130) (L' := [(8, ii lo), (7, ii cc), (6, ii 1), (5, ii ((t.2.2.1 47) a)), (0, .ref 102), (1, ii (a : Int)), (2, ii A), (3, ii lz), (4, ii wz)]) (S' := [ii cc]) dm_X12_applied_128 rfl rfl rfl rfl ?_
          refine me0 (pc' := 131) (S' := [ii 3, ii cc]) dm_X12_applied_130 rfl rfl rfl rfl ?_
          refine y_2ne (a := cc) (b := 3) (t := 149) (pc' := 134) dm_X12_applied_131 rfl rfl (by omega) (fun hb5 => ?_) (fun hb5 => ?_)
          · refine me1 (pc' := 150) (L' := [(8, ii lo), (7, ii cc), (6, ii 1), (5, ii ((t.2.2.1 47) a)), (0, .ref 102), (1, ii (a : Int)), (2, ii A), (3, ii lz), (4, ii wz)]) (S' := [.ref 102]) dm_X12_applied_149 rfl rfl rfl rfl ?_
            refine me1 (pc' := 151) (L' := [(8, ii lo), (7, ii cc), (6, ii 1), (5, ii ((t.2.2.1 47) a)), (0, .ref 102), (1, ii (a : Int)), (2, ii A), (3, ii lz), (4, ii wz)]) (S' := [ii (a : Int), .ref 102]) dm_X12_applied_150 rfl rfl rfl rfl ?_
            refine me1 (pc' := 153) (L' := [(8, ii lo), (7, ii cc), (6, ii 1), (5, ii ((t.2.2.1 47) a)), (0, .ref 102), (1, ii (a : Int)), (2, ii A), (3, ii lz), (4, ii wz)]) (S' := [ii lo, ii (a : Int), .ref 102]) dm_X12_applied_151 rfl rfl rfl rfl ?_
            refine me1 (pc' := 154) (L' := [(8, ii lo), (7, ii cc), (6, ii 1), (5, ii ((t.2.2.1 47) a)), (0, .ref 102), (1, ii (a : Int)), (2, ii A), (3, ii lz), (4, ii wz)]) (S' := [ii lz, ii lo, ii (a : Int), .ref 102]) dm_X12_applied_153 rfl rfl rfl rfl ?_
            refine me1 (pc' := 156) (L' := [(8, ii lo), (7, ii cc), (6, ii 1), (5, ii ((t.2.2.1 47) a)), (0, .ref 102), (1, ii (a : Int)), (2, ii A), (3, ii lz), (4, ii wz)]) (S' := [ii wz, ii lz, ii lo, ii (a : Int), .ref 102]) dm_X12_applied_154 rfl rfl rfl rfl ?_
            refine me1 (pc' := 158) (L' := [(8, ii lo), (7, ii cc), (6, ii 1), (5, ii ((t.2.2.1 47) a)), (0, .ref 102), (1, ii (a : Int)), (2, ii A), (3, ii lz), (4, ii wz)]) (S' := [ii cc, ii wz, ii lz, ii lo, ii (a : Int), .ref 102]) dm_X12_applied_156 rfl rfl rfl rfl ?_
            refine me0 (pc' := 159) (S' := [ii 2, ii cc, ii wz, ii lz, ii lo, ii (a : Int), .ref 102]) dm_X12_applied_158 rfl rfl rfl rfl ?_
            refine y_2ne (a := cc) (b := 2) (t := 166) (pc' := 162) dm_X12_applied_159 rfl rfl (by omega) (fun hb6 => ?_) (fun hb6 => ?_)
            · refine me0 (pc' := 167) (S' := [ii 0, ii wz, ii lz, ii lo, ii (a : Int), .ref 102]) dm_X12_applied_166 rfl rfl rfl rfl ?_
              refine me1 (pc' := 169) (L' := [(8, ii lo), (7, ii cc), (6, ii 1), (5, ii ((t.2.2.1 47) a)), (0, .ref 102), (1, ii (a : Int)), (2, ii A), (3, ii lz), (4, ii wz)]) (S' := [ii ((t.2.2.1 47) a), ii 0, ii wz, ii lz, ii lo, ii (a : Int), .ref 102]) dm_X12_applied_167 rfl rfl rfl rfl ?_
              refine x_cv (pc' := 172) (rest := []) dm_X12_applied_169 rfl (q_inv (As := [ii (a : Int), ii lo, ii lz, ii wz, ii 0, ii ((t.2.2.1 47) a)]) (S := []) hm rfl rfl rfl) rfl rfl rfl (hc) ?_
              rintro x1 g1 f1
              obtain ⟨t1, z1, rfl, rfl, hE1, hZ1, hQ1⟩ := f1
              refine y_ret (r := some (ii z1)) dm_X12_applied_172 rfl rfl rfl ?_
              exact ⟨_, rfl, _, _, rfl, rfl, hE1, hZ1, hQ1⟩
            · exfalso; omega
          · exfalso; omega
        · replace hb4 := dF hb4; exfalso; omega
      · exfalso; omega
  · exfalso; omega
theorem a_fold12 {xt : mj_X} {d : Nat} {pre post : mj_H} {t : RS} (hm : pre.length = 102) (hd1 : 1 ≤ d) {a : Nat} {wz : Int} {Q : RS → Int → Prop} (ha : a < 84000) {lo cc lz A : Int} (hA : A = lo + cc * 4) (hlo : 0 ≤ lo ∧ lo < 4) (hcc : 1 ≤ cc ∧ cc ≤ 3) (h5 : t.1 5 = 0) (hca : 0 ≤ t.1 10 ∧ t.1 10 ≤ 100) (h8 : 0 ≤ t.1 8 ∧ t.1 8 ≤ 500000) (hd2 : 3 ≤ d) (hW : 3 ≤ t.1 8) (h3 : cc = 2) (hc : pgV xt (d - 1) 299 [.ref 102, ii (a : Int), ii lo, ii lz, ii wz, ii 1, ii (t.2.2.1 47 a)] (rS pre post (takeS t 3)) (RA pre post Q)) : pgV xt d 279 [.ref 102, ii (a : Int), ii A, ii lz, ii wz] (rS pre post t) (RA pre post Q) := by
  refine x_enter pm_X12_applied (L0 := [(0, .ref 102), (1, ii (a : Int)), (2, ii A), (3, ii lz), (4, ii wz)]) rfl (Nat.le_of_ble_eq_true rfl) (by omega) ?_
  refine me1 (pc' := 1) (L' := [(0, .ref 102), (1, ii (a : Int)), (2, ii A), (3, ii lz), (4, ii wz)]) (S' := [.ref 102]) dm_X12_applied_0 rfl rfl rfl rfl ?_
  refine me3 (pc' := 4) (S' := [.ref (102 + 22)]) dm_X12_applied_1 (q_getr hm rfl (fun m i l => rg_47 m i l)) rfl rfl rfl ?_
  refine me1 (pc' := 5) (L' := [(0, .ref 102), (1, ii (a : Int)), (2, ii A), (3, ii lz), (4, ii wz)]) (S' := [ii (a : Int), .ref (102 + 22)]) dm_X12_applied_4 rfl rfl rfl rfl ?_
  refine me3 (pc' := 6) (S' := [ii ((t.2.2.1 47) a)]) dm_X12_applied_5 (q_iald (v := (t.2.2.1 47) a) (k := 47) (n := 84000) hm (fun m i l I J => rc_47 m i l I J) (by omega) (by omega) (by decide) rfl) rfl rfl rfl ?_
  refine me1 (pc' := 8) (L' := [(5, ii ((t.2.2.1 47) a)), (0, .ref 102), (1, ii (a : Int)), (2, ii A), (3, ii lz), (4, ii wz)]) (S' := []) dm_X12_applied_6 rfl rfl rfl rfl ?_
  refine me1 (pc' := 9) (L' := [(5, ii ((t.2.2.1 47) a)), (0, .ref 102), (1, ii (a : Int)), (2, ii A), (3, ii lz), (4, ii wz)]) (S' := [ii A]) dm_X12_applied_8 rfl rfl rfl rfl ?_
  refine y_1ne (a := A) (t := 76) (pc' := 12) dm_X12_applied_9 rfl rfl (by omega) (fun hb1 => ?_) (fun hb1 => ?_)
  · refine me0 (pc' := 77) (S' := [ii 0]) dm_X12_applied_76 rfl rfl rfl rfl ?_
    refine me1 (pc' := 79) (L' := [(6, ii 0), (5, ii ((t.2.2.1 47) a)), (0, .ref 102), (1, ii (a : Int)), (2, ii A), (3, ii lz), (4, ii wz)]) (S' := []) dm_X12_applied_77 rfl rfl rfl rfl ?_
    refine me1 (pc' := 80) (L' := [(6, ii 0), (5, ii ((t.2.2.1 47) a)), (0, .ref 102), (1, ii (a : Int)), (2, ii A), (3, ii lz), (4, ii wz)]) (S' := [ii A]) dm_X12_applied_79 rfl rfl rfl rfl ?_
    refine me0 (pc' := 81) (S' := [ii 2, ii A]) dm_X12_applied_80 rfl rfl rfl rfl ?_
    refine me1 (pc' := 83) (L' := [(6, ii 0), (5, ii ((t.2.2.1 47) a)), (0, .ref 102), (1, ii (a : Int)), (2, ii A), (3, ii lz), (4, ii wz)]) (S' := [ii 0, ii 2, ii A]) dm_X12_applied_81 rfl rfl rfl rfl ?_
    refine y_imul (a := 2) (b := 0) dm_X12_applied_83 (pc' := 84) rfl ?_
    refine pg_st (S' := [ii 0, ii A]) (congrArg (fun z => ii z :: [ii A]) (by decide)) ?_
    refine me0 (pc' := 85) (S' := [ii 2, ii 0, ii A]) dm_X12_applied_84 rfl rfl rfl rfl ?_
    refine me0 (pc' := 86) (S' := [ii 2, ii A]) dm_X12_applied_85 rfl rfl rfl rfl ?_
    refine y_shr (a := A) (k := 2) dm_X12_applied_86 (pc' := 87) rfl (by omega) (by omega) (by decide) ?_
    refine y_1eq (a := A / 4) (t := 96) (pc' := 90) dm_X12_applied_87 rfl rfl (by omega) (fun hb2 => ?_) (fun hb2 => ?_)
    · exfalso; omega
    · refine y_iinc (pc' := 93) (L' := [(6, ii 1), (5, ii ((t.2.2.1 47) a)), (0, .ref 102), (1, ii (a : Int)), (2, ii A), (3, ii lz), (4, ii wz)]) dm_X12_applied_90 (y_incp (a := 0) (c := 1) rfl rfl (by decide)) rfl ?_
      refine me2 (pc' := 79) (S' := []) dm_X12_applied_93 rfl rfl rfl ?_
      refine me1 (pc' := 80) (L' := [(6, ii 1), (5, ii ((t.2.2.1 47) a)), (0, .ref 102), (1, ii (a : Int)), (2, ii A), (3, ii lz), (4, ii wz)]) (S' := [ii A]) dm_X12_applied_79 rfl rfl rfl rfl ?_
      refine me0 (pc' := 81) (S' := [ii 2, ii A]) dm_X12_applied_80 rfl rfl rfl rfl ?_
      refine me1 (pc' := 83) (L' := [(6, ii 1), (5, ii ((t.2.2.1 47) a)), (0, .ref 102), (1, ii (a : Int)), (2, ii A), (3, ii lz), (4, ii wz)]) (S' := [ii 1, ii 2, ii A]) dm_X12_applied_81 rfl rfl rfl rfl ?_
      refine y_imul (a := 2) (b := 1) dm_X12_applied_83 (pc' := 84) rfl ?_
      refine pg_st (S' := [ii 2, ii A]) (congrArg (fun z => ii z :: [ii A]) (by decide)) ?_
      refine me0 (pc' := 85) (S' := [ii 2, ii 2, ii A]) dm_X12_applied_84 rfl rfl rfl rfl ?_
      refine me0 (pc' := 86) (S' := [ii 4, ii A]) dm_X12_applied_85 rfl rfl rfl rfl ?_
      refine y_shr (a := A) (k := 4) dm_X12_applied_86 (pc' := 87) rfl (by omega) (by omega) (by decide) ?_
      refine y_1eq (a := A / 16) (t := 96) (pc' := 90) dm_X12_applied_87 rfl rfl (by omega) (fun hb3 => ?_) (fun hb3 => ?_)
      · refine me1 (pc' := 97) (L' := [(6, ii 1), (5, ii ((t.2.2.1 47) a)), (0, .ref 102), (1, ii (a : Int)), (2, ii A), (3, ii lz), (4, ii wz)]) (S' := [ii A]) dm_X12_applied_96 rfl rfl rfl rfl ?_
        refine me0 (pc' := 98) (S' := [ii 2, ii A]) dm_X12_applied_97 rfl rfl rfl rfl ?_
        refine me1 (pc' := 100) (L' := [(6, ii 1), (5, ii ((t.2.2.1 47) a)), (0, .ref 102), (1, ii (a : Int)), (2, ii A), (3, ii lz), (4, ii wz)]) (S' := [ii 1, ii 2, ii A]) dm_X12_applied_98 rfl rfl rfl rfl ?_
        refine y_imul (a := 2) (b := 1) dm_X12_applied_100 (pc' := 101) rfl ?_
        refine pg_st (S' := [ii 2, ii A]) (congrArg (fun z => ii z :: [ii A]) (by decide)) ?_
        refine y_shr (a := A) (k := 2) dm_X12_applied_101 (pc' := 102) rfl (by omega) (by omega) (by decide) ?_
        refine pg_st (S' := [ii cc]) (congrArg (fun z => ii z :: []) (by omega)) ?_
        refine me1 (pc' := 104) (L' := [(7, ii cc), (6, ii 1), (5, ii ((t.2.2.1 47) a)), (0, .ref 102), (1, ii (a : Int)), (2, ii A), (3, ii lz), (4, ii wz)]) (S' := []) dm_X12_applied_102 rfl rfl rfl rfl ?_
        refine me1 (pc' := 105) (L' := [(7, ii cc), (6, ii 1), (5, ii ((t.2.2.1 47) a)), (0, .ref 102), (1, ii (a : Int)), (2, ii A), (3, ii lz), (4, ii wz)]) (S' := [ii A]) dm_X12_applied_104 rfl rfl rfl rfl ?_
        refine me0 (pc' := 106) (S' := [ii 1, ii A]) dm_X12_applied_105 rfl rfl rfl rfl ?_
        refine me0 (pc' := 107) (S' := [ii 2, ii 1, ii A]) dm_X12_applied_106 rfl rfl rfl rfl ?_
        refine me1 (pc' := 109) (L' := [(7, ii cc), (6, ii 1), (5, ii ((t.2.2.1 47) a)), (0, .ref 102), (1, ii (a : Int)), (2, ii A), (3, ii lz), (4, ii wz)]) (S' := [ii 1, ii 2, ii 1, ii A]) dm_X12_applied_107 rfl rfl rfl rfl ?_
        refine y_imul (a := 2) (b := 1) dm_X12_applied_109 (pc' := 110) rfl ?_
        refine pg_st (S' := [ii 2, ii 1, ii A]) (congrArg (fun z => ii z :: [ii 1, ii A]) (by decide)) ?_
        refine y_shl (a := 1) (k := 2) dm_X12_applied_110 (pc' := 111) rfl (by decide) ?_
        refine me0 (pc' := 112) (S' := [ii 1, ii (1 * 4), ii A]) dm_X12_applied_111 rfl rfl rfl rfl ?_
        refine y_isub (a := 1 * 4) (b := 1) dm_X12_applied_112 (pc' := 113) rfl ?_
        refine y_andM (a := A) (k := 2) dm_X12_applied_113 (pc' := 114) rfl (by omega) (by omega) (by decide) (by decide) ?_
        refine pg_st (S' := [ii lo]) (congrArg (fun z => ii z :: []) (by omega)) ?_
        refine me1 (pc' := 116) (L' := [(8, ii lo), (7, ii cc), (6, ii 1), (5, ii ((t.2.2.1 47) a)), (0, .ref 102), (1, ii (a : Int)), (2, ii A), (3, ii lz), (4, ii wz)]) (S' := []) dm_X12_applied_114 rfl rfl rfl rfl ?_
        refine me1 (pc' := 117) (L' := [(8, ii lo), (7, ii cc), (6, ii 1), (5, ii ((t.2.2.1 47) a)), (0, .ref 102), (1, ii (a : Int)), (2, ii A), (3, ii lz), (4, ii wz)]) (S' := [.ref 102]) dm_X12_applied_116 rfl rfl rfl rfl ?_
        refine me0 (pc' := 118) (S' := [ii 3, .ref 102]) dm_X12_applied_117 rfl rfl rfl rfl ?_
        refine me1 (pc' := 120) (L' := [(8, ii lo), (7, ii cc), (6, ii 1), (5, ii ((t.2.2.1 47) a)), (0, .ref 102), (1, ii (a : Int)), (2, ii A), (3, ii lz), (4, ii wz)]) (S' := [ii ((t.2.2.1 47) a), ii 3, .ref 102]) dm_X12_applied_118 rfl rfl rfl rfl ?_
        refine x_cv (pc' := 123) (rest := []) dm_X12_applied_120 rfl (q_inv (As := [ii 3, ii ((t.2.2.1 47) a)]) (S := []) hm rfl rfl rfl) rfl rfl rfl (r_takes_ (s := t) (n := 3) hm (by omega) h5 hca.1 hca.2 h8.1 h8.2 (by omega)) ?_
        rintro _ _ ⟨rfl, rfl⟩
        refine y_zne (c := decide ((3 : Int) ≤ t.1 8)) (t := 128) (pc' := 126) dm_X12_applied_123 rfl rfl (fun hb4 => ?_) (fun hb4 => ?_)
        · replace hb4 := dT hb4
          refine pg_cast (h2 := rI pre post ((takeS t 3).1) ((takeS t 3).2.1) ((takeS t 3).2.2.1) ((takeS t 3).2.2.2)) (by rw [tkS_t (by omega)]) ?_
          refine me1 (pc' := 130) (L' := [(8, ii lo), (7, ii cc), (6, ii 1), (5, ii ((t.2.2.1 47) a)), (0, .ref 102), (1, ii (a : Int)), (2, ii A), (3, ii lz), (4, ii wz)]) (S' := [ii cc]) dm_X12_applied_128 rfl rfl rfl rfl ?_
          refine me0 (pc' := 131) (S' := [ii 3, ii cc]) dm_X12_applied_130 rfl rfl rfl rfl ?_
          refine y_2ne (a := cc) (b := 3) (t := 149) (pc' := 134) dm_X12_applied_131 rfl rfl (by omega) (fun hb5 => ?_) (fun hb5 => ?_)
          · refine me1 (pc' := 150) (L' := [(8, ii lo), (7, ii cc), (6, ii 1), (5, ii ((t.2.2.1 47) a)), (0, .ref 102), (1, ii (a : Int)), (2, ii A), (3, ii lz), (4, ii wz)]) (S' := [.ref 102]) dm_X12_applied_149 rfl rfl rfl rfl ?_
            refine me1 (pc' := 151) (L' := [(8, ii lo), (7, ii cc), (6, ii 1), (5, ii ((t.2.2.1 47) a)), (0, .ref 102), (1, ii (a : Int)), (2, ii A), (3, ii lz), (4, ii wz)]) (S' := [ii (a : Int), .ref 102]) dm_X12_applied_150 rfl rfl rfl rfl ?_
            refine me1 (pc' := 153) (L' := [(8, ii lo), (7, ii cc), (6, ii 1), (5, ii ((t.2.2.1 47) a)), (0, .ref 102), (1, ii (a : Int)), (2, ii A), (3, ii lz), (4, ii wz)]) (S' := [ii lo, ii (a : Int), .ref 102]) dm_X12_applied_151 rfl rfl rfl rfl ?_
            refine me1 (pc' := 154) (L' := [(8, ii lo), (7, ii cc), (6, ii 1), (5, ii ((t.2.2.1 47) a)), (0, .ref 102), (1, ii (a : Int)), (2, ii A), (3, ii lz), (4, ii wz)]) (S' := [ii lz, ii lo, ii (a : Int), .ref 102]) dm_X12_applied_153 rfl rfl rfl rfl ?_
            refine me1 (pc' := 156) (L' := [(8, ii lo), (7, ii cc), (6, ii 1), (5, ii ((t.2.2.1 47) a)), (0, .ref 102), (1, ii (a : Int)), (2, ii A), (3, ii lz), (4, ii wz)]) (S' := [ii wz, ii lz, ii lo, ii (a : Int), .ref 102]) dm_X12_applied_154 rfl rfl rfl rfl ?_
            refine me1 (pc' := 158) (L' := [(8, ii lo), (7, ii cc), (6, ii 1), (5, ii ((t.2.2.1 47) a)), (0, .ref 102), (1, ii (a : Int)), (2, ii A), (3, ii lz), (4, ii wz)]) (S' := [ii cc, ii wz, ii lz, ii lo, ii (a : Int), .ref 102]) dm_X12_applied_156 rfl rfl rfl rfl ?_
            refine me0 (pc' := 159) (S' := [ii 2, ii cc, ii wz, ii lz, ii lo, ii (a : Int), .ref 102]) dm_X12_applied_158 rfl rfl rfl rfl ?_
            refine y_2ne (a := cc) (b := 2) (t := 166) (pc' := 162) dm_X12_applied_159 rfl rfl (by omega) (fun hb6 => ?_) (fun hb6 => ?_)
            · exfalso; omega
            · refine me0 (pc' := 163) (S' := [ii 1, ii wz, ii lz, ii lo, ii (a : Int), .ref 102]) dm_X12_applied_162 rfl rfl rfl rfl ?_
              refine me2 (pc' := 167) (S' := [ii 1, ii wz, ii lz, ii lo, ii (a : Int), .ref 102]) dm_X12_applied_163 rfl rfl rfl ?_
              refine me1 (pc' := 169) (L' := [(8, ii lo), (7, ii cc), (6, ii 1), (5, ii ((t.2.2.1 47) a)), (0, .ref 102), (1, ii (a : Int)), (2, ii A), (3, ii lz), (4, ii wz)]) (S' := [ii ((t.2.2.1 47) a), ii 1, ii wz, ii lz, ii lo, ii (a : Int), .ref 102]) dm_X12_applied_167 rfl rfl rfl rfl ?_
              refine x_cv (pc' := 172) (rest := []) dm_X12_applied_169 rfl (q_inv (As := [ii (a : Int), ii lo, ii lz, ii wz, ii 1, ii ((t.2.2.1 47) a)]) (S := []) hm rfl rfl rfl) rfl rfl rfl (hc) ?_
              rintro x1 g1 f1
              obtain ⟨t1, z1, rfl, rfl, hE1, hZ1, hQ1⟩ := f1
              refine y_ret (r := some (ii z1)) dm_X12_applied_172 rfl rfl rfl ?_
              exact ⟨_, rfl, _, _, rfl, rfl, hE1, hZ1, hQ1⟩
          · exfalso; omega
        · replace hb4 := dF hb4; exfalso; omega
      · exfalso; omega
  · exfalso; omega
theorem a_no2 {xt : mj_X} {d : Nat} {pre post : mj_H} {t : RS} (hm : pre.length = 102) (hd1 : 1 ≤ d) {a : Nat} {wz : Int} {Q : RS → Int → Prop} (ha : a < 84000) {lo cc lz A : Int} (hA : A = lo + cc * 16) (hlo : 0 ≤ lo ∧ lo < 16) (hcc : 1 ≤ cc ∧ cc ≤ 3) (h5 : t.1 5 = 0) (hca : 0 ≤ t.1 10 ∧ t.1 10 ≤ 100) (h8 : 0 ≤ t.1 8 ∧ t.1 8 ≤ 500000) (hd2 : 3 ≤ d) (hW : t.1 8 < 3) (k : Q (failS t 10 (t.2.2.1 47 a)) (-1)) : pgV xt d 279 [.ref 102, ii (a : Int), ii A, ii lz, ii wz] (rS pre post t) (RA pre post Q) := by
  refine x_enter pm_X12_applied (L0 := [(0, .ref 102), (1, ii (a : Int)), (2, ii A), (3, ii lz), (4, ii wz)]) rfl (Nat.le_of_ble_eq_true rfl) (by omega) ?_
  refine me1 (pc' := 1) (L' := [(0, .ref 102), (1, ii (a : Int)), (2, ii A), (3, ii lz), (4, ii wz)]) (S' := [.ref 102]) dm_X12_applied_0 rfl rfl rfl rfl ?_
  refine me3 (pc' := 4) (S' := [.ref (102 + 22)]) dm_X12_applied_1 (q_getr hm rfl (fun m i l => rg_47 m i l)) rfl rfl rfl ?_
  refine me1 (pc' := 5) (L' := [(0, .ref 102), (1, ii (a : Int)), (2, ii A), (3, ii lz), (4, ii wz)]) (S' := [ii (a : Int), .ref (102 + 22)]) dm_X12_applied_4 rfl rfl rfl rfl ?_
  refine me3 (pc' := 6) (S' := [ii ((t.2.2.1 47) a)]) dm_X12_applied_5 (q_iald (v := (t.2.2.1 47) a) (k := 47) (n := 84000) hm (fun m i l I J => rc_47 m i l I J) (by omega) (by omega) (by decide) rfl) rfl rfl rfl ?_
  refine me1 (pc' := 8) (L' := [(5, ii ((t.2.2.1 47) a)), (0, .ref 102), (1, ii (a : Int)), (2, ii A), (3, ii lz), (4, ii wz)]) (S' := []) dm_X12_applied_6 rfl rfl rfl rfl ?_
  refine me1 (pc' := 9) (L' := [(5, ii ((t.2.2.1 47) a)), (0, .ref 102), (1, ii (a : Int)), (2, ii A), (3, ii lz), (4, ii wz)]) (S' := [ii A]) dm_X12_applied_8 rfl rfl rfl rfl ?_
  refine y_1ne (a := A) (t := 76) (pc' := 12) dm_X12_applied_9 rfl rfl (by omega) (fun hb1 => ?_) (fun hb1 => ?_)
  · refine me0 (pc' := 77) (S' := [ii 0]) dm_X12_applied_76 rfl rfl rfl rfl ?_
    refine me1 (pc' := 79) (L' := [(6, ii 0), (5, ii ((t.2.2.1 47) a)), (0, .ref 102), (1, ii (a : Int)), (2, ii A), (3, ii lz), (4, ii wz)]) (S' := []) dm_X12_applied_77 rfl rfl rfl rfl ?_
    refine me1 (pc' := 80) (L' := [(6, ii 0), (5, ii ((t.2.2.1 47) a)), (0, .ref 102), (1, ii (a : Int)), (2, ii A), (3, ii lz), (4, ii wz)]) (S' := [ii A]) dm_X12_applied_79 rfl rfl rfl rfl ?_
    refine me0 (pc' := 81) (S' := [ii 2, ii A]) dm_X12_applied_80 rfl rfl rfl rfl ?_
    refine me1 (pc' := 83) (L' := [(6, ii 0), (5, ii ((t.2.2.1 47) a)), (0, .ref 102), (1, ii (a : Int)), (2, ii A), (3, ii lz), (4, ii wz)]) (S' := [ii 0, ii 2, ii A]) dm_X12_applied_81 rfl rfl rfl rfl ?_
    refine y_imul (a := 2) (b := 0) dm_X12_applied_83 (pc' := 84) rfl ?_
    refine pg_st (S' := [ii 0, ii A]) (congrArg (fun z => ii z :: [ii A]) (by decide)) ?_
    refine me0 (pc' := 85) (S' := [ii 2, ii 0, ii A]) dm_X12_applied_84 rfl rfl rfl rfl ?_
    refine me0 (pc' := 86) (S' := [ii 2, ii A]) dm_X12_applied_85 rfl rfl rfl rfl ?_
    refine y_shr (a := A) (k := 2) dm_X12_applied_86 (pc' := 87) rfl (by omega) (by omega) (by decide) ?_
    refine y_1eq (a := A / 4) (t := 96) (pc' := 90) dm_X12_applied_87 rfl rfl (by omega) (fun hb2 => ?_) (fun hb2 => ?_)
    · exfalso; omega
    · refine y_iinc (pc' := 93) (L' := [(6, ii 1), (5, ii ((t.2.2.1 47) a)), (0, .ref 102), (1, ii (a : Int)), (2, ii A), (3, ii lz), (4, ii wz)]) dm_X12_applied_90 (y_incp (a := 0) (c := 1) rfl rfl (by decide)) rfl ?_
      refine me2 (pc' := 79) (S' := []) dm_X12_applied_93 rfl rfl rfl ?_
      refine me1 (pc' := 80) (L' := [(6, ii 1), (5, ii ((t.2.2.1 47) a)), (0, .ref 102), (1, ii (a : Int)), (2, ii A), (3, ii lz), (4, ii wz)]) (S' := [ii A]) dm_X12_applied_79 rfl rfl rfl rfl ?_
      refine me0 (pc' := 81) (S' := [ii 2, ii A]) dm_X12_applied_80 rfl rfl rfl rfl ?_
      refine me1 (pc' := 83) (L' := [(6, ii 1), (5, ii ((t.2.2.1 47) a)), (0, .ref 102), (1, ii (a : Int)), (2, ii A), (3, ii lz), (4, ii wz)]) (S' := [ii 1, ii 2, ii A]) dm_X12_applied_81 rfl rfl rfl rfl ?_
      refine y_imul (a := 2) (b := 1) dm_X12_applied_83 (pc' := 84) rfl ?_
      refine pg_st (S' := [ii 2, ii A]) (congrArg (fun z => ii z :: [ii A]) (by decide)) ?_
      refine me0 (pc' := 85) (S' := [ii 2, ii 2, ii A]) dm_X12_applied_84 rfl rfl rfl rfl ?_
      refine me0 (pc' := 86) (S' := [ii 4, ii A]) dm_X12_applied_85 rfl rfl rfl rfl ?_
      refine y_shr (a := A) (k := 4) dm_X12_applied_86 (pc' := 87) rfl (by omega) (by omega) (by decide) ?_
      refine y_1eq (a := A / 16) (t := 96) (pc' := 90) dm_X12_applied_87 rfl rfl (by omega) (fun hb3 => ?_) (fun hb3 => ?_)
      · exfalso; omega
      · refine y_iinc (pc' := 93) (L' := [(6, ii 2), (5, ii ((t.2.2.1 47) a)), (0, .ref 102), (1, ii (a : Int)), (2, ii A), (3, ii lz), (4, ii wz)]) dm_X12_applied_90 (y_incp (a := 1) (c := 1) rfl rfl (by decide)) rfl ?_
        refine me2 (pc' := 79) (S' := []) dm_X12_applied_93 rfl rfl rfl ?_
        refine me1 (pc' := 80) (L' := [(6, ii 2), (5, ii ((t.2.2.1 47) a)), (0, .ref 102), (1, ii (a : Int)), (2, ii A), (3, ii lz), (4, ii wz)]) (S' := [ii A]) dm_X12_applied_79 rfl rfl rfl rfl ?_
        refine me0 (pc' := 81) (S' := [ii 2, ii A]) dm_X12_applied_80 rfl rfl rfl rfl ?_
        refine me1 (pc' := 83) (L' := [(6, ii 2), (5, ii ((t.2.2.1 47) a)), (0, .ref 102), (1, ii (a : Int)), (2, ii A), (3, ii lz), (4, ii wz)]) (S' := [ii 2, ii 2, ii A]) dm_X12_applied_81 rfl rfl rfl rfl ?_
        refine y_imul (a := 2) (b := 2) dm_X12_applied_83 (pc' := 84) rfl ?_
        refine pg_st (S' := [ii 4, ii A]) (congrArg (fun z => ii z :: [ii A]) (by decide)) ?_
        refine me0 (pc' := 85) (S' := [ii 2, ii 4, ii A]) dm_X12_applied_84 rfl rfl rfl rfl ?_
        refine me0 (pc' := 86) (S' := [ii 6, ii A]) dm_X12_applied_85 rfl rfl rfl rfl ?_
        refine y_shr (a := A) (k := 6) dm_X12_applied_86 (pc' := 87) rfl (by omega) (by omega) (by decide) ?_
        refine y_1eq (a := A / 64) (t := 96) (pc' := 90) dm_X12_applied_87 rfl rfl (by omega) (fun hb4 => ?_) (fun hb4 => ?_)
        · refine me1 (pc' := 97) (L' := [(6, ii 2), (5, ii ((t.2.2.1 47) a)), (0, .ref 102), (1, ii (a : Int)), (2, ii A), (3, ii lz), (4, ii wz)]) (S' := [ii A]) dm_X12_applied_96 rfl rfl rfl rfl ?_
          refine me0 (pc' := 98) (S' := [ii 2, ii A]) dm_X12_applied_97 rfl rfl rfl rfl ?_
          refine me1 (pc' := 100) (L' := [(6, ii 2), (5, ii ((t.2.2.1 47) a)), (0, .ref 102), (1, ii (a : Int)), (2, ii A), (3, ii lz), (4, ii wz)]) (S' := [ii 2, ii 2, ii A]) dm_X12_applied_98 rfl rfl rfl rfl ?_
          refine y_imul (a := 2) (b := 2) dm_X12_applied_100 (pc' := 101) rfl ?_
          refine pg_st (S' := [ii 4, ii A]) (congrArg (fun z => ii z :: [ii A]) (by decide)) ?_
          refine y_shr (a := A) (k := 4) dm_X12_applied_101 (pc' := 102) rfl (by omega) (by omega) (by decide) ?_
          refine pg_st (S' := [ii cc]) (congrArg (fun z => ii z :: []) (by omega)) ?_
          refine me1 (pc' := 104) (L' := [(7, ii cc), (6, ii 2), (5, ii ((t.2.2.1 47) a)), (0, .ref 102), (1, ii (a : Int)), (2, ii A), (3, ii lz), (4, ii wz)]) (S' := []) dm_X12_applied_102 rfl rfl rfl rfl ?_
          refine me1 (pc' := 105) (L' := [(7, ii cc), (6, ii 2), (5, ii ((t.2.2.1 47) a)), (0, .ref 102), (1, ii (a : Int)), (2, ii A), (3, ii lz), (4, ii wz)]) (S' := [ii A]) dm_X12_applied_104 rfl rfl rfl rfl ?_
          refine me0 (pc' := 106) (S' := [ii 1, ii A]) dm_X12_applied_105 rfl rfl rfl rfl ?_
          refine me0 (pc' := 107) (S' := [ii 2, ii 1, ii A]) dm_X12_applied_106 rfl rfl rfl rfl ?_
          refine me1 (pc' := 109) (L' := [(7, ii cc), (6, ii 2), (5, ii ((t.2.2.1 47) a)), (0, .ref 102), (1, ii (a : Int)), (2, ii A), (3, ii lz), (4, ii wz)]) (S' := [ii 2, ii 2, ii 1, ii A]) dm_X12_applied_107 rfl rfl rfl rfl ?_
          refine y_imul (a := 2) (b := 2) dm_X12_applied_109 (pc' := 110) rfl ?_
          refine pg_st (S' := [ii 4, ii 1, ii A]) (congrArg (fun z => ii z :: [ii 1, ii A]) (by decide)) ?_
          refine y_shl (a := 1) (k := 4) dm_X12_applied_110 (pc' := 111) rfl (by decide) ?_
          refine me0 (pc' := 112) (S' := [ii 1, ii (1 * 16), ii A]) dm_X12_applied_111 rfl rfl rfl rfl ?_
          refine y_isub (a := 1 * 16) (b := 1) dm_X12_applied_112 (pc' := 113) rfl ?_
          refine y_andM (a := A) (k := 4) dm_X12_applied_113 (pc' := 114) rfl (by omega) (by omega) (by decide) (by decide) ?_
          refine pg_st (S' := [ii lo]) (congrArg (fun z => ii z :: []) (by omega)) ?_
          refine me1 (pc' := 116) (L' := [(8, ii lo), (7, ii cc), (6, ii 2), (5, ii ((t.2.2.1 47) a)), (0, .ref 102), (1, ii (a : Int)), (2, ii A), (3, ii lz), (4, ii wz)]) (S' := []) dm_X12_applied_114 rfl rfl rfl rfl ?_
          refine me1 (pc' := 117) (L' := [(8, ii lo), (7, ii cc), (6, ii 2), (5, ii ((t.2.2.1 47) a)), (0, .ref 102), (1, ii (a : Int)), (2, ii A), (3, ii lz), (4, ii wz)]) (S' := [.ref 102]) dm_X12_applied_116 rfl rfl rfl rfl ?_
          refine me0 (pc' := 118) (S' := [ii 3, .ref 102]) dm_X12_applied_117 rfl rfl rfl rfl ?_
          refine me1 (pc' := 120) (L' := [(8, ii lo), (7, ii cc), (6, ii 2), (5, ii ((t.2.2.1 47) a)), (0, .ref 102), (1, ii (a : Int)), (2, ii A), (3, ii lz), (4, ii wz)]) (S' := [ii ((t.2.2.1 47) a), ii 3, .ref 102]) dm_X12_applied_118 rfl rfl rfl rfl ?_
          refine x_cv (pc' := 123) (rest := []) dm_X12_applied_120 rfl (q_inv (As := [ii 3, ii ((t.2.2.1 47) a)]) (S := []) hm rfl rfl rfl) rfl rfl rfl (r_takes_ (s := t) (n := 3) hm (by omega) h5 hca.1 hca.2 h8.1 h8.2 (by omega)) ?_
          rintro _ _ ⟨rfl, rfl⟩
          refine y_zne (c := decide ((3 : Int) ≤ t.1 8)) (t := 128) (pc' := 126) dm_X12_applied_123 rfl rfl (fun hb5 => ?_) (fun hb5 => ?_)
          · replace hb5 := dT hb5; exfalso; omega
          · replace hb5 := dF hb5
            refine me0 (pc' := 127) (S' := [ii (-1)]) dm_X12_applied_126 rfl rfl rfl rfl ?_
            refine y_ret (r := some (ii (-1))) dm_X12_applied_127 rfl rfl rfl ?_
            rw [tkS_f hW]
            exact ⟨_, rfl, _, _, rfl, rfl, by rw [failS_5]; decide, by omega, k⟩
        · exfalso; omega
  · exfalso; omega
theorem a_each2 {xt : mj_X} {d : Nat} {pre post : mj_H} {t : RS} (hm : pre.length = 102) (hd1 : 1 ≤ d) {a : Nat} {wz : Int} {Q : RS → Int → Prop} (ha : a < 84000) {lo cc lz A : Int} (hA : A = lo + cc * 16) (hlo : 0 ≤ lo ∧ lo < 16) (hcc : 1 ≤ cc ∧ cc ≤ 3) (h5 : t.1 5 = 0) (hca : 0 ≤ t.1 10 ∧ t.1 10 ≤ 100) (h8 : 0 ≤ t.1 8 ∧ t.1 8 ≤ 500000) (hd2 : 3 ≤ d) (hW : 3 ≤ t.1 8) (h3 : cc = 3) (hc : pgV xt (d - 1) 298 [.ref 102, ii (a : Int), ii lo, ii lz, ii wz, ii (t.2.2.1 47 a)] (rS pre post (takeS t 3)) (RA pre post Q)) : pgV xt d 279 [.ref 102, ii (a : Int), ii A, ii lz, ii wz] (rS pre post t) (RA pre post Q) := by
  refine x_enter pm_X12_applied (L0 := [(0, .ref 102), (1, ii (a : Int)), (2, ii A), (3, ii lz), (4, ii wz)]) rfl (Nat.le_of_ble_eq_true rfl) (by omega) ?_
  refine me1 (pc' := 1) (L' := [(0, .ref 102), (1, ii (a : Int)), (2, ii A), (3, ii lz), (4, ii wz)]) (S' := [.ref 102]) dm_X12_applied_0 rfl rfl rfl rfl ?_
  refine me3 (pc' := 4) (S' := [.ref (102 + 22)]) dm_X12_applied_1 (q_getr hm rfl (fun m i l => rg_47 m i l)) rfl rfl rfl ?_
  refine me1 (pc' := 5) (L' := [(0, .ref 102), (1, ii (a : Int)), (2, ii A), (3, ii lz), (4, ii wz)]) (S' := [ii (a : Int), .ref (102 + 22)]) dm_X12_applied_4 rfl rfl rfl rfl ?_
  refine me3 (pc' := 6) (S' := [ii ((t.2.2.1 47) a)]) dm_X12_applied_5 (q_iald (v := (t.2.2.1 47) a) (k := 47) (n := 84000) hm (fun m i l I J => rc_47 m i l I J) (by omega) (by omega) (by decide) rfl) rfl rfl rfl ?_
  refine me1 (pc' := 8) (L' := [(5, ii ((t.2.2.1 47) a)), (0, .ref 102), (1, ii (a : Int)), (2, ii A), (3, ii lz), (4, ii wz)]) (S' := []) dm_X12_applied_6 rfl rfl rfl rfl ?_
  refine me1 (pc' := 9) (L' := [(5, ii ((t.2.2.1 47) a)), (0, .ref 102), (1, ii (a : Int)), (2, ii A), (3, ii lz), (4, ii wz)]) (S' := [ii A]) dm_X12_applied_8 rfl rfl rfl rfl ?_
  refine y_1ne (a := A) (t := 76) (pc' := 12) dm_X12_applied_9 rfl rfl (by omega) (fun hb1 => ?_) (fun hb1 => ?_)
  · refine me0 (pc' := 77) (S' := [ii 0]) dm_X12_applied_76 rfl rfl rfl rfl ?_
    refine me1 (pc' := 79) (L' := [(6, ii 0), (5, ii ((t.2.2.1 47) a)), (0, .ref 102), (1, ii (a : Int)), (2, ii A), (3, ii lz), (4, ii wz)]) (S' := []) dm_X12_applied_77 rfl rfl rfl rfl ?_
    refine me1 (pc' := 80) (L' := [(6, ii 0), (5, ii ((t.2.2.1 47) a)), (0, .ref 102), (1, ii (a : Int)), (2, ii A), (3, ii lz), (4, ii wz)]) (S' := [ii A]) dm_X12_applied_79 rfl rfl rfl rfl ?_
    refine me0 (pc' := 81) (S' := [ii 2, ii A]) dm_X12_applied_80 rfl rfl rfl rfl ?_
    refine me1 (pc' := 83) (L' := [(6, ii 0), (5, ii ((t.2.2.1 47) a)), (0, .ref 102), (1, ii (a : Int)), (2, ii A), (3, ii lz), (4, ii wz)]) (S' := [ii 0, ii 2, ii A]) dm_X12_applied_81 rfl rfl rfl rfl ?_
    refine y_imul (a := 2) (b := 0) dm_X12_applied_83 (pc' := 84) rfl ?_
    refine pg_st (S' := [ii 0, ii A]) (congrArg (fun z => ii z :: [ii A]) (by decide)) ?_
    refine me0 (pc' := 85) (S' := [ii 2, ii 0, ii A]) dm_X12_applied_84 rfl rfl rfl rfl ?_
    refine me0 (pc' := 86) (S' := [ii 2, ii A]) dm_X12_applied_85 rfl rfl rfl rfl ?_
    refine y_shr (a := A) (k := 2) dm_X12_applied_86 (pc' := 87) rfl (by omega) (by omega) (by decide) ?_
    refine y_1eq (a := A / 4) (t := 96) (pc' := 90) dm_X12_applied_87 rfl rfl (by omega) (fun hb2 => ?_) (fun hb2 => ?_)
    · exfalso; omega
    · refine y_iinc (pc' := 93) (L' := [(6, ii 1), (5, ii ((t.2.2.1 47) a)), (0, .ref 102), (1, ii (a : Int)), (2, ii A), (3, ii lz), (4, ii wz)]) dm_X12_applied_90 (y_incp (a := 0) (c := 1) rfl rfl (by decide)) rfl ?_
      refine me2 (pc' := 79) (S' := []) dm_X12_applied_93 rfl rfl rfl ?_
      refine me1 (pc' := 80) (L' := [(6, ii 1), (5, ii ((t.2.2.1 47) a)), (0, .ref 102), (1, ii (a : Int)), (2, ii A), (3, ii lz), (4, ii wz)]) (S' := [ii A]) dm_X12_applied_79 rfl rfl rfl rfl ?_
      refine me0 (pc' := 81) (S' := [ii 2, ii A]) dm_X12_applied_80 rfl rfl rfl rfl ?_
      refine me1 (pc' := 83) (L' := [(6, ii 1), (5, ii ((t.2.2.1 47) a)), (0, .ref 102), (1, ii (a : Int)), (2, ii A), (3, ii lz), (4, ii wz)]) (S' := [ii 1, ii 2, ii A]) dm_X12_applied_81 rfl rfl rfl rfl ?_
      refine y_imul (a := 2) (b := 1) dm_X12_applied_83 (pc' := 84) rfl ?_
      refine pg_st (S' := [ii 2, ii A]) (congrArg (fun z => ii z :: [ii A]) (by decide)) ?_
      refine me0 (pc' := 85) (S' := [ii 2, ii 2, ii A]) dm_X12_applied_84 rfl rfl rfl rfl ?_
      refine me0 (pc' := 86) (S' := [ii 4, ii A]) dm_X12_applied_85 rfl rfl rfl rfl ?_
      refine y_shr (a := A) (k := 4) dm_X12_applied_86 (pc' := 87) rfl (by omega) (by omega) (by decide) ?_
      refine y_1eq (a := A / 16) (t := 96) (pc' := 90) dm_X12_applied_87 rfl rfl (by omega) (fun hb3 => ?_) (fun hb3 => ?_)
      · exfalso; omega
      · refine y_iinc (pc' := 93) (L' := [(6, ii 2), (5, ii ((t.2.2.1 47) a)), (0, .ref 102), (1, ii (a : Int)), (2, ii A), (3, ii lz), (4, ii wz)]) dm_X12_applied_90 (y_incp (a := 1) (c := 1) rfl rfl (by decide)) rfl ?_
        refine me2 (pc' := 79) (S' := []) dm_X12_applied_93 rfl rfl rfl ?_
        refine me1 (pc' := 80) (L' := [(6, ii 2), (5, ii ((t.2.2.1 47) a)), (0, .ref 102), (1, ii (a : Int)), (2, ii A), (3, ii lz), (4, ii wz)]) (S' := [ii A]) dm_X12_applied_79 rfl rfl rfl rfl ?_
        refine me0 (pc' := 81) (S' := [ii 2, ii A]) dm_X12_applied_80 rfl rfl rfl rfl ?_
        refine me1 (pc' := 83) (L' := [(6, ii 2), (5, ii ((t.2.2.1 47) a)), (0, .ref 102), (1, ii (a : Int)), (2, ii A), (3, ii lz), (4, ii wz)]) (S' := [ii 2, ii 2, ii A]) dm_X12_applied_81 rfl rfl rfl rfl ?_
        refine y_imul (a := 2) (b := 2) dm_X12_applied_83 (pc' := 84) rfl ?_
        refine pg_st (S' := [ii 4, ii A]) (congrArg (fun z => ii z :: [ii A]) (by decide)) ?_
        refine me0 (pc' := 85) (S' := [ii 2, ii 4, ii A]) dm_X12_applied_84 rfl rfl rfl rfl ?_
        refine me0 (pc' := 86) (S' := [ii 6, ii A]) dm_X12_applied_85 rfl rfl rfl rfl ?_
        refine y_shr (a := A) (k := 6) dm_X12_applied_86 (pc' := 87) rfl (by omega) (by omega) (by decide) ?_
        refine y_1eq (a := A / 64) (t := 96) (pc' := 90) dm_X12_applied_87 rfl rfl (by omega) (fun hb4 => ?_) (fun hb4 => ?_)
        · refine me1 (pc' := 97) (L' := [(6, ii 2), (5, ii ((t.2.2.1 47) a)), (0, .ref 102), (1, ii (a : Int)), (2, ii A), (3, ii lz), (4, ii wz)]) (S' := [ii A]) dm_X12_applied_96 rfl rfl rfl rfl ?_
          refine me0 (pc' := 98) (S' := [ii 2, ii A]) dm_X12_applied_97 rfl rfl rfl rfl ?_
          refine me1 (pc' := 100) (L' := [(6, ii 2), (5, ii ((t.2.2.1 47) a)), (0, .ref 102), (1, ii (a : Int)), (2, ii A), (3, ii lz), (4, ii wz)]) (S' := [ii 2, ii 2, ii A]) dm_X12_applied_98 rfl rfl rfl rfl ?_
          refine y_imul (a := 2) (b := 2) dm_X12_applied_100 (pc' := 101) rfl ?_
          refine pg_st (S' := [ii 4, ii A]) (congrArg (fun z => ii z :: [ii A]) (by decide)) ?_
          refine y_shr (a := A) (k := 4) dm_X12_applied_101 (pc' := 102) rfl (by omega) (by omega) (by decide) ?_
          refine pg_st (S' := [ii cc]) (congrArg (fun z => ii z :: []) (by omega)) ?_
          refine me1 (pc' := 104) (L' := [(7, ii cc), (6, ii 2), (5, ii ((t.2.2.1 47) a)), (0, .ref 102), (1, ii (a : Int)), (2, ii A), (3, ii lz), (4, ii wz)]) (S' := []) dm_X12_applied_102 rfl rfl rfl rfl ?_
          refine me1 (pc' := 105) (L' := [(7, ii cc), (6, ii 2), (5, ii ((t.2.2.1 47) a)), (0, .ref 102), (1, ii (a : Int)), (2, ii A), (3, ii lz), (4, ii wz)]) (S' := [ii A]) dm_X12_applied_104 rfl rfl rfl rfl ?_
          refine me0 (pc' := 106) (S' := [ii 1, ii A]) dm_X12_applied_105 rfl rfl rfl rfl ?_
          refine me0 (pc' := 107) (S' := [ii 2, ii 1, ii A]) dm_X12_applied_106 rfl rfl rfl rfl ?_
          refine me1 (pc' := 109) (L' := [(7, ii cc), (6, ii 2), (5, ii ((t.2.2.1 47) a)), (0, .ref 102), (1, ii (a : Int)), (2, ii A), (3, ii lz), (4, ii wz)]) (S' := [ii 2, ii 2, ii 1, ii A]) dm_X12_applied_107 rfl rfl rfl rfl ?_
          refine y_imul (a := 2) (b := 2) dm_X12_applied_109 (pc' := 110) rfl ?_
          refine pg_st (S' := [ii 4, ii 1, ii A]) (congrArg (fun z => ii z :: [ii 1, ii A]) (by decide)) ?_
          refine y_shl (a := 1) (k := 4) dm_X12_applied_110 (pc' := 111) rfl (by decide) ?_
          refine me0 (pc' := 112) (S' := [ii 1, ii (1 * 16), ii A]) dm_X12_applied_111 rfl rfl rfl rfl ?_
          refine y_isub (a := 1 * 16) (b := 1) dm_X12_applied_112 (pc' := 113) rfl ?_
          refine y_andM (a := A) (k := 4) dm_X12_applied_113 (pc' := 114) rfl (by omega) (by omega) (by decide) (by decide) ?_
          refine pg_st (S' := [ii lo]) (congrArg (fun z => ii z :: []) (by omega)) ?_
          refine me1 (pc' := 116) (L' := [(8, ii lo), (7, ii cc), (6, ii 2), (5, ii ((t.2.2.1 47) a)), (0, .ref 102), (1, ii (a : Int)), (2, ii A), (3, ii lz), (4, ii wz)]) (S' := []) dm_X12_applied_114 rfl rfl rfl rfl ?_
          refine me1 (pc' := 117) (L' := [(8, ii lo), (7, ii cc), (6, ii 2), (5, ii ((t.2.2.1 47) a)), (0, .ref 102), (1, ii (a : Int)), (2, ii A), (3, ii lz), (4, ii wz)]) (S' := [.ref 102]) dm_X12_applied_116 rfl rfl rfl rfl ?_
          refine me0 (pc' := 118) (S' := [ii 3, .ref 102]) dm_X12_applied_117 rfl rfl rfl rfl ?_
          refine me1 (pc' := 120) (L' := [(8, ii lo), (7, ii cc), (6, ii 2), (5, ii ((t.2.2.1 47) a)), (0, .ref 102), (1, ii (a : Int)), (2, ii A), (3, ii lz), (4, ii wz)]) (S' := [ii ((t.2.2.1 47) a), ii 3, .ref 102]) dm_X12_applied_118 rfl rfl rfl rfl ?_
          refine x_cv (pc' := 123) (rest := []) dm_X12_applied_120 rfl (q_inv (As := [ii 3, ii ((t.2.2.1 47) a)]) (S := []) hm rfl rfl rfl) rfl rfl rfl (r_takes_ (s := t) (n := 3) hm (by omega) h5 hca.1 hca.2 h8.1 h8.2 (by omega)) ?_
          rintro _ _ ⟨rfl, rfl⟩
          refine y_zne (c := decide ((3 : Int) ≤ t.1 8)) (t := 128) (pc' := 126) dm_X12_applied_123 rfl rfl (fun hb5 => ?_) (fun hb5 => ?_)
          · replace hb5 := dT hb5
            refine pg_cast (h2 := rI pre post ((takeS t 3).1) ((takeS t 3).2.1) ((takeS t 3).2.2.1) ((takeS t 3).2.2.2)) (by rw [tkS_t (by omega)]) ?_
            refine me1 (pc' := 130) (L' := [(8, ii lo), (7, ii cc), (6, ii 2), (5, ii ((t.2.2.1 47) a)), (0, .ref 102), (1, ii (a : Int)), (2, ii A), (3, ii lz), (4, ii wz)]) (S' := [ii cc]) dm_X12_applied_128 rfl rfl rfl rfl ?_
            refine me0 (pc' := 131) (S' := [ii 3, ii cc]) dm_X12_applied_130 rfl rfl rfl rfl ?_
            refine y_2ne (a := cc) (b := 3) (t := 149) (pc' := 134) dm_X12_applied_131 rfl rfl (by omega) (fun hb6 => ?_) (fun hb6 => ?_)
            · exfalso; omega
            · refine me1 (pc' := 135) (L' := [(8, ii lo), (7, ii cc), (6, ii 2), (5, ii ((t.2.2.1 47) a)), (0, .ref 102), (1, ii (a : Int)), (2, ii A), (3, ii lz), (4, ii wz)]) (S' := [.ref 102]) dm_X12_applied_134 rfl rfl rfl rfl ?_
              refine me1 (pc' := 136) (L' := [(8, ii lo), (7, ii cc), (6, ii 2), (5, ii ((t.2.2.1 47) a)), (0, .ref 102), (1, ii (a : Int)), (2, ii A), (3, ii lz), (4, ii wz)]) (S' := [ii (a : Int), .ref 102]) dm_X12_applied_135 rfl rfl rfl rfl ?_
              refine me1 (pc' := 138) (L' := [(8, ii lo), (7, ii cc), (6, ii 2), (5, ii ((t.2.2.1 47) a)), (0, .ref 102), (1, ii (a : Int)), (2, ii A), (3, ii lz), (4, ii wz)]) (S' := [ii lo, ii (a : Int), .ref 102]) dm_X12_applied_136 rfl rfl rfl rfl ?_
              refine me1 (pc' := 139) (L' := [(8, ii lo), (7, ii cc), (6, ii 2), (5, ii ((t.2.2.1 47) a)), (0, .ref 102), (1, ii (a : Int)), (2, ii A), (3, ii lz), (4, ii wz)]) (S' := [ii lz, ii lo, ii (a : Int), .ref 102]) dm_X12_applied_138 rfl rfl rfl rfl ?_
              refine me1 (pc' := 141) (L' := [(8, ii lo), (7, ii cc), (6, ii 2), (5, ii ((t.2.2.1 47) a)), (0, .ref 102), (1, ii (a : Int)), (2, ii A), (3, ii lz), (4, ii wz)]) (S' := [ii wz, ii lz, ii lo, ii (a : Int), .ref 102]) dm_X12_applied_139 rfl rfl rfl rfl ?_
              refine me1 (pc' := 143) (L' := [(8, ii lo), (7, ii cc), (6, ii 2), (5, ii ((t.2.2.1 47) a)), (0, .ref 102), (1, ii (a : Int)), (2, ii A), (3, ii lz), (4, ii wz)]) (S' := [ii ((t.2.2.1 47) a), ii wz, ii lz, ii lo, ii (a : Int), .ref 102]) dm_X12_applied_141 rfl rfl rfl rfl ?_
              refine x_cv (pc' := 146) (rest := []) dm_X12_applied_143 rfl (q_inv (As := [ii (a : Int), ii lo, ii lz, ii wz, ii ((t.2.2.1 47) a)]) (S := []) hm rfl rfl rfl) rfl rfl rfl (hc) ?_
              rintro x1 g1 f1
              obtain ⟨t1, z1, rfl, rfl, hE1, hZ1, hQ1⟩ := f1
              refine me2 (pc' := 172) (S' := [ii z1]) dm_X12_applied_146 rfl rfl rfl ?_
              refine y_ret (r := some (ii z1)) dm_X12_applied_172 rfl rfl rfl ?_
              exact ⟨_, rfl, _, _, rfl, rfl, hE1, hZ1, hQ1⟩
          · replace hb5 := dF hb5; exfalso; omega
        · exfalso; omega
  · exfalso; omega
theorem a_fold21 {xt : mj_X} {d : Nat} {pre post : mj_H} {t : RS} (hm : pre.length = 102) (hd1 : 1 ≤ d) {a : Nat} {wz : Int} {Q : RS → Int → Prop} (ha : a < 84000) {lo cc lz A : Int} (hA : A = lo + cc * 16) (hlo : 0 ≤ lo ∧ lo < 16) (hcc : 1 ≤ cc ∧ cc ≤ 3) (h5 : t.1 5 = 0) (hca : 0 ≤ t.1 10 ∧ t.1 10 ≤ 100) (h8 : 0 ≤ t.1 8 ∧ t.1 8 ≤ 500000) (hd2 : 3 ≤ d) (hW : 3 ≤ t.1 8) (h3 : cc = 1) (hc : pgV xt (d - 1) 299 [.ref 102, ii (a : Int), ii lo, ii lz, ii wz, ii 0, ii (t.2.2.1 47 a)] (rS pre post (takeS t 3)) (RA pre post Q)) : pgV xt d 279 [.ref 102, ii (a : Int), ii A, ii lz, ii wz] (rS pre post t) (RA pre post Q) := by
  refine x_enter pm_X12_applied (L0 := [(0, .ref 102), (1, ii (a : Int)), (2, ii A), (3, ii lz), (4, ii wz)]) rfl (Nat.le_of_ble_eq_true rfl) (by omega) ?_
  refine me1 (pc' := 1) (L' := [(0, .ref 102), (1, ii (a : Int)), (2, ii A), (3, ii lz), (4, ii wz)]) (S' := [.ref 102]) dm_X12_applied_0 rfl rfl rfl rfl ?_
  refine me3 (pc' := 4) (S' := [.ref (102 + 22)]) dm_X12_applied_1 (q_getr hm rfl (fun m i l => rg_47 m i l)) rfl rfl rfl ?_
  refine me1 (pc' := 5) (L' := [(0, .ref 102), (1, ii (a : Int)), (2, ii A), (3, ii lz), (4, ii wz)]) (S' := [ii (a : Int), .ref (102 + 22)]) dm_X12_applied_4 rfl rfl rfl rfl ?_
  refine me3 (pc' := 6) (S' := [ii ((t.2.2.1 47) a)]) dm_X12_applied_5 (q_iald (v := (t.2.2.1 47) a) (k := 47) (n := 84000) hm (fun m i l I J => rc_47 m i l I J) (by omega) (by omega) (by decide) rfl) rfl rfl rfl ?_
  refine me1 (pc' := 8) (L' := [(5, ii ((t.2.2.1 47) a)), (0, .ref 102), (1, ii (a : Int)), (2, ii A), (3, ii lz), (4, ii wz)]) (S' := []) dm_X12_applied_6 rfl rfl rfl rfl ?_
  refine me1 (pc' := 9) (L' := [(5, ii ((t.2.2.1 47) a)), (0, .ref 102), (1, ii (a : Int)), (2, ii A), (3, ii lz), (4, ii wz)]) (S' := [ii A]) dm_X12_applied_8 rfl rfl rfl rfl ?_
  refine y_1ne (a := A) (t := 76) (pc' := 12) dm_X12_applied_9 rfl rfl (by omega) (fun hb1 => ?_) (fun hb1 => ?_)
  · refine me0 (pc' := 77) (S' := [ii 0]) dm_X12_applied_76 rfl rfl rfl rfl ?_
    refine me1 (pc' := 79) (L' := [(6, ii 0), (5, ii ((t.2.2.1 47) a)), (0, .ref 102), (1, ii (a : Int)), (2, ii A), (3, ii lz), (4, ii wz)]) (S' := []) dm_X12_applied_77 rfl rfl rfl rfl ?_
    refine me1 (pc' := 80) (L' := [(6, ii 0), (5, ii ((t.2.2.1 47) a)), (0, .ref 102), (1, ii (a : Int)), (2, ii A), (3, ii lz), (4, ii wz)]) (S' := [ii A]) dm_X12_applied_79 rfl rfl rfl rfl ?_
    refine me0 (pc' := 81) (S' := [ii 2, ii A]) dm_X12_applied_80 rfl rfl rfl rfl ?_
    refine me1 (pc' := 83) (L' := [(6, ii 0), (5, ii ((t.2.2.1 47) a)), (0, .ref 102), (1, ii (a : Int)), (2, ii A), (3, ii lz), (4, ii wz)]) (S' := [ii 0, ii 2, ii A]) dm_X12_applied_81 rfl rfl rfl rfl ?_
    refine y_imul (a := 2) (b := 0) dm_X12_applied_83 (pc' := 84) rfl ?_
    refine pg_st (S' := [ii 0, ii A]) (congrArg (fun z => ii z :: [ii A]) (by decide)) ?_
    refine me0 (pc' := 85) (S' := [ii 2, ii 0, ii A]) dm_X12_applied_84 rfl rfl rfl rfl ?_
    refine me0 (pc' := 86) (S' := [ii 2, ii A]) dm_X12_applied_85 rfl rfl rfl rfl ?_
    refine y_shr (a := A) (k := 2) dm_X12_applied_86 (pc' := 87) rfl (by omega) (by omega) (by decide) ?_
    refine y_1eq (a := A / 4) (t := 96) (pc' := 90) dm_X12_applied_87 rfl rfl (by omega) (fun hb2 => ?_) (fun hb2 => ?_)
    · exfalso; omega
    · refine y_iinc (pc' := 93) (L' := [(6, ii 1), (5, ii ((t.2.2.1 47) a)), (0, .ref 102), (1, ii (a : Int)), (2, ii A), (3, ii lz), (4, ii wz)]) dm_X12_applied_90 (y_incp (a := 0) (c := 1) rfl rfl (by decide)) rfl ?_
      refine me2 (pc' := 79) (S' := []) dm_X12_applied_93 rfl rfl rfl ?_
      refine me1 (pc' := 80) (L' := [(6, ii 1), (5, ii ((t.2.2.1 47) a)), (0, .ref 102), (1, ii (a : Int)), (2, ii A), (3, ii lz), (4, ii wz)]) (S' := [ii A]) dm_X12_applied_79 rfl rfl rfl rfl ?_
      refine me0 (pc' := 81) (S' := [ii 2, ii A]) dm_X12_applied_80 rfl rfl rfl rfl ?_
      refine me1 (pc' := 83) (L' := [(6, ii 1), (5, ii ((t.2.2.1 47) a)), (0, .ref 102), (1, ii (a : Int)), (2, ii A), (3, ii lz), (4, ii wz)]) (S' := [ii 1, ii 2, ii A]) dm_X12_applied_81 rfl rfl rfl rfl ?_
      refine y_imul (a := 2) (b := 1) dm_X12_applied_83 (pc' := 84) rfl ?_
      refine pg_st (S' := [ii 2, ii A]) (congrArg (fun z => ii z :: [ii A]) (by decide)) ?_
      refine me0 (pc' := 85) (S' := [ii 2, ii 2, ii A]) dm_X12_applied_84 rfl rfl rfl rfl ?_
      refine me0 (pc' := 86) (S' := [ii 4, ii A]) dm_X12_applied_85 rfl rfl rfl rfl ?_
      refine y_shr (a := A) (k := 4) dm_X12_applied_86 (pc' := 87) rfl (by omega) (by omega) (by decide) ?_
      refine y_1eq (a := A / 16) (t := 96) (pc' := 90) dm_X12_applied_87 rfl rfl (by omega) (fun hb3 => ?_) (fun hb3 => ?_)
      · exfalso; omega
      · refine y_iinc (pc' := 93) (L' := [(6, ii 2), (5, ii ((t.2.2.1 47) a)), (0, .ref 102), (1, ii (a : Int)), (2, ii A), (3, ii lz), (4, ii wz)]) dm_X12_applied_90 (y_incp (a := 1) (c := 1) rfl rfl (by decide)) rfl ?_
        refine me2 (pc' := 79) (S' := []) dm_X12_applied_93 rfl rfl rfl ?_
        refine me1 (pc' := 80) (L' := [(6, ii 2), (5, ii ((t.2.2.1 47) a)), (0, .ref 102), (1, ii (a : Int)), (2, ii A), (3, ii lz), (4, ii wz)]) (S' := [ii A]) dm_X12_applied_79 rfl rfl rfl rfl ?_
        refine me0 (pc' := 81) (S' := [ii 2, ii A]) dm_X12_applied_80 rfl rfl rfl rfl ?_
        refine me1 (pc' := 83) (L' := [(6, ii 2), (5, ii ((t.2.2.1 47) a)), (0, .ref 102), (1, ii (a : Int)), (2, ii A), (3, ii lz), (4, ii wz)]) (S' := [ii 2, ii 2, ii A]) dm_X12_applied_81 rfl rfl rfl rfl ?_
        refine y_imul (a := 2) (b := 2) dm_X12_applied_83 (pc' := 84) rfl ?_
        refine pg_st (S' := [ii 4, ii A]) (congrArg (fun z => ii z :: [ii A]) (by decide)) ?_
        refine me0 (pc' := 85) (S' := [ii 2, ii 4, ii A]) dm_X12_applied_84 rfl rfl rfl rfl ?_
        refine me0 (pc' := 86) (S' := [ii 6, ii A]) dm_X12_applied_85 rfl rfl rfl rfl ?_
        refine y_shr (a := A) (k := 6) dm_X12_applied_86 (pc' := 87) rfl (by omega) (by omega) (by decide) ?_
        refine y_1eq (a := A / 64) (t := 96) (pc' := 90) dm_X12_applied_87 rfl rfl (by omega) (fun hb4 => ?_) (fun hb4 => ?_)
        · refine me1 (pc' := 97) (L' := [(6, ii 2), (5, ii ((t.2.2.1 47) a)), (0, .ref 102), (1, ii (a : Int)), (2, ii A), (3, ii lz), (4, ii wz)]) (S' := [ii A]) dm_X12_applied_96 rfl rfl rfl rfl ?_
          refine me0 (pc' := 98) (S' := [ii 2, ii A]) dm_X12_applied_97 rfl rfl rfl rfl ?_
          refine me1 (pc' := 100) (L' := [(6, ii 2), (5, ii ((t.2.2.1 47) a)), (0, .ref 102), (1, ii (a : Int)), (2, ii A), (3, ii lz), (4, ii wz)]) (S' := [ii 2, ii 2, ii A]) dm_X12_applied_98 rfl rfl rfl rfl ?_
          refine y_imul (a := 2) (b := 2) dm_X12_applied_100 (pc' := 101) rfl ?_
          refine pg_st (S' := [ii 4, ii A]) (congrArg (fun z => ii z :: [ii A]) (by decide)) ?_
          refine y_shr (a := A) (k := 4) dm_X12_applied_101 (pc' := 102) rfl (by omega) (by omega) (by decide) ?_
          refine pg_st (S' := [ii cc]) (congrArg (fun z => ii z :: []) (by omega)) ?_
          refine me1 (pc' := 104) (L' := [(7, ii cc), (6, ii 2), (5, ii ((t.2.2.1 47) a)), (0, .ref 102), (1, ii (a : Int)), (2, ii A), (3, ii lz), (4, ii wz)]) (S' := []) dm_X12_applied_102 rfl rfl rfl rfl ?_
          refine me1 (pc' := 105) (L' := [(7, ii cc), (6, ii 2), (5, ii ((t.2.2.1 47) a)), (0, .ref 102), (1, ii (a : Int)), (2, ii A), (3, ii lz), (4, ii wz)]) (S' := [ii A]) dm_X12_applied_104 rfl rfl rfl rfl ?_
          refine me0 (pc' := 106) (S' := [ii 1, ii A]) dm_X12_applied_105 rfl rfl rfl rfl ?_
          refine me0 (pc' := 107) (S' := [ii 2, ii 1, ii A]) dm_X12_applied_106 rfl rfl rfl rfl ?_
          refine me1 (pc' := 109) (L' := [(7, ii cc), (6, ii 2), (5, ii ((t.2.2.1 47) a)), (0, .ref 102), (1, ii (a : Int)), (2, ii A), (3, ii lz), (4, ii wz)]) (S' := [ii 2, ii 2, ii 1, ii A]) dm_X12_applied_107 rfl rfl rfl rfl ?_
          refine y_imul (a := 2) (b := 2) dm_X12_applied_109 (pc' := 110) rfl ?_
          refine pg_st (S' := [ii 4, ii 1, ii A]) (congrArg (fun z => ii z :: [ii 1, ii A]) (by decide)) ?_
          refine y_shl (a := 1) (k := 4) dm_X12_applied_110 (pc' := 111) rfl (by decide) ?_
          refine me0 (pc' := 112) (S' := [ii 1, ii (1 * 16), ii A]) dm_X12_applied_111 rfl rfl rfl rfl ?_
          refine y_isub (a := 1 * 16) (b := 1) dm_X12_applied_112 (pc' := 113) rfl ?_
          refine y_andM (a := A) (k := 4) dm_X12_applied_113 (pc' := 114) rfl (by omega) (by omega) (by decide) (by decide) ?_
          refine pg_st (S' := [ii lo]) (congrArg (fun z => ii z :: []) (by omega)) ?_
          refine me1 (pc' := 116) (L' := [(8, ii lo), (7, ii cc), (6, ii 2), (5, ii ((t.2.2.1 47) a)), (0, .ref 102), (1, ii (a : Int)), (2, ii A), (3, ii lz), (4, ii wz)]) (S' := []) dm_X12_applied_114 rfl rfl rfl rfl ?_
          refine me1 (pc' := 117) (L' := [(8, ii lo), (7, ii cc), (6, ii 2), (5, ii ((t.2.2.1 47) a)), (0, .ref 102), (1, ii (a : Int)), (2, ii A), (3, ii lz), (4, ii wz)]) (S' := [.ref 102]) dm_X12_applied_116 rfl rfl rfl rfl ?_
          refine me0 (pc' := 118) (S' := [ii 3, .ref 102]) dm_X12_applied_117 rfl rfl rfl rfl ?_
          refine me1 (pc' := 120) (L' := [(8, ii lo), (7, ii cc), (6, ii 2), (5, ii ((t.2.2.1 47) a)), (0, .ref 102), (1, ii (a : Int)), (2, ii A), (3, ii lz), (4, ii wz)]) (S' := [ii ((t.2.2.1 47) a), ii 3, .ref 102]) dm_X12_applied_118 rfl rfl rfl rfl ?_
          refine x_cv (pc' := 123) (rest := []) dm_X12_applied_120 rfl (q_inv (As := [ii 3, ii ((t.2.2.1 47) a)]) (S := []) hm rfl rfl rfl) rfl rfl rfl (r_takes_ (s := t) (n := 3) hm (by omega) h5 hca.1 hca.2 h8.1 h8.2 (by omega)) ?_
          rintro _ _ ⟨rfl, rfl⟩
          refine y_zne (c := decide ((3 : Int) ≤ t.1 8)) (t := 128) (pc' := 126) dm_X12_applied_123 rfl rfl (fun hb5 => ?_) (fun hb5 => ?_)
          · replace hb5 := dT hb5
            refine pg_cast (h2 := rI pre post ((takeS t 3).1) ((takeS t 3).2.1) ((takeS t 3).2.2.1) ((takeS t 3).2.2.2)) (by rw [tkS_t (by omega)]) ?_
            refine me1 (pc' := 130) (L' := [(8, ii lo), (7, ii cc), (6, ii 2), (5, ii ((t.2.2.1 47) a)), (0, .ref 102), (1, ii (a : Int)), (2, ii A), (3, ii lz), (4, ii wz)]) (S' := [ii cc]) dm_X12_applied_128 rfl rfl rfl rfl ?_
            refine me0 (pc' := 131) (S' := [ii 3, ii cc]) dm_X12_applied_130 rfl rfl rfl rfl ?_
            refine y_2ne (a := cc) (b := 3) (t := 149) (pc' := 134) dm_X12_applied_131 rfl rfl (by omega) (fun hb6 => ?_) (fun hb6 => ?_)
            · refine me1 (pc' := 150) (L' := [(8, ii lo), (7, ii cc), (6, ii 2), (5, ii ((t.2.2.1 47) a)), (0, .ref 102), (1, ii (a : Int)), (2, ii A), (3, ii lz), (4, ii wz)]) (S' := [.ref 102]) dm_X12_applied_149 rfl rfl rfl rfl ?_
              refine me1 (pc' := 151) (L' := [(8, ii lo), (7, ii cc), (6, ii 2), (5, ii ((t.2.2.1 47) a)), (0, .ref 102), (1, ii (a : Int)), (2, ii A), (3, ii lz), (4, ii wz)]) (S' := [ii (a : Int), .ref 102]) dm_X12_applied_150 rfl rfl rfl rfl ?_
              refine me1 (pc' := 153) (L' := [(8, ii lo), (7, ii cc), (6, ii 2), (5, ii ((t.2.2.1 47) a)), (0, .ref 102), (1, ii (a : Int)), (2, ii A), (3, ii lz), (4, ii wz)]) (S' := [ii lo, ii (a : Int), .ref 102]) dm_X12_applied_151 rfl rfl rfl rfl ?_
              refine me1 (pc' := 154) (L' := [(8, ii lo), (7, ii cc), (6, ii 2), (5, ii ((t.2.2.1 47) a)), (0, .ref 102), (1, ii (a : Int)), (2, ii A), (3, ii lz), (4, ii wz)]) (S' := [ii lz, ii lo, ii (a : Int), .ref 102]) dm_X12_applied_153 rfl rfl rfl rfl ?_
              refine me1 (pc' := 156) (L' := [(8, ii lo), (7, ii cc), (6, ii 2), (5, ii ((t.2.2.1 47) a)), (0, .ref 102), (1, ii (a : Int)), (2, ii A), (3, ii lz), (4, ii wz)]) (S' := [ii wz, ii lz, ii lo, ii (a : Int), .ref 102]) dm_X12_applied_154 rfl rfl rfl rfl ?_
              refine me1 (pc' := 158) (L' := [(8, ii lo), (7, ii cc), (6, ii 2), (5, ii ((t.2.2.1 47) a)), (0, .ref 102), (1, ii (a : Int)), (2, ii A), (3, ii lz), (4, ii wz)]) (S' := [ii cc, ii wz, ii lz, ii lo, ii (a : Int), .ref 102]) dm_X12_applied_156 rfl rfl rfl rfl ?_
              refine me0 (pc' := 159) (S' := [ii 2, ii cc, ii wz, ii lz, ii lo, ii (a : Int), .ref 102]) dm_X12_applied_158 rfl rfl rfl rfl ?_
              refine y_2ne (a := cc) (b := 2) (t := 166) (pc' := 162) dm_X12_applied_159 rfl rfl (by omega) (fun hb7 => ?_) (fun hb7 => ?_)
              · refine me0 (pc' := 167) (S' := [ii 0, ii wz, ii lz, ii lo, ii (a : Int), .ref 102]) dm_X12_applied_166 rfl rfl rfl rfl ?_
                refine me1 (pc' := 169) (L' := [(8, ii lo), (7, ii cc), (6, ii 2), (5, ii ((t.2.2.1 47) a)), (0, .ref 102), (1, ii (a : Int)), (2, ii A), (3, ii lz), (4, ii wz)]) (S' := [ii ((t.2.2.1 47) a), ii 0, ii wz, ii lz, ii lo, ii (a : Int), .ref 102]) dm_X12_applied_167 rfl rfl rfl rfl ?_
                refine x_cv (pc' := 172) (rest := []) dm_X12_applied_169 rfl (q_inv (As := [ii (a : Int), ii lo, ii lz, ii wz, ii 0, ii ((t.2.2.1 47) a)]) (S := []) hm rfl rfl rfl) rfl rfl rfl (hc) ?_
                rintro x1 g1 f1
                obtain ⟨t1, z1, rfl, rfl, hE1, hZ1, hQ1⟩ := f1
                refine y_ret (r := some (ii z1)) dm_X12_applied_172 rfl rfl rfl ?_
                exact ⟨_, rfl, _, _, rfl, rfl, hE1, hZ1, hQ1⟩
              · exfalso; omega
            · exfalso; omega
          · replace hb5 := dF hb5; exfalso; omega
        · exfalso; omega
  · exfalso; omega
theorem a_fold22 {xt : mj_X} {d : Nat} {pre post : mj_H} {t : RS} (hm : pre.length = 102) (hd1 : 1 ≤ d) {a : Nat} {wz : Int} {Q : RS → Int → Prop} (ha : a < 84000) {lo cc lz A : Int} (hA : A = lo + cc * 16) (hlo : 0 ≤ lo ∧ lo < 16) (hcc : 1 ≤ cc ∧ cc ≤ 3) (h5 : t.1 5 = 0) (hca : 0 ≤ t.1 10 ∧ t.1 10 ≤ 100) (h8 : 0 ≤ t.1 8 ∧ t.1 8 ≤ 500000) (hd2 : 3 ≤ d) (hW : 3 ≤ t.1 8) (h3 : cc = 2) (hc : pgV xt (d - 1) 299 [.ref 102, ii (a : Int), ii lo, ii lz, ii wz, ii 1, ii (t.2.2.1 47 a)] (rS pre post (takeS t 3)) (RA pre post Q)) : pgV xt d 279 [.ref 102, ii (a : Int), ii A, ii lz, ii wz] (rS pre post t) (RA pre post Q) := by
  refine x_enter pm_X12_applied (L0 := [(0, .ref 102), (1, ii (a : Int)), (2, ii A), (3, ii lz), (4, ii wz)]) rfl (Nat.le_of_ble_eq_true rfl) (by omega) ?_
  refine me1 (pc' := 1) (L' := [(0, .ref 102), (1, ii (a : Int)), (2, ii A), (3, ii lz), (4, ii wz)]) (S' := [.ref 102]) dm_X12_applied_0 rfl rfl rfl rfl ?_
  refine me3 (pc' := 4) (S' := [.ref (102 + 22)]) dm_X12_applied_1 (q_getr hm rfl (fun m i l => rg_47 m i l)) rfl rfl rfl ?_
  refine me1 (pc' := 5) (L' := [(0, .ref 102), (1, ii (a : Int)), (2, ii A), (3, ii lz), (4, ii wz)]) (S' := [ii (a : Int), .ref (102 + 22)]) dm_X12_applied_4 rfl rfl rfl rfl ?_
  refine me3 (pc' := 6) (S' := [ii ((t.2.2.1 47) a)]) dm_X12_applied_5 (q_iald (v := (t.2.2.1 47) a) (k := 47) (n := 84000) hm (fun m i l I J => rc_47 m i l I J) (by omega) (by omega) (by decide) rfl) rfl rfl rfl ?_
  refine me1 (pc' := 8) (L' := [(5, ii ((t.2.2.1 47) a)), (0, .ref 102), (1, ii (a : Int)), (2, ii A), (3, ii lz), (4, ii wz)]) (S' := []) dm_X12_applied_6 rfl rfl rfl rfl ?_
  refine me1 (pc' := 9) (L' := [(5, ii ((t.2.2.1 47) a)), (0, .ref 102), (1, ii (a : Int)), (2, ii A), (3, ii lz), (4, ii wz)]) (S' := [ii A]) dm_X12_applied_8 rfl rfl rfl rfl ?_
  refine y_1ne (a := A) (t := 76) (pc' := 12) dm_X12_applied_9 rfl rfl (by omega) (fun hb1 => ?_) (fun hb1 => ?_)
  · refine me0 (pc' := 77) (S' := [ii 0]) dm_X12_applied_76 rfl rfl rfl rfl ?_
    refine me1 (pc' := 79) (L' := [(6, ii 0), (5, ii ((t.2.2.1 47) a)), (0, .ref 102), (1, ii (a : Int)), (2, ii A), (3, ii lz), (4, ii wz)]) (S' := []) dm_X12_applied_77 rfl rfl rfl rfl ?_
    refine me1 (pc' := 80) (L' := [(6, ii 0), (5, ii ((t.2.2.1 47) a)), (0, .ref 102), (1, ii (a : Int)), (2, ii A), (3, ii lz), (4, ii wz)]) (S' := [ii A]) dm_X12_applied_79 rfl rfl rfl rfl ?_
    refine me0 (pc' := 81) (S' := [ii 2, ii A]) dm_X12_applied_80 rfl rfl rfl rfl ?_
    refine me1 (pc' := 83) (L' := [(6, ii 0), (5, ii ((t.2.2.1 47) a)), (0, .ref 102), (1, ii (a : Int)), (2, ii A), (3, ii lz), (4, ii wz)]) (S' := [ii 0, ii 2, ii A]) dm_X12_applied_81 rfl rfl rfl rfl ?_
    refine y_imul (a := 2) (b := 0) dm_X12_applied_83 (pc' := 84) rfl ?_
    refine pg_st (S' := [ii 0, ii A]) (congrArg (fun z => ii z :: [ii A]) (by decide)) ?_
    refine me0 (pc' := 85) (S' := [ii 2, ii 0, ii A]) dm_X12_applied_84 rfl rfl rfl rfl ?_
    refine me0 (pc' := 86) (S' := [ii 2, ii A]) dm_X12_applied_85 rfl rfl rfl rfl ?_
    refine y_shr (a := A) (k := 2) dm_X12_applied_86 (pc' := 87) rfl (by omega) (by omega) (by decide) ?_
    refine y_1eq (a := A / 4) (t := 96) (pc' := 90) dm_X12_applied_87 rfl rfl (by omega) (fun hb2 => ?_) (fun hb2 => ?_)
    · exfalso; omega
    · refine y_iinc (pc' := 93) (L' := [(6, ii 1), (5, ii ((t.2.2.1 47) a)), (0, .ref 102), (1, ii (a : Int)), (2, ii A), (3, ii lz), (4, ii wz)]) dm_X12_applied_90 (y_incp (a := 0) (c := 1) rfl rfl (by decide)) rfl ?_
      refine me2 (pc' := 79) (S' := []) dm_X12_applied_93 rfl rfl rfl ?_
      refine me1 (pc' := 80) (L' := [(6, ii 1), (5, ii ((t.2.2.1 47) a)), (0, .ref 102), (1, ii (a : Int)), (2, ii A), (3, ii lz), (4, ii wz)]) (S' := [ii A]) dm_X12_applied_79 rfl rfl rfl rfl ?_
      refine me0 (pc' := 81) (S' := [ii 2, ii A]) dm_X12_applied_80 rfl rfl rfl rfl ?_
      refine me1 (pc' := 83) (L' := [(6, ii 1), (5, ii ((t.2.2.1 47) a)), (0, .ref 102), (1, ii (a : Int)), (2, ii A), (3, ii lz), (4, ii wz)]) (S' := [ii 1, ii 2, ii A]) dm_X12_applied_81 rfl rfl rfl rfl ?_
      refine y_imul (a := 2) (b := 1) dm_X12_applied_83 (pc' := 84) rfl ?_
      refine pg_st (S' := [ii 2, ii A]) (congrArg (fun z => ii z :: [ii A]) (by decide)) ?_
      refine me0 (pc' := 85) (S' := [ii 2, ii 2, ii A]) dm_X12_applied_84 rfl rfl rfl rfl ?_
      refine me0 (pc' := 86) (S' := [ii 4, ii A]) dm_X12_applied_85 rfl rfl rfl rfl ?_
      refine y_shr (a := A) (k := 4) dm_X12_applied_86 (pc' := 87) rfl (by omega) (by omega) (by decide) ?_
      refine y_1eq (a := A / 16) (t := 96) (pc' := 90) dm_X12_applied_87 rfl rfl (by omega) (fun hb3 => ?_) (fun hb3 => ?_)
      · exfalso; omega
      · refine y_iinc (pc' := 93) (L' := [(6, ii 2), (5, ii ((t.2.2.1 47) a)), (0, .ref 102), (1, ii (a : Int)), (2, ii A), (3, ii lz), (4, ii wz)]) dm_X12_applied_90 (y_incp (a := 1) (c := 1) rfl rfl (by decide)) rfl ?_
        refine me2 (pc' := 79) (S' := []) dm_X12_applied_93 rfl rfl rfl ?_
        refine me1 (pc' := 80) (L' := [(6, ii 2), (5, ii ((t.2.2.1 47) a)), (0, .ref 102), (1, ii (a : Int)), (2, ii A), (3, ii lz), (4, ii wz)]) (S' := [ii A]) dm_X12_applied_79 rfl rfl rfl rfl ?_
        refine me0 (pc' := 81) (S' := [ii 2, ii A]) dm_X12_applied_80 rfl rfl rfl rfl ?_
        refine me1 (pc' := 83) (L' := [(6, ii 2), (5, ii ((t.2.2.1 47) a)), (0, .ref 102), (1, ii (a : Int)), (2, ii A), (3, ii lz), (4, ii wz)]) (S' := [ii 2, ii 2, ii A]) dm_X12_applied_81 rfl rfl rfl rfl ?_
        refine y_imul (a := 2) (b := 2) dm_X12_applied_83 (pc' := 84) rfl ?_
        refine pg_st (S' := [ii 4, ii A]) (congrArg (fun z => ii z :: [ii A]) (by decide)) ?_
        refine me0 (pc' := 85) (S' := [ii 2, ii 4, ii A]) dm_X12_applied_84 rfl rfl rfl rfl ?_
        refine me0 (pc' := 86) (S' := [ii 6, ii A]) dm_X12_applied_85 rfl rfl rfl rfl ?_
        refine y_shr (a := A) (k := 6) dm_X12_applied_86 (pc' := 87) rfl (by omega) (by omega) (by decide) ?_
        refine y_1eq (a := A / 64) (t := 96) (pc' := 90) dm_X12_applied_87 rfl rfl (by omega) (fun hb4 => ?_) (fun hb4 => ?_)
        · refine me1 (pc' := 97) (L' := [(6, ii 2), (5, ii ((t.2.2.1 47) a)), (0, .ref 102), (1, ii (a : Int)), (2, ii A), (3, ii lz), (4, ii wz)]) (S' := [ii A]) dm_X12_applied_96 rfl rfl rfl rfl ?_
          refine me0 (pc' := 98) (S' := [ii 2, ii A]) dm_X12_applied_97 rfl rfl rfl rfl ?_
          refine me1 (pc' := 100) (L' := [(6, ii 2), (5, ii ((t.2.2.1 47) a)), (0, .ref 102), (1, ii (a : Int)), (2, ii A), (3, ii lz), (4, ii wz)]) (S' := [ii 2, ii 2, ii A]) dm_X12_applied_98 rfl rfl rfl rfl ?_
          refine y_imul (a := 2) (b := 2) dm_X12_applied_100 (pc' := 101) rfl ?_
          refine pg_st (S' := [ii 4, ii A]) (congrArg (fun z => ii z :: [ii A]) (by decide)) ?_
          refine y_shr (a := A) (k := 4) dm_X12_applied_101 (pc' := 102) rfl (by omega) (by omega) (by decide) ?_
          refine pg_st (S' := [ii cc]) (congrArg (fun z => ii z :: []) (by omega)) ?_
          refine me1 (pc' := 104) (L' := [(7, ii cc), (6, ii 2), (5, ii ((t.2.2.1 47) a)), (0, .ref 102), (1, ii (a : Int)), (2, ii A), (3, ii lz), (4, ii wz)]) (S' := []) dm_X12_applied_102 rfl rfl rfl rfl ?_
          refine me1 (pc' := 105) (L' := [(7, ii cc), (6, ii 2), (5, ii ((t.2.2.1 47) a)), (0, .ref 102), (1, ii (a : Int)), (2, ii A), (3, ii lz), (4, ii wz)]) (S' := [ii A]) dm_X12_applied_104 rfl rfl rfl rfl ?_
          refine me0 (pc' := 106) (S' := [ii 1, ii A]) dm_X12_applied_105 rfl rfl rfl rfl ?_
          refine me0 (pc' := 107) (S' := [ii 2, ii 1, ii A]) dm_X12_applied_106 rfl rfl rfl rfl ?_
          refine me1 (pc' := 109) (L' := [(7, ii cc), (6, ii 2), (5, ii ((t.2.2.1 47) a)), (0, .ref 102), (1, ii (a : Int)), (2, ii A), (3, ii lz), (4, ii wz)]) (S' := [ii 2, ii 2, ii 1, ii A]) dm_X12_applied_107 rfl rfl rfl rfl ?_
          refine y_imul (a := 2) (b := 2) dm_X12_applied_109 (pc' := 110) rfl ?_
          refine pg_st (S' := [ii 4, ii 1, ii A]) (congrArg (fun z => ii z :: [ii 1, ii A]) (by decide)) ?_
          refine y_shl (a := 1) (k := 4) dm_X12_applied_110 (pc' := 111) rfl (by decide) ?_
          refine me0 (pc' := 112) (S' := [ii 1, ii (1 * 16), ii A]) dm_X12_applied_111 rfl rfl rfl rfl ?_
          refine y_isub (a := 1 * 16) (b := 1) dm_X12_applied_112 (pc' := 113) rfl ?_
          refine y_andM (a := A) (k := 4) dm_X12_applied_113 (pc' := 114) rfl (by omega) (by omega) (by decide) (by decide) ?_
          refine pg_st (S' := [ii lo]) (congrArg (fun z => ii z :: []) (by omega)) ?_
          refine me1 (pc' := 116) (L' := [(8, ii lo), (7, ii cc), (6, ii 2), (5, ii ((t.2.2.1 47) a)), (0, .ref 102), (1, ii (a : Int)), (2, ii A), (3, ii lz), (4, ii wz)]) (S' := []) dm_X12_applied_114 rfl rfl rfl rfl ?_
          refine me1 (pc' := 117) (L' := [(8, ii lo), (7, ii cc), (6, ii 2), (5, ii ((t.2.2.1 47) a)), (0, .ref 102), (1, ii (a : Int)), (2, ii A), (3, ii lz), (4, ii wz)]) (S' := [.ref 102]) dm_X12_applied_116 rfl rfl rfl rfl ?_
          refine me0 (pc' := 118) (S' := [ii 3, .ref 102]) dm_X12_applied_117 rfl rfl rfl rfl ?_
          refine me1 (pc' := 120) (L' := [(8, ii lo), (7, ii cc), (6, ii 2), (5, ii ((t.2.2.1 47) a)), (0, .ref 102), (1, ii (a : Int)), (2, ii A), (3, ii lz), (4, ii wz)]) (S' := [ii ((t.2.2.1 47) a), ii 3, .ref 102]) dm_X12_applied_118 rfl rfl rfl rfl ?_
          refine x_cv (pc' := 123) (rest := []) dm_X12_applied_120 rfl (q_inv (As := [ii 3, ii ((t.2.2.1 47) a)]) (S := []) hm rfl rfl rfl) rfl rfl rfl (r_takes_ (s := t) (n := 3) hm (by omega) h5 hca.1 hca.2 h8.1 h8.2 (by omega)) ?_
          rintro _ _ ⟨rfl, rfl⟩
          refine y_zne (c := decide ((3 : Int) ≤ t.1 8)) (t := 128) (pc' := 126) dm_X12_applied_123 rfl rfl (fun hb5 => ?_) (fun hb5 => ?_)
          · replace hb5 := dT hb5
            refine pg_cast (h2 := rI pre post ((takeS t 3).1) ((takeS t 3).2.1) ((takeS t 3).2.2.1) ((takeS t 3).2.2.2)) (by rw [tkS_t (by omega)]) ?_
            refine me1 (pc' := 130) (L' := [(8, ii lo), (7, ii cc), (6, ii 2), (5, ii ((t.2.2.1 47) a)), (0, .ref 102), (1, ii (a : Int)), (2, ii A), (3, ii lz), (4, ii wz)]) (S' := [ii cc]) dm_X12_applied_128 rfl rfl rfl rfl ?_
            refine me0 (pc' := 131) (S' := [ii 3, ii cc]) dm_X12_applied_130 rfl rfl rfl rfl ?_
            refine y_2ne (a := cc) (b := 3) (t := 149) (pc' := 134) dm_X12_applied_131 rfl rfl (by omega) (fun hb6 => ?_) (fun hb6 => ?_)
            · refine me1 (pc' := 150) (L' := [(8, ii lo), (7, ii cc), (6, ii 2), (5, ii ((t.2.2.1 47) a)), (0, .ref 102), (1, ii (a : Int)), (2, ii A), (3, ii lz), (4, ii wz)]) (S' := [.ref 102]) dm_X12_applied_149 rfl rfl rfl rfl ?_
              refine me1 (pc' := 151) (L' := [(8, ii lo), (7, ii cc), (6, ii 2), (5, ii ((t.2.2.1 47) a)), (0, .ref 102), (1, ii (a : Int)), (2, ii A), (3, ii lz), (4, ii wz)]) (S' := [ii (a : Int), .ref 102]) dm_X12_applied_150 rfl rfl rfl rfl ?_
              refine me1 (pc' := 153) (L' := [(8, ii lo), (7, ii cc), (6, ii 2), (5, ii ((t.2.2.1 47) a)), (0, .ref 102), (1, ii (a : Int)), (2, ii A), (3, ii lz), (4, ii wz)]) (S' := [ii lo, ii (a : Int), .ref 102]) dm_X12_applied_151 rfl rfl rfl rfl ?_
              refine me1 (pc' := 154) (L' := [(8, ii lo), (7, ii cc), (6, ii 2), (5, ii ((t.2.2.1 47) a)), (0, .ref 102), (1, ii (a : Int)), (2, ii A), (3, ii lz), (4, ii wz)]) (S' := [ii lz, ii lo, ii (a : Int), .ref 102]) dm_X12_applied_153 rfl rfl rfl rfl ?_
              refine me1 (pc' := 156) (L' := [(8, ii lo), (7, ii cc), (6, ii 2), (5, ii ((t.2.2.1 47) a)), (0, .ref 102), (1, ii (a : Int)), (2, ii A), (3, ii lz), (4, ii wz)]) (S' := [ii wz, ii lz, ii lo, ii (a : Int), .ref 102]) dm_X12_applied_154 rfl rfl rfl rfl ?_
              refine me1 (pc' := 158) (L' := [(8, ii lo), (7, ii cc), (6, ii 2), (5, ii ((t.2.2.1 47) a)), (0, .ref 102), (1, ii (a : Int)), (2, ii A), (3, ii lz), (4, ii wz)]) (S' := [ii cc, ii wz, ii lz, ii lo, ii (a : Int), .ref 102]) dm_X12_applied_156 rfl rfl rfl rfl ?_
              refine me0 (pc' := 159) (S' := [ii 2, ii cc, ii wz, ii lz, ii lo, ii (a : Int), .ref 102]) dm_X12_applied_158 rfl rfl rfl rfl ?_
              refine y_2ne (a := cc) (b := 2) (t := 166) (pc' := 162) dm_X12_applied_159 rfl rfl (by omega) (fun hb7 => ?_) (fun hb7 => ?_)
              · exfalso; omega
              · refine me0 (pc' := 163) (S' := [ii 1, ii wz, ii lz, ii lo, ii (a : Int), .ref 102]) dm_X12_applied_162 rfl rfl rfl rfl ?_
                refine me2 (pc' := 167) (S' := [ii 1, ii wz, ii lz, ii lo, ii (a : Int), .ref 102]) dm_X12_applied_163 rfl rfl rfl ?_
                refine me1 (pc' := 169) (L' := [(8, ii lo), (7, ii cc), (6, ii 2), (5, ii ((t.2.2.1 47) a)), (0, .ref 102), (1, ii (a : Int)), (2, ii A), (3, ii lz), (4, ii wz)]) (S' := [ii ((t.2.2.1 47) a), ii 1, ii wz, ii lz, ii lo, ii (a : Int), .ref 102]) dm_X12_applied_167 rfl rfl rfl rfl ?_
                refine x_cv (pc' := 172) (rest := []) dm_X12_applied_169 rfl (q_inv (As := [ii (a : Int), ii lo, ii lz, ii wz, ii 1, ii ((t.2.2.1 47) a)]) (S := []) hm rfl rfl rfl) rfl rfl rfl (hc) ?_
                rintro x1 g1 f1
                obtain ⟨t1, z1, rfl, rfl, hE1, hZ1, hQ1⟩ := f1
                refine y_ret (r := some (ii z1)) dm_X12_applied_172 rfl rfl rfl ?_
                exact ⟨_, rfl, _, _, rfl, rfl, hE1, hZ1, hQ1⟩
            · exfalso; omega
          · replace hb5 := dF hb5; exfalso; omega
        · exfalso; omega
  · exfalso; omega
theorem a_no3 {xt : mj_X} {d : Nat} {pre post : mj_H} {t : RS} (hm : pre.length = 102) (hd1 : 1 ≤ d) {a : Nat} {wz : Int} {Q : RS → Int → Prop} (ha : a < 84000) {lo cc lz A : Int} (hA : A = lo + cc * 64) (hlo : 0 ≤ lo ∧ lo < 64) (hcc : 1 ≤ cc ∧ cc ≤ 3) (h5 : t.1 5 = 0) (hca : 0 ≤ t.1 10 ∧ t.1 10 ≤ 100) (h8 : 0 ≤ t.1 8 ∧ t.1 8 ≤ 500000) (hd2 : 3 ≤ d) (hW : t.1 8 < 3) (k : Q (failS t 10 (t.2.2.1 47 a)) (-1)) : pgV xt d 279 [.ref 102, ii (a : Int), ii A, ii lz, ii wz] (rS pre post t) (RA pre post Q) := by
  refine x_enter pm_X12_applied (L0 := [(0, .ref 102), (1, ii (a : Int)), (2, ii A), (3, ii lz), (4, ii wz)]) rfl (Nat.le_of_ble_eq_true rfl) (by omega) ?_
  refine me1 (pc' := 1) (L' := [(0, .ref 102), (1, ii (a : Int)), (2, ii A), (3, ii lz), (4, ii wz)]) (S' := [.ref 102]) dm_X12_applied_0 rfl rfl rfl rfl ?_
  refine me3 (pc' := 4) (S' := [.ref (102 + 22)]) dm_X12_applied_1 (q_getr hm rfl (fun m i l => rg_47 m i l)) rfl rfl rfl ?_
  refine me1 (pc' := 5) (L' := [(0, .ref 102), (1, ii (a : Int)), (2, ii A), (3, ii lz), (4, ii wz)]) (S' := [ii (a : Int), .ref (102 + 22)]) dm_X12_applied_4 rfl rfl rfl rfl ?_
  refine me3 (pc' := 6) (S' := [ii ((t.2.2.1 47) a)]) dm_X12_applied_5 (q_iald (v := (t.2.2.1 47) a) (k := 47) (n := 84000) hm (fun m i l I J => rc_47 m i l I J) (by omega) (by omega) (by decide) rfl) rfl rfl rfl ?_
  refine me1 (pc' := 8) (L' := [(5, ii ((t.2.2.1 47) a)), (0, .ref 102), (1, ii (a : Int)), (2, ii A), (3, ii lz), (4, ii wz)]) (S' := []) dm_X12_applied_6 rfl rfl rfl rfl ?_
  refine me1 (pc' := 9) (L' := [(5, ii ((t.2.2.1 47) a)), (0, .ref 102), (1, ii (a : Int)), (2, ii A), (3, ii lz), (4, ii wz)]) (S' := [ii A]) dm_X12_applied_8 rfl rfl rfl rfl ?_
  refine y_1ne (a := A) (t := 76) (pc' := 12) dm_X12_applied_9 rfl rfl (by omega) (fun hb1 => ?_) (fun hb1 => ?_)
  · refine me0 (pc' := 77) (S' := [ii 0]) dm_X12_applied_76 rfl rfl rfl rfl ?_
    refine me1 (pc' := 79) (L' := [(6, ii 0), (5, ii ((t.2.2.1 47) a)), (0, .ref 102), (1, ii (a : Int)), (2, ii A), (3, ii lz), (4, ii wz)]) (S' := []) dm_X12_applied_77 rfl rfl rfl rfl ?_
    refine me1 (pc' := 80) (L' := [(6, ii 0), (5, ii ((t.2.2.1 47) a)), (0, .ref 102), (1, ii (a : Int)), (2, ii A), (3, ii lz), (4, ii wz)]) (S' := [ii A]) dm_X12_applied_79 rfl rfl rfl rfl ?_
    refine me0 (pc' := 81) (S' := [ii 2, ii A]) dm_X12_applied_80 rfl rfl rfl rfl ?_
    refine me1 (pc' := 83) (L' := [(6, ii 0), (5, ii ((t.2.2.1 47) a)), (0, .ref 102), (1, ii (a : Int)), (2, ii A), (3, ii lz), (4, ii wz)]) (S' := [ii 0, ii 2, ii A]) dm_X12_applied_81 rfl rfl rfl rfl ?_
    refine y_imul (a := 2) (b := 0) dm_X12_applied_83 (pc' := 84) rfl ?_
    refine pg_st (S' := [ii 0, ii A]) (congrArg (fun z => ii z :: [ii A]) (by decide)) ?_
    refine me0 (pc' := 85) (S' := [ii 2, ii 0, ii A]) dm_X12_applied_84 rfl rfl rfl rfl ?_
    refine me0 (pc' := 86) (S' := [ii 2, ii A]) dm_X12_applied_85 rfl rfl rfl rfl ?_
    refine y_shr (a := A) (k := 2) dm_X12_applied_86 (pc' := 87) rfl (by omega) (by omega) (by decide) ?_
    refine y_1eq (a := A / 4) (t := 96) (pc' := 90) dm_X12_applied_87 rfl rfl (by omega) (fun hb2 => ?_) (fun hb2 => ?_)
    · exfalso; omega
    · refine y_iinc (pc' := 93) (L' := [(6, ii 1), (5, ii ((t.2.2.1 47) a)), (0, .ref 102), (1, ii (a : Int)), (2, ii A), (3, ii lz), (4, ii wz)]) dm_X12_applied_90 (y_incp (a := 0) (c := 1) rfl rfl (by decide)) rfl ?_
      refine me2 (pc' := 79) (S' := []) dm_X12_applied_93 rfl rfl rfl ?_
      refine me1 (pc' := 80) (L' := [(6, ii 1), (5, ii ((t.2.2.1 47) a)), (0, .ref 102), (1, ii (a : Int)), (2, ii A), (3, ii lz), (4, ii wz)]) (S' := [ii A]) dm_X12_applied_79 rfl rfl rfl rfl ?_
      refine me0 (pc' := 81) (S' := [ii 2, ii A]) dm_X12_applied_80 rfl rfl rfl rfl ?_
      refine me1 (pc' := 83) (L' := [(6, ii 1), (5, ii ((t.2.2.1 47) a)), (0, .ref 102), (1, ii (a : Int)), (2, ii A), (3, ii lz), (4, ii wz)]) (S' := [ii 1, ii 2, ii A]) dm_X12_applied_81 rfl rfl rfl rfl ?_
      refine y_imul (a := 2) (b := 1) dm_X12_applied_83 (pc' := 84) rfl ?_
      refine pg_st (S' := [ii 2, ii A]) (congrArg (fun z => ii z :: [ii A]) (by decide)) ?_
      refine me0 (pc' := 85) (S' := [ii 2, ii 2, ii A]) dm_X12_applied_84 rfl rfl rfl rfl ?_
      refine me0 (pc' := 86) (S' := [ii 4, ii A]) dm_X12_applied_85 rfl rfl rfl rfl ?_
      refine y_shr (a := A) (k := 4) dm_X12_applied_86 (pc' := 87) rfl (by omega) (by omega) (by decide) ?_
      refine y_1eq (a := A / 16) (t := 96) (pc' := 90) dm_X12_applied_87 rfl rfl (by omega) (fun hb3 => ?_) (fun hb3 => ?_)
      · exfalso; omega
      · refine y_iinc (pc' := 93) (L' := [(6, ii 2), (5, ii ((t.2.2.1 47) a)), (0, .ref 102), (1, ii (a : Int)), (2, ii A), (3, ii lz), (4, ii wz)]) dm_X12_applied_90 (y_incp (a := 1) (c := 1) rfl rfl (by decide)) rfl ?_
        refine me2 (pc' := 79) (S' := []) dm_X12_applied_93 rfl rfl rfl ?_
        refine me1 (pc' := 80) (L' := [(6, ii 2), (5, ii ((t.2.2.1 47) a)), (0, .ref 102), (1, ii (a : Int)), (2, ii A), (3, ii lz), (4, ii wz)]) (S' := [ii A]) dm_X12_applied_79 rfl rfl rfl rfl ?_
        refine me0 (pc' := 81) (S' := [ii 2, ii A]) dm_X12_applied_80 rfl rfl rfl rfl ?_
        refine me1 (pc' := 83) (L' := [(6, ii 2), (5, ii ((t.2.2.1 47) a)), (0, .ref 102), (1, ii (a : Int)), (2, ii A), (3, ii lz), (4, ii wz)]) (S' := [ii 2, ii 2, ii A]) dm_X12_applied_81 rfl rfl rfl rfl ?_
        refine y_imul (a := 2) (b := 2) dm_X12_applied_83 (pc' := 84) rfl ?_
        refine pg_st (S' := [ii 4, ii A]) (congrArg (fun z => ii z :: [ii A]) (by decide)) ?_
        refine me0 (pc' := 85) (S' := [ii 2, ii 4, ii A]) dm_X12_applied_84 rfl rfl rfl rfl ?_
        refine me0 (pc' := 86) (S' := [ii 6, ii A]) dm_X12_applied_85 rfl rfl rfl rfl ?_
        refine y_shr (a := A) (k := 6) dm_X12_applied_86 (pc' := 87) rfl (by omega) (by omega) (by decide) ?_
        refine y_1eq (a := A / 64) (t := 96) (pc' := 90) dm_X12_applied_87 rfl rfl (by omega) (fun hb4 => ?_) (fun hb4 => ?_)
        · exfalso; omega
        · refine y_iinc (pc' := 93) (L' := [(6, ii 3), (5, ii ((t.2.2.1 47) a)), (0, .ref 102), (1, ii (a : Int)), (2, ii A), (3, ii lz), (4, ii wz)]) dm_X12_applied_90 (y_incp (a := 2) (c := 1) rfl rfl (by decide)) rfl ?_
          refine me2 (pc' := 79) (S' := []) dm_X12_applied_93 rfl rfl rfl ?_
          refine me1 (pc' := 80) (L' := [(6, ii 3), (5, ii ((t.2.2.1 47) a)), (0, .ref 102), (1, ii (a : Int)), (2, ii A), (3, ii lz), (4, ii wz)]) (S' := [ii A]) dm_X12_applied_79 rfl rfl rfl rfl ?_
          refine me0 (pc' := 81) (S' := [ii 2, ii A]) dm_X12_applied_80 rfl rfl rfl rfl ?_
          refine me1 (pc' := 83) (L' := [(6, ii 3), (5, ii ((t.2.2.1 47) a)), (0, .ref 102), (1, ii (a : Int)), (2, ii A), (3, ii lz), (4, ii wz)]) (S' := [ii 3, ii 2, ii A]) dm_X12_applied_81 rfl rfl rfl rfl ?_
          refine y_imul (a := 2) (b := 3) dm_X12_applied_83 (pc' := 84) rfl ?_
          refine pg_st (S' := [ii 6, ii A]) (congrArg (fun z => ii z :: [ii A]) (by decide)) ?_
          refine me0 (pc' := 85) (S' := [ii 2, ii 6, ii A]) dm_X12_applied_84 rfl rfl rfl rfl ?_
          refine me0 (pc' := 86) (S' := [ii 8, ii A]) dm_X12_applied_85 rfl rfl rfl rfl ?_
          refine y_shr (a := A) (k := 8) dm_X12_applied_86 (pc' := 87) rfl (by omega) (by omega) (by decide) ?_
          refine y_1eq (a := A / 256) (t := 96) (pc' := 90) dm_X12_applied_87 rfl rfl (by omega) (fun hb5 => ?_) (fun hb5 => ?_)
          · refine me1 (pc' := 97) (L' := [(6, ii 3), (5, ii ((t.2.2.1 47) a)), (0, .ref 102), (1, ii (a : Int)), (2, ii A), (3, ii lz), (4, ii wz)]) (S' := [ii A]) dm_X12_applied_96 rfl rfl rfl rfl ?_
            refine me0 (pc' := 98) (S' := [ii 2, ii A]) dm_X12_applied_97 rfl rfl rfl rfl ?_
            refine me1 (pc' := 100) (L' := [(6, ii 3), (5, ii ((t.2.2.1 47) a)), (0, .ref 102), (1, ii (a : Int)), (2, ii A), (3, ii lz), (4, ii wz)]) (S' := [ii 3, ii 2, ii A]) dm_X12_applied_98 rfl rfl rfl rfl ?_
            refine y_imul (a := 2) (b := 3) dm_X12_applied_100 (pc' := 101) rfl ?_
            refine pg_st (S' := [ii 6, ii A]) (congrArg (fun z => ii z :: [ii A]) (by decide)) ?_
            refine y_shr (a := A) (k := 6) dm_X12_applied_101 (pc' := 102) rfl (by omega) (by omega) (by decide) ?_
            refine pg_st (S' := [ii cc]) (congrArg (fun z => ii z :: []) (by omega)) ?_
            refine me1 (pc' := 104) (L' := [(7, ii cc), (6, ii 3), (5, ii ((t.2.2.1 47) a)), (0, .ref 102), (1, ii (a : Int)), (2, ii A), (3, ii lz), (4, ii wz)]) (S' := []) dm_X12_applied_102 rfl rfl rfl rfl ?_
            refine me1 (pc' := 105) (L' := [(7, ii cc), (6, ii 3), (5, ii ((t.2.2.1 47) a)), (0, .ref 102), (1, ii (a : Int)), (2, ii A), (3, ii lz), (4, ii wz)]) (S' := [ii A]) dm_X12_applied_104 rfl rfl rfl rfl ?_
            refine me0 (pc' := 106) (S' := [ii 1, ii A]) dm_X12_applied_105 rfl rfl rfl rfl ?_
            refine me0 (pc' := 107) (S' := [ii 2, ii 1, ii A]) dm_X12_applied_106 rfl rfl rfl rfl ?_
            refine me1 (pc' := 109) (L' := [(7, ii cc), (6, ii 3), (5, ii ((t.2.2.1 47) a)), (0, .ref 102), (1, ii (a : Int)), (2, ii A), (3, ii lz), (4, ii wz)]) (S' := [ii 3, ii 2, ii 1, ii A]) dm_X12_applied_107 rfl rfl rfl rfl ?_
            refine y_imul (a := 2) (b := 3) dm_X12_applied_109 (pc' := 110) rfl ?_
            refine pg_st (S' := [ii 6, ii 1, ii A]) (congrArg (fun z => ii z :: [ii 1, ii A]) (by decide)) ?_
            refine y_shl (a := 1) (k := 6) dm_X12_applied_110 (pc' := 111) rfl (by decide) ?_
            refine me0 (pc' := 112) (S' := [ii 1, ii (1 * 64), ii A]) dm_X12_applied_111 rfl rfl rfl rfl ?_
            refine y_isub (a := 1 * 64) (b := 1) dm_X12_applied_112 (pc' := 113) rfl ?_
            refine y_andM (a := A) (k := 6) dm_X12_applied_113 (pc' := 114) rfl (by omega) (by omega) (by decide) (by decide) ?_
            refine pg_st (S' := [ii lo]) (congrArg (fun z => ii z :: []) (by omega)) ?_
            refine me1 (pc' := 116) (L' := [(8, ii lo), (7, ii cc), (6, ii 3), (5, ii ((t.2.2.1 47) a)), (0, .ref 102), (1, ii (a : Int)), (2, ii A), (3, ii lz), (4, ii wz)]) (S' := []) dm_X12_applied_114 rfl rfl rfl rfl ?_
            refine me1 (pc' := 117) (L' := [(8, ii lo), (7, ii cc), (6, ii 3), (5, ii ((t.2.2.1 47) a)), (0, .ref 102), (1, ii (a : Int)), (2, ii A), (3, ii lz), (4, ii wz)]) (S' := [.ref 102]) dm_X12_applied_116 rfl rfl rfl rfl ?_
            refine me0 (pc' := 118) (S' := [ii 3, .ref 102]) dm_X12_applied_117 rfl rfl rfl rfl ?_
            refine me1 (pc' := 120) (L' := [(8, ii lo), (7, ii cc), (6, ii 3), (5, ii ((t.2.2.1 47) a)), (0, .ref 102), (1, ii (a : Int)), (2, ii A), (3, ii lz), (4, ii wz)]) (S' := [ii ((t.2.2.1 47) a), ii 3, .ref 102]) dm_X12_applied_118 rfl rfl rfl rfl ?_
            refine x_cv (pc' := 123) (rest := []) dm_X12_applied_120 rfl (q_inv (As := [ii 3, ii ((t.2.2.1 47) a)]) (S := []) hm rfl rfl rfl) rfl rfl rfl (r_takes_ (s := t) (n := 3) hm (by omega) h5 hca.1 hca.2 h8.1 h8.2 (by omega)) ?_
            rintro _ _ ⟨rfl, rfl⟩
            refine y_zne (c := decide ((3 : Int) ≤ t.1 8)) (t := 128) (pc' := 126) dm_X12_applied_123 rfl rfl (fun hb6 => ?_) (fun hb6 => ?_)
            · replace hb6 := dT hb6; exfalso; omega
            · replace hb6 := dF hb6
              refine me0 (pc' := 127) (S' := [ii (-1)]) dm_X12_applied_126 rfl rfl rfl rfl ?_
              refine y_ret (r := some (ii (-1))) dm_X12_applied_127 rfl rfl rfl ?_
              rw [tkS_f hW]
              exact ⟨_, rfl, _, _, rfl, rfl, by rw [failS_5]; decide, by omega, k⟩
          · exfalso; omega
  · exfalso; omega
theorem a_each3 {xt : mj_X} {d : Nat} {pre post : mj_H} {t : RS} (hm : pre.length = 102) (hd1 : 1 ≤ d) {a : Nat} {wz : Int} {Q : RS → Int → Prop} (ha : a < 84000) {lo cc lz A : Int} (hA : A = lo + cc * 64) (hlo : 0 ≤ lo ∧ lo < 64) (hcc : 1 ≤ cc ∧ cc ≤ 3) (h5 : t.1 5 = 0) (hca : 0 ≤ t.1 10 ∧ t.1 10 ≤ 100) (h8 : 0 ≤ t.1 8 ∧ t.1 8 ≤ 500000) (hd2 : 3 ≤ d) (hW : 3 ≤ t.1 8) (h3 : cc = 3) (hc : pgV xt (d - 1) 298 [.ref 102, ii (a : Int), ii lo, ii lz, ii wz, ii (t.2.2.1 47 a)] (rS pre post (takeS t 3)) (RA pre post Q)) : pgV xt d 279 [.ref 102, ii (a : Int), ii A, ii lz, ii wz] (rS pre post t) (RA pre post Q) := by
  refine x_enter pm_X12_applied (L0 := [(0, .ref 102), (1, ii (a : Int)), (2, ii A), (3, ii lz), (4, ii wz)]) rfl (Nat.le_of_ble_eq_true rfl) (by omega) ?_
  refine me1 (pc' := 1) (L' := [(0, .ref 102), (1, ii (a : Int)), (2, ii A), (3, ii lz), (4, ii wz)]) (S' := [.ref 102]) dm_X12_applied_0 rfl rfl rfl rfl ?_
  refine me3 (pc' := 4) (S' := [.ref (102 + 22)]) dm_X12_applied_1 (q_getr hm rfl (fun m i l => rg_47 m i l)) rfl rfl rfl ?_
  refine me1 (pc' := 5) (L' := [(0, .ref 102), (1, ii (a : Int)), (2, ii A), (3, ii lz), (4, ii wz)]) (S' := [ii (a : Int), .ref (102 + 22)]) dm_X12_applied_4 rfl rfl rfl rfl ?_
  refine me3 (pc' := 6) (S' := [ii ((t.2.2.1 47) a)]) dm_X12_applied_5 (q_iald (v := (t.2.2.1 47) a) (k := 47) (n := 84000) hm (fun m i l I J => rc_47 m i l I J) (by omega) (by omega) (by decide) rfl) rfl rfl rfl ?_
  refine me1 (pc' := 8) (L' := [(5, ii ((t.2.2.1 47) a)), (0, .ref 102), (1, ii (a : Int)), (2, ii A), (3, ii lz), (4, ii wz)]) (S' := []) dm_X12_applied_6 rfl rfl rfl rfl ?_
  refine me1 (pc' := 9) (L' := [(5, ii ((t.2.2.1 47) a)), (0, .ref 102), (1, ii (a : Int)), (2, ii A), (3, ii lz), (4, ii wz)]) (S' := [ii A]) dm_X12_applied_8 rfl rfl rfl rfl ?_
  refine y_1ne (a := A) (t := 76) (pc' := 12) dm_X12_applied_9 rfl rfl (by omega) (fun hb1 => ?_) (fun hb1 => ?_)
  · refine me0 (pc' := 77) (S' := [ii 0]) dm_X12_applied_76 rfl rfl rfl rfl ?_
    refine me1 (pc' := 79) (L' := [(6, ii 0), (5, ii ((t.2.2.1 47) a)), (0, .ref 102), (1, ii (a : Int)), (2, ii A), (3, ii lz), (4, ii wz)]) (S' := []) dm_X12_applied_77 rfl rfl rfl rfl ?_
    refine me1 (pc' := 80) (L' := [(6, ii 0), (5, ii ((t.2.2.1 47) a)), (0, .ref 102), (1, ii (a : Int)), (2, ii A), (3, ii lz), (4, ii wz)]) (S' := [ii A]) dm_X12_applied_79 rfl rfl rfl rfl ?_
    refine me0 (pc' := 81) (S' := [ii 2, ii A]) dm_X12_applied_80 rfl rfl rfl rfl ?_
    refine me1 (pc' := 83) (L' := [(6, ii 0), (5, ii ((t.2.2.1 47) a)), (0, .ref 102), (1, ii (a : Int)), (2, ii A), (3, ii lz), (4, ii wz)]) (S' := [ii 0, ii 2, ii A]) dm_X12_applied_81 rfl rfl rfl rfl ?_
    refine y_imul (a := 2) (b := 0) dm_X12_applied_83 (pc' := 84) rfl ?_
    refine pg_st (S' := [ii 0, ii A]) (congrArg (fun z => ii z :: [ii A]) (by decide)) ?_
    refine me0 (pc' := 85) (S' := [ii 2, ii 0, ii A]) dm_X12_applied_84 rfl rfl rfl rfl ?_
    refine me0 (pc' := 86) (S' := [ii 2, ii A]) dm_X12_applied_85 rfl rfl rfl rfl ?_
    refine y_shr (a := A) (k := 2) dm_X12_applied_86 (pc' := 87) rfl (by omega) (by omega) (by decide) ?_
    refine y_1eq (a := A / 4) (t := 96) (pc' := 90) dm_X12_applied_87 rfl rfl (by omega) (fun hb2 => ?_) (fun hb2 => ?_)
    · exfalso; omega
    · refine y_iinc (pc' := 93) (L' := [(6, ii 1), (5, ii ((t.2.2.1 47) a)), (0, .ref 102), (1, ii (a : Int)), (2, ii A), (3, ii lz), (4, ii wz)]) dm_X12_applied_90 (y_incp (a := 0) (c := 1) rfl rfl (by decide)) rfl ?_
      refine me2 (pc' := 79) (S' := []) dm_X12_applied_93 rfl rfl rfl ?_
      refine me1 (pc' := 80) (L' := [(6, ii 1), (5, ii ((t.2.2.1 47) a)), (0, .ref 102), (1, ii (a : Int)), (2, ii A), (3, ii lz), (4, ii wz)]) (S' := [ii A]) dm_X12_applied_79 rfl rfl rfl rfl ?_
      refine me0 (pc' := 81) (S' := [ii 2, ii A]) dm_X12_applied_80 rfl rfl rfl rfl ?_
      refine me1 (pc' := 83) (L' := [(6, ii 1), (5, ii ((t.2.2.1 47) a)), (0, .ref 102), (1, ii (a : Int)), (2, ii A), (3, ii lz), (4, ii wz)]) (S' := [ii 1, ii 2, ii A]) dm_X12_applied_81 rfl rfl rfl rfl ?_
      refine y_imul (a := 2) (b := 1) dm_X12_applied_83 (pc' := 84) rfl ?_
      refine pg_st (S' := [ii 2, ii A]) (congrArg (fun z => ii z :: [ii A]) (by decide)) ?_
      refine me0 (pc' := 85) (S' := [ii 2, ii 2, ii A]) dm_X12_applied_84 rfl rfl rfl rfl ?_
      refine me0 (pc' := 86) (S' := [ii 4, ii A]) dm_X12_applied_85 rfl rfl rfl rfl ?_
      refine y_shr (a := A) (k := 4) dm_X12_applied_86 (pc' := 87) rfl (by omega) (by omega) (by decide) ?_
      refine y_1eq (a := A / 16) (t := 96) (pc' := 90) dm_X12_applied_87 rfl rfl (by omega) (fun hb3 => ?_) (fun hb3 => ?_)
      · exfalso; omega
      · refine y_iinc (pc' := 93) (L' := [(6, ii 2), (5, ii ((t.2.2.1 47) a)), (0, .ref 102), (1, ii (a : Int)), (2, ii A), (3, ii lz), (4, ii wz)]) dm_X12_applied_90 (y_incp (a := 1) (c := 1) rfl rfl (by decide)) rfl ?_
        refine me2 (pc' := 79) (S' := []) dm_X12_applied_93 rfl rfl rfl ?_
        refine me1 (pc' := 80) (L' := [(6, ii 2), (5, ii ((t.2.2.1 47) a)), (0, .ref 102), (1, ii (a : Int)), (2, ii A), (3, ii lz), (4, ii wz)]) (S' := [ii A]) dm_X12_applied_79 rfl rfl rfl rfl ?_
        refine me0 (pc' := 81) (S' := [ii 2, ii A]) dm_X12_applied_80 rfl rfl rfl rfl ?_
        refine me1 (pc' := 83) (L' := [(6, ii 2), (5, ii ((t.2.2.1 47) a)), (0, .ref 102), (1, ii (a : Int)), (2, ii A), (3, ii lz), (4, ii wz)]) (S' := [ii 2, ii 2, ii A]) dm_X12_applied_81 rfl rfl rfl rfl ?_
        refine y_imul (a := 2) (b := 2) dm_X12_applied_83 (pc' := 84) rfl ?_
        refine pg_st (S' := [ii 4, ii A]) (congrArg (fun z => ii z :: [ii A]) (by decide)) ?_
        refine me0 (pc' := 85) (S' := [ii 2, ii 4, ii A]) dm_X12_applied_84 rfl rfl rfl rfl ?_
        refine me0 (pc' := 86) (S' := [ii 6, ii A]) dm_X12_applied_85 rfl rfl rfl rfl ?_
        refine y_shr (a := A) (k := 6) dm_X12_applied_86 (pc' := 87) rfl (by omega) (by omega) (by decide) ?_
        refine y_1eq (a := A / 64) (t := 96) (pc' := 90) dm_X12_applied_87 rfl rfl (by omega) (fun hb4 => ?_) (fun hb4 => ?_)
        · exfalso; omega
        · refine y_iinc (pc' := 93) (L' := [(6, ii 3), (5, ii ((t.2.2.1 47) a)), (0, .ref 102), (1, ii (a : Int)), (2, ii A), (3, ii lz), (4, ii wz)]) dm_X12_applied_90 (y_incp (a := 2) (c := 1) rfl rfl (by decide)) rfl ?_
          refine me2 (pc' := 79) (S' := []) dm_X12_applied_93 rfl rfl rfl ?_
          refine me1 (pc' := 80) (L' := [(6, ii 3), (5, ii ((t.2.2.1 47) a)), (0, .ref 102), (1, ii (a : Int)), (2, ii A), (3, ii lz), (4, ii wz)]) (S' := [ii A]) dm_X12_applied_79 rfl rfl rfl rfl ?_
          refine me0 (pc' := 81) (S' := [ii 2, ii A]) dm_X12_applied_80 rfl rfl rfl rfl ?_
          refine me1 (pc' := 83) (L' := [(6, ii 3), (5, ii ((t.2.2.1 47) a)), (0, .ref 102), (1, ii (a : Int)), (2, ii A), (3, ii lz), (4, ii wz)]) (S' := [ii 3, ii 2, ii A]) dm_X12_applied_81 rfl rfl rfl rfl ?_
          refine y_imul (a := 2) (b := 3) dm_X12_applied_83 (pc' := 84) rfl ?_
          refine pg_st (S' := [ii 6, ii A]) (congrArg (fun z => ii z :: [ii A]) (by decide)) ?_
          refine me0 (pc' := 85) (S' := [ii 2, ii 6, ii A]) dm_X12_applied_84 rfl rfl rfl rfl ?_
          refine me0 (pc' := 86) (S' := [ii 8, ii A]) dm_X12_applied_85 rfl rfl rfl rfl ?_
          refine y_shr (a := A) (k := 8) dm_X12_applied_86 (pc' := 87) rfl (by omega) (by omega) (by decide) ?_
          refine y_1eq (a := A / 256) (t := 96) (pc' := 90) dm_X12_applied_87 rfl rfl (by omega) (fun hb5 => ?_) (fun hb5 => ?_)
          · refine me1 (pc' := 97) (L' := [(6, ii 3), (5, ii ((t.2.2.1 47) a)), (0, .ref 102), (1, ii (a : Int)), (2, ii A), (3, ii lz), (4, ii wz)]) (S' := [ii A]) dm_X12_applied_96 rfl rfl rfl rfl ?_
            refine me0 (pc' := 98) (S' := [ii 2, ii A]) dm_X12_applied_97 rfl rfl rfl rfl ?_
            refine me1 (pc' := 100) (L' := [(6, ii 3), (5, ii ((t.2.2.1 47) a)), (0, .ref 102), (1, ii (a : Int)), (2, ii A), (3, ii lz), (4, ii wz)]) (S' := [ii 3, ii 2, ii A]) dm_X12_applied_98 rfl rfl rfl rfl ?_
            refine y_imul (a := 2) (b := 3) dm_X12_applied_100 (pc' := 101) rfl ?_
            refine pg_st (S' := [ii 6, ii A]) (congrArg (fun z => ii z :: [ii A]) (by decide)) ?_
            refine y_shr (a := A) (k := 6) dm_X12_applied_101 (pc' := 102) rfl (by omega) (by omega) (by decide) ?_
            refine pg_st (S' := [ii cc]) (congrArg (fun z => ii z :: []) (by omega)) ?_
            refine me1 (pc' := 104) (L' := [(7, ii cc), (6, ii 3), (5, ii ((t.2.2.1 47) a)), (0, .ref 102), (1, ii (a : Int)), (2, ii A), (3, ii lz), (4, ii wz)]) (S' := []) dm_X12_applied_102 rfl rfl rfl rfl ?_
            refine me1 (pc' := 105) (L' := [(7, ii cc), (6, ii 3), (5, ii ((t.2.2.1 47) a)), (0, .ref 102), (1, ii (a : Int)), (2, ii A), (3, ii lz), (4, ii wz)]) (S' := [ii A]) dm_X12_applied_104 rfl rfl rfl rfl ?_
            refine me0 (pc' := 106) (S' := [ii 1, ii A]) dm_X12_applied_105 rfl rfl rfl rfl ?_
            refine me0 (pc' := 107) (S' := [ii 2, ii 1, ii A]) dm_X12_applied_106 rfl rfl rfl rfl ?_
            refine me1 (pc' := 109) (L' := [(7, ii cc), (6, ii 3), (5, ii ((t.2.2.1 47) a)), (0, .ref 102), (1, ii (a : Int)), (2, ii A), (3, ii lz), (4, ii wz)]) (S' := [ii 3, ii 2, ii 1, ii A]) dm_X12_applied_107 rfl rfl rfl rfl ?_
            refine y_imul (a := 2) (b := 3) dm_X12_applied_109 (pc' := 110) rfl ?_
            refine pg_st (S' := [ii 6, ii 1, ii A]) (congrArg (fun z => ii z :: [ii 1, ii A]) (by decide)) ?_
            refine y_shl (a := 1) (k := 6) dm_X12_applied_110 (pc' := 111) rfl (by decide) ?_
            refine me0 (pc' := 112) (S' := [ii 1, ii (1 * 64), ii A]) dm_X12_applied_111 rfl rfl rfl rfl ?_
            refine y_isub (a := 1 * 64) (b := 1) dm_X12_applied_112 (pc' := 113) rfl ?_
            refine y_andM (a := A) (k := 6) dm_X12_applied_113 (pc' := 114) rfl (by omega) (by omega) (by decide) (by decide) ?_
            refine pg_st (S' := [ii lo]) (congrArg (fun z => ii z :: []) (by omega)) ?_
            refine me1 (pc' := 116) (L' := [(8, ii lo), (7, ii cc), (6, ii 3), (5, ii ((t.2.2.1 47) a)), (0, .ref 102), (1, ii (a : Int)), (2, ii A), (3, ii lz), (4, ii wz)]) (S' := []) dm_X12_applied_114 rfl rfl rfl rfl ?_
            refine me1 (pc' := 117) (L' := [(8, ii lo), (7, ii cc), (6, ii 3), (5, ii ((t.2.2.1 47) a)), (0, .ref 102), (1, ii (a : Int)), (2, ii A), (3, ii lz), (4, ii wz)]) (S' := [.ref 102]) dm_X12_applied_116 rfl rfl rfl rfl ?_
            refine me0 (pc' := 118) (S' := [ii 3, .ref 102]) dm_X12_applied_117 rfl rfl rfl rfl ?_
            refine me1 (pc' := 120) (L' := [(8, ii lo), (7, ii cc), (6, ii 3), (5, ii ((t.2.2.1 47) a)), (0, .ref 102), (1, ii (a : Int)), (2, ii A), (3, ii lz), (4, ii wz)]) (S' := [ii ((t.2.2.1 47) a), ii 3, .ref 102]) dm_X12_applied_118 rfl rfl rfl rfl ?_
            refine x_cv (pc' := 123) (rest := []) dm_X12_applied_120 rfl (q_inv (As := [ii 3, ii ((t.2.2.1 47) a)]) (S := []) hm rfl rfl rfl) rfl rfl rfl (r_takes_ (s := t) (n := 3) hm (by omega) h5 hca.1 hca.2 h8.1 h8.2 (by omega)) ?_
            rintro _ _ ⟨rfl, rfl⟩
            refine y_zne (c := decide ((3 : Int) ≤ t.1 8)) (t := 128) (pc' := 126) dm_X12_applied_123 rfl rfl (fun hb6 => ?_) (fun hb6 => ?_)
            · replace hb6 := dT hb6
              refine pg_cast (h2 := rI pre post ((takeS t 3).1) ((takeS t 3).2.1) ((takeS t 3).2.2.1) ((takeS t 3).2.2.2)) (by rw [tkS_t (by omega)]) ?_
              refine me1 (pc' := 130) (L' := [(8, ii lo), (7, ii cc), (6, ii 3), (5, ii ((t.2.2.1 47) a)), (0, .ref 102), (1, ii (a : Int)), (2, ii A), (3, ii lz), (4, ii wz)]) (S' := [ii cc]) dm_X12_applied_128 rfl rfl rfl rfl ?_
              refine me0 (pc' := 131) (S' := [ii 3, ii cc]) dm_X12_applied_130 rfl rfl rfl rfl ?_
              refine y_2ne (a := cc) (b := 3) (t := 149) (pc' := 134) dm_X12_applied_131 rfl rfl (by omega) (fun hb7 => ?_) (fun hb7 => ?_)
              · exfalso; omega
              · refine me1 (pc' := 135) (L' := [(8, ii lo), (7, ii cc), (6, ii 3), (5, ii ((t.2.2.1 47) a)), (0, .ref 102), (1, ii (a : Int)), (2, ii A), (3, ii lz), (4, ii wz)]) (S' := [.ref 102]) dm_X12_applied_134 rfl rfl rfl rfl ?_
                refine me1 (pc' := 136) (L' := [(8, ii lo), (7, ii cc), (6, ii 3), (5, ii ((t.2.2.1 47) a)), (0, .ref 102), (1, ii (a : Int)), (2, ii A), (3, ii lz), (4, ii wz)]) (S' := [ii (a : Int), .ref 102]) dm_X12_applied_135 rfl rfl rfl rfl ?_
                refine me1 (pc' := 138) (L' := [(8, ii lo), (7, ii cc), (6, ii 3), (5, ii ((t.2.2.1 47) a)), (0, .ref 102), (1, ii (a : Int)), (2, ii A), (3, ii lz), (4, ii wz)]) (S' := [ii lo, ii (a : Int), .ref 102]) dm_X12_applied_136 rfl rfl rfl rfl ?_
                refine me1 (pc' := 139) (L' := [(8, ii lo), (7, ii cc), (6, ii 3), (5, ii ((t.2.2.1 47) a)), (0, .ref 102), (1, ii (a : Int)), (2, ii A), (3, ii lz), (4, ii wz)]) (S' := [ii lz, ii lo, ii (a : Int), .ref 102]) dm_X12_applied_138 rfl rfl rfl rfl ?_
                refine me1 (pc' := 141) (L' := [(8, ii lo), (7, ii cc), (6, ii 3), (5, ii ((t.2.2.1 47) a)), (0, .ref 102), (1, ii (a : Int)), (2, ii A), (3, ii lz), (4, ii wz)]) (S' := [ii wz, ii lz, ii lo, ii (a : Int), .ref 102]) dm_X12_applied_139 rfl rfl rfl rfl ?_
                refine me1 (pc' := 143) (L' := [(8, ii lo), (7, ii cc), (6, ii 3), (5, ii ((t.2.2.1 47) a)), (0, .ref 102), (1, ii (a : Int)), (2, ii A), (3, ii lz), (4, ii wz)]) (S' := [ii ((t.2.2.1 47) a), ii wz, ii lz, ii lo, ii (a : Int), .ref 102]) dm_X12_applied_141 rfl rfl rfl rfl ?_
                refine x_cv (pc' := 146) (rest := []) dm_X12_applied_143 rfl (q_inv (As := [ii (a : Int), ii lo, ii lz, ii wz, ii ((t.2.2.1 47) a)]) (S := []) hm rfl rfl rfl) rfl rfl rfl (hc) ?_
                rintro x1 g1 f1
                obtain ⟨t1, z1, rfl, rfl, hE1, hZ1, hQ1⟩ := f1
                refine me2 (pc' := 172) (S' := [ii z1]) dm_X12_applied_146 rfl rfl rfl ?_
                refine y_ret (r := some (ii z1)) dm_X12_applied_172 rfl rfl rfl ?_
                exact ⟨_, rfl, _, _, rfl, rfl, hE1, hZ1, hQ1⟩
            · replace hb6 := dF hb6; exfalso; omega
          · exfalso; omega
  · exfalso; omega
theorem a_fold31 {xt : mj_X} {d : Nat} {pre post : mj_H} {t : RS} (hm : pre.length = 102) (hd1 : 1 ≤ d) {a : Nat} {wz : Int} {Q : RS → Int → Prop} (ha : a < 84000) {lo cc lz A : Int} (hA : A = lo + cc * 64) (hlo : 0 ≤ lo ∧ lo < 64) (hcc : 1 ≤ cc ∧ cc ≤ 3) (h5 : t.1 5 = 0) (hca : 0 ≤ t.1 10 ∧ t.1 10 ≤ 100) (h8 : 0 ≤ t.1 8 ∧ t.1 8 ≤ 500000) (hd2 : 3 ≤ d) (hW : 3 ≤ t.1 8) (h3 : cc = 1) (hc : pgV xt (d - 1) 299 [.ref 102, ii (a : Int), ii lo, ii lz, ii wz, ii 0, ii (t.2.2.1 47 a)] (rS pre post (takeS t 3)) (RA pre post Q)) : pgV xt d 279 [.ref 102, ii (a : Int), ii A, ii lz, ii wz] (rS pre post t) (RA pre post Q) := by
  refine x_enter pm_X12_applied (L0 := [(0, .ref 102), (1, ii (a : Int)), (2, ii A), (3, ii lz), (4, ii wz)]) rfl (Nat.le_of_ble_eq_true rfl) (by omega) ?_
  refine me1 (pc' := 1) (L' := [(0, .ref 102), (1, ii (a : Int)), (2, ii A), (3, ii lz), (4, ii wz)]) (S' := [.ref 102]) dm_X12_applied_0 rfl rfl rfl rfl ?_
  refine me3 (pc' := 4) (S' := [.ref (102 + 22)]) dm_X12_applied_1 (q_getr hm rfl (fun m i l => rg_47 m i l)) rfl rfl rfl ?_
  refine me1 (pc' := 5) (L' := [(0, .ref 102), (1, ii (a : Int)), (2, ii A), (3, ii lz), (4, ii wz)]) (S' := [ii (a : Int), .ref (102 + 22)]) dm_X12_applied_4 rfl rfl rfl rfl ?_
  refine me3 (pc' := 6) (S' := [ii ((t.2.2.1 47) a)]) dm_X12_applied_5 (q_iald (v := (t.2.2.1 47) a) (k := 47) (n := 84000) hm (fun m i l I J => rc_47 m i l I J) (by omega) (by omega) (by decide) rfl) rfl rfl rfl ?_
  refine me1 (pc' := 8) (L' := [(5, ii ((t.2.2.1 47) a)), (0, .ref 102), (1, ii (a : Int)), (2, ii A), (3, ii lz), (4, ii wz)]) (S' := []) dm_X12_applied_6 rfl rfl rfl rfl ?_
  refine me1 (pc' := 9) (L' := [(5, ii ((t.2.2.1 47) a)), (0, .ref 102), (1, ii (a : Int)), (2, ii A), (3, ii lz), (4, ii wz)]) (S' := [ii A]) dm_X12_applied_8 rfl rfl rfl rfl ?_
  refine y_1ne (a := A) (t := 76) (pc' := 12) dm_X12_applied_9 rfl rfl (by omega) (fun hb1 => ?_) (fun hb1 => ?_)
  · refine me0 (pc' := 77) (S' := [ii 0]) dm_X12_applied_76 rfl rfl rfl rfl ?_
    refine me1 (pc' := 79) (L' := [(6, ii 0), (5, ii ((t.2.2.1 47) a)), (0, .ref 102), (1, ii (a : Int)), (2, ii A), (3, ii lz), (4, ii wz)]) (S' := []) dm_X12_applied_77 rfl rfl rfl rfl ?_
    refine me1 (pc' := 80) (L' := [(6, ii 0), (5, ii ((t.2.2.1 47) a)), (0, .ref 102), (1, ii (a : Int)), (2, ii A), (3, ii lz), (4, ii wz)]) (S' := [ii A]) dm_X12_applied_79 rfl rfl rfl rfl ?_
    refine me0 (pc' := 81) (S' := [ii 2, ii A]) dm_X12_applied_80 rfl rfl rfl rfl ?_
    refine me1 (pc' := 83) (L' := [(6, ii 0), (5, ii ((t.2.2.1 47) a)), (0, .ref 102), (1, ii (a : Int)), (2, ii A), (3, ii lz), (4, ii wz)]) (S' := [ii 0, ii 2, ii A]) dm_X12_applied_81 rfl rfl rfl rfl ?_
    refine y_imul (a := 2) (b := 0) dm_X12_applied_83 (pc' := 84) rfl ?_
    refine pg_st (S' := [ii 0, ii A]) (congrArg (fun z => ii z :: [ii A]) (by decide)) ?_
    refine me0 (pc' := 85) (S' := [ii 2, ii 0, ii A]) dm_X12_applied_84 rfl rfl rfl rfl ?_
    refine me0 (pc' := 86) (S' := [ii 2, ii A]) dm_X12_applied_85 rfl rfl rfl rfl ?_
    refine y_shr (a := A) (k := 2) dm_X12_applied_86 (pc' := 87) rfl (by omega) (by omega) (by decide) ?_
    refine y_1eq (a := A / 4) (t := 96) (pc' := 90) dm_X12_applied_87 rfl rfl (by omega) (fun hb2 => ?_) (fun hb2 => ?_)
    · exfalso; omega
    · refine y_iinc (pc' := 93) (L' := [(6, ii 1), (5, ii ((t.2.2.1 47) a)), (0, .ref 102), (1, ii (a : Int)), (2, ii A), (3, ii lz), (4, ii wz)]) dm_X12_applied_90 (y_incp (a := 0) (c := 1) rfl rfl (by decide)) rfl ?_
      refine me2 (pc' := 79) (S' := []) dm_X12_applied_93 rfl rfl rfl ?_
      refine me1 (pc' := 80) (L' := [(6, ii 1), (5, ii ((t.2.2.1 47) a)), (0, .ref 102), (1, ii (a : Int)), (2, ii A), (3, ii lz), (4, ii wz)]) (S' := [ii A]) dm_X12_applied_79 rfl rfl rfl rfl ?_
      refine me0 (pc' := 81) (S' := [ii 2, ii A]) dm_X12_applied_80 rfl rfl rfl rfl ?_
      refine me1 (pc' := 83) (L' := [(6, ii 1), (5, ii ((t.2.2.1 47) a)), (0, .ref 102), (1, ii (a : Int)), (2, ii A), (3, ii lz), (4, ii wz)]) (S' := [ii 1, ii 2, ii A]) dm_X12_applied_81 rfl rfl rfl rfl ?_
      refine y_imul (a := 2) (b := 1) dm_X12_applied_83 (pc' := 84) rfl ?_
      refine pg_st (S' := [ii 2, ii A]) (congrArg (fun z => ii z :: [ii A]) (by decide)) ?_
      refine me0 (pc' := 85) (S' := [ii 2, ii 2, ii A]) dm_X12_applied_84 rfl rfl rfl rfl ?_
      refine me0 (pc' := 86) (S' := [ii 4, ii A]) dm_X12_applied_85 rfl rfl rfl rfl ?_
      refine y_shr (a := A) (k := 4) dm_X12_applied_86 (pc' := 87) rfl (by omega) (by omega) (by decide) ?_
      refine y_1eq (a := A / 16) (t := 96) (pc' := 90) dm_X12_applied_87 rfl rfl (by omega) (fun hb3 => ?_) (fun hb3 => ?_)
      · exfalso; omega
      · refine y_iinc (pc' := 93) (L' := [(6, ii 2), (5, ii ((t.2.2.1 47) a)), (0, .ref 102), (1, ii (a : Int)), (2, ii A), (3, ii lz), (4, ii wz)]) dm_X12_applied_90 (y_incp (a := 1) (c := 1) rfl rfl (by decide)) rfl ?_
        refine me2 (pc' := 79) (S' := []) dm_X12_applied_93 rfl rfl rfl ?_
        refine me1 (pc' := 80) (L' := [(6, ii 2), (5, ii ((t.2.2.1 47) a)), (0, .ref 102), (1, ii (a : Int)), (2, ii A), (3, ii lz), (4, ii wz)]) (S' := [ii A]) dm_X12_applied_79 rfl rfl rfl rfl ?_
        refine me0 (pc' := 81) (S' := [ii 2, ii A]) dm_X12_applied_80 rfl rfl rfl rfl ?_
        refine me1 (pc' := 83) (L' := [(6, ii 2), (5, ii ((t.2.2.1 47) a)), (0, .ref 102), (1, ii (a : Int)), (2, ii A), (3, ii lz), (4, ii wz)]) (S' := [ii 2, ii 2, ii A]) dm_X12_applied_81 rfl rfl rfl rfl ?_
        refine y_imul (a := 2) (b := 2) dm_X12_applied_83 (pc' := 84) rfl ?_
        refine pg_st (S' := [ii 4, ii A]) (congrArg (fun z => ii z :: [ii A]) (by decide)) ?_
        refine me0 (pc' := 85) (S' := [ii 2, ii 4, ii A]) dm_X12_applied_84 rfl rfl rfl rfl ?_
        refine me0 (pc' := 86) (S' := [ii 6, ii A]) dm_X12_applied_85 rfl rfl rfl rfl ?_
        refine y_shr (a := A) (k := 6) dm_X12_applied_86 (pc' := 87) rfl (by omega) (by omega) (by decide) ?_
        refine y_1eq (a := A / 64) (t := 96) (pc' := 90) dm_X12_applied_87 rfl rfl (by omega) (fun hb4 => ?_) (fun hb4 => ?_)
        · exfalso; omega
        · refine y_iinc (pc' := 93) (L' := [(6, ii 3), (5, ii ((t.2.2.1 47) a)), (0, .ref 102), (1, ii (a : Int)), (2, ii A), (3, ii lz), (4, ii wz)]) dm_X12_applied_90 (y_incp (a := 2) (c := 1) rfl rfl (by decide)) rfl ?_
          refine me2 (pc' := 79) (S' := []) dm_X12_applied_93 rfl rfl rfl ?_
          refine me1 (pc' := 80) (L' := [(6, ii 3), (5, ii ((t.2.2.1 47) a)), (0, .ref 102), (1, ii (a : Int)), (2, ii A), (3, ii lz), (4, ii wz)]) (S' := [ii A]) dm_X12_applied_79 rfl rfl rfl rfl ?_
          refine me0 (pc' := 81) (S' := [ii 2, ii A]) dm_X12_applied_80 rfl rfl rfl rfl ?_
          refine me1 (pc' := 83) (L' := [(6, ii 3), (5, ii ((t.2.2.1 47) a)), (0, .ref 102), (1, ii (a : Int)), (2, ii A), (3, ii lz), (4, ii wz)]) (S' := [ii 3, ii 2, ii A]) dm_X12_applied_81 rfl rfl rfl rfl ?_
          refine y_imul (a := 2) (b := 3) dm_X12_applied_83 (pc' := 84) rfl ?_
          refine pg_st (S' := [ii 6, ii A]) (congrArg (fun z => ii z :: [ii A]) (by decide)) ?_
          refine me0 (pc' := 85) (S' := [ii 2, ii 6, ii A]) dm_X12_applied_84 rfl rfl rfl rfl ?_
          refine me0 (pc' := 86) (S' := [ii 8, ii A]) dm_X12_applied_85 rfl rfl rfl rfl ?_
          refine y_shr (a := A) (k := 8) dm_X12_applied_86 (pc' := 87) rfl (by omega) (by omega) (by decide) ?_
          refine y_1eq (a := A / 256) (t := 96) (pc' := 90) dm_X12_applied_87 rfl rfl (by omega) (fun hb5 => ?_) (fun hb5 => ?_)
          · refine me1 (pc' := 97) (L' := [(6, ii 3), (5, ii ((t.2.2.1 47) a)), (0, .ref 102), (1, ii (a : Int)), (2, ii A), (3, ii lz), (4, ii wz)]) (S' := [ii A]) dm_X12_applied_96 rfl rfl rfl rfl ?_
            refine me0 (pc' := 98) (S' := [ii 2, ii A]) dm_X12_applied_97 rfl rfl rfl rfl ?_
            refine me1 (pc' := 100) (L' := [(6, ii 3), (5, ii ((t.2.2.1 47) a)), (0, .ref 102), (1, ii (a : Int)), (2, ii A), (3, ii lz), (4, ii wz)]) (S' := [ii 3, ii 2, ii A]) dm_X12_applied_98 rfl rfl rfl rfl ?_
            refine y_imul (a := 2) (b := 3) dm_X12_applied_100 (pc' := 101) rfl ?_
            refine pg_st (S' := [ii 6, ii A]) (congrArg (fun z => ii z :: [ii A]) (by decide)) ?_
            refine y_shr (a := A) (k := 6) dm_X12_applied_101 (pc' := 102) rfl (by omega) (by omega) (by decide) ?_
            refine pg_st (S' := [ii cc]) (congrArg (fun z => ii z :: []) (by omega)) ?_
            refine me1 (pc' := 104) (L' := [(7, ii cc), (6, ii 3), (5, ii ((t.2.2.1 47) a)), (0, .ref 102), (1, ii (a : Int)), (2, ii A), (3, ii lz), (4, ii wz)]) (S' := []) dm_X12_applied_102 rfl rfl rfl rfl ?_
            refine me1 (pc' := 105) (L' := [(7, ii cc), (6, ii 3), (5, ii ((t.2.2.1 47) a)), (0, .ref 102), (1, ii (a : Int)), (2, ii A), (3, ii lz), (4, ii wz)]) (S' := [ii A]) dm_X12_applied_104 rfl rfl rfl rfl ?_
            refine me0 (pc' := 106) (S' := [ii 1, ii A]) dm_X12_applied_105 rfl rfl rfl rfl ?_
            refine me0 (pc' := 107) (S' := [ii 2, ii 1, ii A]) dm_X12_applied_106 rfl rfl rfl rfl ?_
            refine me1 (pc' := 109) (L' := [(7, ii cc), (6, ii 3), (5, ii ((t.2.2.1 47) a)), (0, .ref 102), (1, ii (a : Int)), (2, ii A), (3, ii lz), (4, ii wz)]) (S' := [ii 3, ii 2, ii 1, ii A]) dm_X12_applied_107 rfl rfl rfl rfl ?_
            refine y_imul (a := 2) (b := 3) dm_X12_applied_109 (pc' := 110) rfl ?_
            refine pg_st (S' := [ii 6, ii 1, ii A]) (congrArg (fun z => ii z :: [ii 1, ii A]) (by decide)) ?_
            refine y_shl (a := 1) (k := 6) dm_X12_applied_110 (pc' := 111) rfl (by decide) ?_
            refine me0 (pc' := 112) (S' := [ii 1, ii (1 * 64), ii A]) dm_X12_applied_111 rfl rfl rfl rfl ?_
            refine y_isub (a := 1 * 64) (b := 1) dm_X12_applied_112 (pc' := 113) rfl ?_
            refine y_andM (a := A) (k := 6) dm_X12_applied_113 (pc' := 114) rfl (by omega) (by omega) (by decide) (by decide) ?_
            refine pg_st (S' := [ii lo]) (congrArg (fun z => ii z :: []) (by omega)) ?_
            refine me1 (pc' := 116) (L' := [(8, ii lo), (7, ii cc), (6, ii 3), (5, ii ((t.2.2.1 47) a)), (0, .ref 102), (1, ii (a : Int)), (2, ii A), (3, ii lz), (4, ii wz)]) (S' := []) dm_X12_applied_114 rfl rfl rfl rfl ?_
            refine me1 (pc' := 117) (L' := [(8, ii lo), (7, ii cc), (6, ii 3), (5, ii ((t.2.2.1 47) a)), (0, .ref 102), (1, ii (a : Int)), (2, ii A), (3, ii lz), (4, ii wz)]) (S' := [.ref 102]) dm_X12_applied_116 rfl rfl rfl rfl ?_
            refine me0 (pc' := 118) (S' := [ii 3, .ref 102]) dm_X12_applied_117 rfl rfl rfl rfl ?_
            refine me1 (pc' := 120) (L' := [(8, ii lo), (7, ii cc), (6, ii 3), (5, ii ((t.2.2.1 47) a)), (0, .ref 102), (1, ii (a : Int)), (2, ii A), (3, ii lz), (4, ii wz)]) (S' := [ii ((t.2.2.1 47) a), ii 3, .ref 102]) dm_X12_applied_118 rfl rfl rfl rfl ?_
            refine x_cv (pc' := 123) (rest := []) dm_X12_applied_120 rfl (q_inv (As := [ii 3, ii ((t.2.2.1 47) a)]) (S := []) hm rfl rfl rfl) rfl rfl rfl (r_takes_ (s := t) (n := 3) hm (by omega) h5 hca.1 hca.2 h8.1 h8.2 (by omega)) ?_
            rintro _ _ ⟨rfl, rfl⟩
            refine y_zne (c := decide ((3 : Int) ≤ t.1 8)) (t := 128) (pc' := 126) dm_X12_applied_123 rfl rfl (fun hb6 => ?_) (fun hb6 => ?_)
            · replace hb6 := dT hb6
              refine pg_cast (h2 := rI pre post ((takeS t 3).1) ((takeS t 3).2.1) ((takeS t 3).2.2.1) ((takeS t 3).2.2.2)) (by rw [tkS_t (by omega)]) ?_
              refine me1 (pc' := 130) (L' := [(8, ii lo), (7, ii cc), (6, ii 3), (5, ii ((t.2.2.1 47) a)), (0, .ref 102), (1, ii (a : Int)), (2, ii A), (3, ii lz), (4, ii wz)]) (S' := [ii cc]) dm_X12_applied_128 rfl rfl rfl rfl ?_
              refine me0 (pc' := 131) (S' := [ii 3, ii cc]) dm_X12_applied_130 rfl rfl rfl rfl ?_
              refine y_2ne (a := cc) (b := 3) (t := 149) (pc' := 134) dm_X12_applied_131 rfl rfl (by omega) (fun hb7 => ?_) (fun hb7 => ?_)
              · refine me1 (pc' := 150) (L' := [(8, ii lo), (7, ii cc), (6, ii 3), (5, ii ((t.2.2.1 47) a)), (0, .ref 102), (1, ii (a : Int)), (2, ii A), (3, ii lz), (4, ii wz)]) (S' := [.ref 102]) dm_X12_applied_149 rfl rfl rfl rfl ?_
                refine me1 (pc' := 151) (L' := [(8, ii lo), (7, ii cc), (6, ii 3), (5, ii ((t.2.2.1 47) a)), (0, .ref 102), (1, ii (a : Int)), (2, ii A), (3, ii lz), (4, ii wz)]) (S' := [ii (a : Int), .ref 102]) dm_X12_applied_150 rfl rfl rfl rfl ?_
                refine me1 (pc' := 153) (L' := [(8, ii lo), (7, ii cc), (6, ii 3), (5, ii ((t.2.2.1 47) a)), (0, .ref 102), (1, ii (a : Int)), (2, ii A), (3, ii lz), (4, ii wz)]) (S' := [ii lo, ii (a : Int), .ref 102]) dm_X12_applied_151 rfl rfl rfl rfl ?_
                refine me1 (pc' := 154) (L' := [(8, ii lo), (7, ii cc), (6, ii 3), (5, ii ((t.2.2.1 47) a)), (0, .ref 102), (1, ii (a : Int)), (2, ii A), (3, ii lz), (4, ii wz)]) (S' := [ii lz, ii lo, ii (a : Int), .ref 102]) dm_X12_applied_153 rfl rfl rfl rfl ?_
                refine me1 (pc' := 156) (L' := [(8, ii lo), (7, ii cc), (6, ii 3), (5, ii ((t.2.2.1 47) a)), (0, .ref 102), (1, ii (a : Int)), (2, ii A), (3, ii lz), (4, ii wz)]) (S' := [ii wz, ii lz, ii lo, ii (a : Int), .ref 102]) dm_X12_applied_154 rfl rfl rfl rfl ?_
                refine me1 (pc' := 158) (L' := [(8, ii lo), (7, ii cc), (6, ii 3), (5, ii ((t.2.2.1 47) a)), (0, .ref 102), (1, ii (a : Int)), (2, ii A), (3, ii lz), (4, ii wz)]) (S' := [ii cc, ii wz, ii lz, ii lo, ii (a : Int), .ref 102]) dm_X12_applied_156 rfl rfl rfl rfl ?_
                refine me0 (pc' := 159) (S' := [ii 2, ii cc, ii wz, ii lz, ii lo, ii (a : Int), .ref 102]) dm_X12_applied_158 rfl rfl rfl rfl ?_
                refine y_2ne (a := cc) (b := 2) (t := 166) (pc' := 162) dm_X12_applied_159 rfl rfl (by omega) (fun hb8 => ?_) (fun hb8 => ?_)
                · refine me0 (pc' := 167) (S' := [ii 0, ii wz, ii lz, ii lo, ii (a : Int), .ref 102]) dm_X12_applied_166 rfl rfl rfl rfl ?_
                  refine me1 (pc' := 169) (L' := [(8, ii lo), (7, ii cc), (6, ii 3), (5, ii ((t.2.2.1 47) a)), (0, .ref 102), (1, ii (a : Int)), (2, ii A), (3, ii lz), (4, ii wz)]) (S' := [ii ((t.2.2.1 47) a), ii 0, ii wz, ii lz, ii lo, ii (a : Int), .ref 102]) dm_X12_applied_167 rfl rfl rfl rfl ?_
                  refine x_cv (pc' := 172) (rest := []) dm_X12_applied_169 rfl (q_inv (As := [ii (a : Int), ii lo, ii lz, ii wz, ii 0, ii ((t.2.2.1 47) a)]) (S := []) hm rfl rfl rfl) rfl rfl rfl (hc) ?_
                  rintro x1 g1 f1
                  obtain ⟨t1, z1, rfl, rfl, hE1, hZ1, hQ1⟩ := f1
                  refine y_ret (r := some (ii z1)) dm_X12_applied_172 rfl rfl rfl ?_
                  exact ⟨_, rfl, _, _, rfl, rfl, hE1, hZ1, hQ1⟩
                · exfalso; omega
              · exfalso; omega
            · replace hb6 := dF hb6; exfalso; omega
          · exfalso; omega
  · exfalso; omega
theorem a_fold32 {xt : mj_X} {d : Nat} {pre post : mj_H} {t : RS} (hm : pre.length = 102) (hd1 : 1 ≤ d) {a : Nat} {wz : Int} {Q : RS → Int → Prop} (ha : a < 84000) {lo cc lz A : Int} (hA : A = lo + cc * 64) (hlo : 0 ≤ lo ∧ lo < 64) (hcc : 1 ≤ cc ∧ cc ≤ 3) (h5 : t.1 5 = 0) (hca : 0 ≤ t.1 10 ∧ t.1 10 ≤ 100) (h8 : 0 ≤ t.1 8 ∧ t.1 8 ≤ 500000) (hd2 : 3 ≤ d) (hW : 3 ≤ t.1 8) (h3 : cc = 2) (hc : pgV xt (d - 1) 299 [.ref 102, ii (a : Int), ii lo, ii lz, ii wz, ii 1, ii (t.2.2.1 47 a)] (rS pre post (takeS t 3)) (RA pre post Q)) : pgV xt d 279 [.ref 102, ii (a : Int), ii A, ii lz, ii wz] (rS pre post t) (RA pre post Q) := by
  refine x_enter pm_X12_applied (L0 := [(0, .ref 102), (1, ii (a : Int)), (2, ii A), (3, ii lz), (4, ii wz)]) rfl (Nat.le_of_ble_eq_true rfl) (by omega) ?_
  refine me1 (pc' := 1) (L' := [(0, .ref 102), (1, ii (a : Int)), (2, ii A), (3, ii lz), (4, ii wz)]) (S' := [.ref 102]) dm_X12_applied_0 rfl rfl rfl rfl ?_
  refine me3 (pc' := 4) (S' := [.ref (102 + 22)]) dm_X12_applied_1 (q_getr hm rfl (fun m i l => rg_47 m i l)) rfl rfl rfl ?_
  refine me1 (pc' := 5) (L' := [(0, .ref 102), (1, ii (a : Int)), (2, ii A), (3, ii lz), (4, ii wz)]) (S' := [ii (a : Int), .ref (102 + 22)]) dm_X12_applied_4 rfl rfl rfl rfl ?_
  refine me3 (pc' := 6) (S' := [ii ((t.2.2.1 47) a)]) dm_X12_applied_5 (q_iald (v := (t.2.2.1 47) a) (k := 47) (n := 84000) hm (fun m i l I J => rc_47 m i l I J) (by omega) (by omega) (by decide) rfl) rfl rfl rfl ?_
  refine me1 (pc' := 8) (L' := [(5, ii ((t.2.2.1 47) a)), (0, .ref 102), (1, ii (a : Int)), (2, ii A), (3, ii lz), (4, ii wz)]) (S' := []) dm_X12_applied_6 rfl rfl rfl rfl ?_
  refine me1 (pc' := 9) (L' := [(5, ii ((t.2.2.1 47) a)), (0, .ref 102), (1, ii (a : Int)), (2, ii A), (3, ii lz), (4, ii wz)]) (S' := [ii A]) dm_X12_applied_8 rfl rfl rfl rfl ?_
  refine y_1ne (a := A) (t := 76) (pc' := 12) dm_X12_applied_9 rfl rfl (by omega) (fun hb1 => ?_) (fun hb1 => ?_)
  · refine me0 (pc' := 77) (S' := [ii 0]) dm_X12_applied_76 rfl rfl rfl rfl ?_
    refine me1 (pc' := 79) (L' := [(6, ii 0), (5, ii ((t.2.2.1 47) a)), (0, .ref 102), (1, ii (a : Int)), (2, ii A), (3, ii lz), (4, ii wz)]) (S' := []) dm_X12_applied_77 rfl rfl rfl rfl ?_
    refine me1 (pc' := 80) (L' := [(6, ii 0), (5, ii ((t.2.2.1 47) a)), (0, .ref 102), (1, ii (a : Int)), (2, ii A), (3, ii lz), (4, ii wz)]) (S' := [ii A]) dm_X12_applied_79 rfl rfl rfl rfl ?_
    refine me0 (pc' := 81) (S' := [ii 2, ii A]) dm_X12_applied_80 rfl rfl rfl rfl ?_
    refine me1 (pc' := 83) (L' := [(6, ii 0), (5, ii ((t.2.2.1 47) a)), (0, .ref 102), (1, ii (a : Int)), (2, ii A), (3, ii lz), (4, ii wz)]) (S' := [ii 0, ii 2, ii A]) dm_X12_applied_81 rfl rfl rfl rfl ?_
    refine y_imul (a := 2) (b := 0) dm_X12_applied_83 (pc' := 84) rfl ?_
    refine pg_st (S' := [ii 0, ii A]) (congrArg (fun z => ii z :: [ii A]) (by decide)) ?_
    refine me0 (pc' := 85) (S' := [ii 2, ii 0, ii A]) dm_X12_applied_84 rfl rfl rfl rfl ?_
    refine me0 (pc' := 86) (S' := [ii 2, ii A]) dm_X12_applied_85 rfl rfl rfl rfl ?_
    refine y_shr (a := A) (k := 2) dm_X12_applied_86 (pc' := 87) rfl (by omega) (by omega) (by decide) ?_
    refine y_1eq (a := A / 4) (t := 96) (pc' := 90) dm_X12_applied_87 rfl rfl (by omega) (fun hb2 => ?_) (fun hb2 => ?_)
    · exfalso; omega
    · refine y_iinc (pc' := 93) (L' := [(6, ii 1), (5, ii ((t.2.2.1 47) a)), (0, .ref 102), (1, ii (a : Int)), (2, ii A), (3, ii lz), (4, ii wz)]) dm_X12_applied_90 (y_incp (a := 0) (c := 1) rfl rfl (by decide)) rfl ?_
      refine me2 (pc' := 79) (S' := []) dm_X12_applied_93 rfl rfl rfl ?_
      refine me1 (pc' := 80) (L' := [(6, ii 1), (5, ii ((t.2.2.1 47) a)), (0, .ref 102), (1, ii (a : Int)), (2, ii A), (3, ii lz), (4, ii wz)]) (S' := [ii A]) dm_X12_applied_79 rfl rfl rfl rfl ?_
      refine me0 (pc' := 81) (S' := [ii 2, ii A]) dm_X12_applied_80 rfl rfl rfl rfl ?_
      refine me1 (pc' := 83) (L' := [(6, ii 1), (5, ii ((t.2.2.1 47) a)), (0, .ref 102), (1, ii (a : Int)), (2, ii A), (3, ii lz), (4, ii wz)]) (S' := [ii 1, ii 2, ii A]) dm_X12_applied_81 rfl rfl rfl rfl ?_
      refine y_imul (a := 2) (b := 1) dm_X12_applied_83 (pc' := 84) rfl ?_
      refine pg_st (S' := [ii 2, ii A]) (congrArg (fun z => ii z :: [ii A]) (by decide)) ?_
      refine me0 (pc' := 85) (S' := [ii 2, ii 2, ii A]) dm_X12_applied_84 rfl rfl rfl rfl ?_
      refine me0 (pc' := 86) (S' := [ii 4, ii A]) dm_X12_applied_85 rfl rfl rfl rfl ?_
      refine y_shr (a := A) (k := 4) dm_X12_applied_86 (pc' := 87) rfl (by omega) (by omega) (by decide) ?_
      refine y_1eq (a := A / 16) (t := 96) (pc' := 90) dm_X12_applied_87 rfl rfl (by omega) (fun hb3 => ?_) (fun hb3 => ?_)
      · exfalso; omega
      · refine y_iinc (pc' := 93) (L' := [(6, ii 2), (5, ii ((t.2.2.1 47) a)), (0, .ref 102), (1, ii (a : Int)), (2, ii A), (3, ii lz), (4, ii wz)]) dm_X12_applied_90 (y_incp (a := 1) (c := 1) rfl rfl (by decide)) rfl ?_
        refine me2 (pc' := 79) (S' := []) dm_X12_applied_93 rfl rfl rfl ?_
        refine me1 (pc' := 80) (L' := [(6, ii 2), (5, ii ((t.2.2.1 47) a)), (0, .ref 102), (1, ii (a : Int)), (2, ii A), (3, ii lz), (4, ii wz)]) (S' := [ii A]) dm_X12_applied_79 rfl rfl rfl rfl ?_
        refine me0 (pc' := 81) (S' := [ii 2, ii A]) dm_X12_applied_80 rfl rfl rfl rfl ?_
        refine me1 (pc' := 83) (L' := [(6, ii 2), (5, ii ((t.2.2.1 47) a)), (0, .ref 102), (1, ii (a : Int)), (2, ii A), (3, ii lz), (4, ii wz)]) (S' := [ii 2, ii 2, ii A]) dm_X12_applied_81 rfl rfl rfl rfl ?_
        refine y_imul (a := 2) (b := 2) dm_X12_applied_83 (pc' := 84) rfl ?_
        refine pg_st (S' := [ii 4, ii A]) (congrArg (fun z => ii z :: [ii A]) (by decide)) ?_
        refine me0 (pc' := 85) (S' := [ii 2, ii 4, ii A]) dm_X12_applied_84 rfl rfl rfl rfl ?_
        refine me0 (pc' := 86) (S' := [ii 6, ii A]) dm_X12_applied_85 rfl rfl rfl rfl ?_
        refine y_shr (a := A) (k := 6) dm_X12_applied_86 (pc' := 87) rfl (by omega) (by omega) (by decide) ?_
        refine y_1eq (a := A / 64) (t := 96) (pc' := 90) dm_X12_applied_87 rfl rfl (by omega) (fun hb4 => ?_) (fun hb4 => ?_)
        · exfalso; omega
        · refine y_iinc (pc' := 93) (L' := [(6, ii 3), (5, ii ((t.2.2.1 47) a)), (0, .ref 102), (1, ii (a : Int)), (2, ii A), (3, ii lz), (4, ii wz)]) dm_X12_applied_90 (y_incp (a := 2) (c := 1) rfl rfl (by decide)) rfl ?_
          refine me2 (pc' := 79) (S' := []) dm_X12_applied_93 rfl rfl rfl ?_
          refine me1 (pc' := 80) (L' := [(6, ii 3), (5, ii ((t.2.2.1 47) a)), (0, .ref 102), (1, ii (a : Int)), (2, ii A), (3, ii lz), (4, ii wz)]) (S' := [ii A]) dm_X12_applied_79 rfl rfl rfl rfl ?_
          refine me0 (pc' := 81) (S' := [ii 2, ii A]) dm_X12_applied_80 rfl rfl rfl rfl ?_
          refine me1 (pc' := 83) (L' := [(6, ii 3), (5, ii ((t.2.2.1 47) a)), (0, .ref 102), (1, ii (a : Int)), (2, ii A), (3, ii lz), (4, ii wz)]) (S' := [ii 3, ii 2, ii A]) dm_X12_applied_81 rfl rfl rfl rfl ?_
          refine y_imul (a := 2) (b := 3) dm_X12_applied_83 (pc' := 84) rfl ?_
          refine pg_st (S' := [ii 6, ii A]) (congrArg (fun z => ii z :: [ii A]) (by decide)) ?_
          refine me0 (pc' := 85) (S' := [ii 2, ii 6, ii A]) dm_X12_applied_84 rfl rfl rfl rfl ?_
          refine me0 (pc' := 86) (S' := [ii 8, ii A]) dm_X12_applied_85 rfl rfl rfl rfl ?_
          refine y_shr (a := A) (k := 8) dm_X12_applied_86 (pc' := 87) rfl (by omega) (by omega) (by decide) ?_
          refine y_1eq (a := A / 256) (t := 96) (pc' := 90) dm_X12_applied_87 rfl rfl (by omega) (fun hb5 => ?_) (fun hb5 => ?_)
          · refine me1 (pc' := 97) (L' := [(6, ii 3), (5, ii ((t.2.2.1 47) a)), (0, .ref 102), (1, ii (a : Int)), (2, ii A), (3, ii lz), (4, ii wz)]) (S' := [ii A]) dm_X12_applied_96 rfl rfl rfl rfl ?_
            refine me0 (pc' := 98) (S' := [ii 2, ii A]) dm_X12_applied_97 rfl rfl rfl rfl ?_
            refine me1 (pc' := 100) (L' := [(6, ii 3), (5, ii ((t.2.2.1 47) a)), (0, .ref 102), (1, ii (a : Int)), (2, ii A), (3, ii lz), (4, ii wz)]) (S' := [ii 3, ii 2, ii A]) dm_X12_applied_98 rfl rfl rfl rfl ?_
            refine y_imul (a := 2) (b := 3) dm_X12_applied_100 (pc' := 101) rfl ?_
            refine pg_st (S' := [ii 6, ii A]) (congrArg (fun z => ii z :: [ii A]) (by decide)) ?_
            refine y_shr (a := A) (k := 6) dm_X12_applied_101 (pc' := 102) rfl (by omega) (by omega) (by decide) ?_
            refine pg_st (S' := [ii cc]) (congrArg (fun z => ii z :: []) (by omega)) ?_
            refine me1 (pc' := 104) (L' := [(7, ii cc), (6, ii 3), (5, ii ((t.2.2.1 47) a)), (0, .ref 102), (1, ii (a : Int)), (2, ii A), (3, ii lz), (4, ii wz)]) (S' := []) dm_X12_applied_102 rfl rfl rfl rfl ?_
            refine me1 (pc' := 105) (L' := [(7, ii cc), (6, ii 3), (5, ii ((t.2.2.1 47) a)), (0, .ref 102), (1, ii (a : Int)), (2, ii A), (3, ii lz), (4, ii wz)]) (S' := [ii A]) dm_X12_applied_104 rfl rfl rfl rfl ?_
            refine me0 (pc' := 106) (S' := [ii 1, ii A]) dm_X12_applied_105 rfl rfl rfl rfl ?_
            refine me0 (pc' := 107) (S' := [ii 2, ii 1, ii A]) dm_X12_applied_106 rfl rfl rfl rfl ?_
            refine me1 (pc' := 109) (L' := [(7, ii cc), (6, ii 3), (5, ii ((t.2.2.1 47) a)), (0, .ref 102), (1, ii (a : Int)), (2, ii A), (3, ii lz), (4, ii wz)]) (S' := [ii 3, ii 2, ii 1, ii A]) dm_X12_applied_107 rfl rfl rfl rfl ?_
            refine y_imul (a := 2) (b := 3) dm_X12_applied_109 (pc' := 110) rfl ?_
            refine pg_st (S' := [ii 6, ii 1, ii A]) (congrArg (fun z => ii z :: [ii 1, ii A]) (by decide)) ?_
            refine y_shl (a := 1) (k := 6) dm_X12_applied_110 (pc' := 111) rfl (by decide) ?_
            refine me0 (pc' := 112) (S' := [ii 1, ii (1 * 64), ii A]) dm_X12_applied_111 rfl rfl rfl rfl ?_
            refine y_isub (a := 1 * 64) (b := 1) dm_X12_applied_112 (pc' := 113) rfl ?_
            refine y_andM (a := A) (k := 6) dm_X12_applied_113 (pc' := 114) rfl (by omega) (by omega) (by decide) (by decide) ?_
            refine pg_st (S' := [ii lo]) (congrArg (fun z => ii z :: []) (by omega)) ?_
            refine me1 (pc' := 116) (L' := [(8, ii lo), (7, ii cc), (6, ii 3), (5, ii ((t.2.2.1 47) a)), (0, .ref 102), (1, ii (a : Int)), (2, ii A), (3, ii lz), (4, ii wz)]) (S' := []) dm_X12_applied_114 rfl rfl rfl rfl ?_
            refine me1 (pc' := 117) (L' := [(8, ii lo), (7, ii cc), (6, ii 3), (5, ii ((t.2.2.1 47) a)), (0, .ref 102), (1, ii (a : Int)), (2, ii A), (3, ii lz), (4, ii wz)]) (S' := [.ref 102]) dm_X12_applied_116 rfl rfl rfl rfl ?_
            refine me0 (pc' := 118) (S' := [ii 3, .ref 102]) dm_X12_applied_117 rfl rfl rfl rfl ?_
            refine me1 (pc' := 120) (L' := [(8, ii lo), (7, ii cc), (6, ii 3), (5, ii ((t.2.2.1 47) a)), (0, .ref 102), (1, ii (a : Int)), (2, ii A), (3, ii lz), (4, ii wz)]) (S' := [ii ((t.2.2.1 47) a), ii 3, .ref 102]) dm_X12_applied_118 rfl rfl rfl rfl ?_
            refine x_cv (pc' := 123) (rest := []) dm_X12_applied_120 rfl (q_inv (As := [ii 3, ii ((t.2.2.1 47) a)]) (S := []) hm rfl rfl rfl) rfl rfl rfl (r_takes_ (s := t) (n := 3) hm (by omega) h5 hca.1 hca.2 h8.1 h8.2 (by omega)) ?_
            rintro _ _ ⟨rfl, rfl⟩
            refine y_zne (c := decide ((3 : Int) ≤ t.1 8)) (t := 128) (pc' := 126) dm_X12_applied_123 rfl rfl (fun hb6 => ?_) (fun hb6 => ?_)
            · replace hb6 := dT hb6
              refine pg_cast (h2 := rI pre post ((takeS t 3).1) ((takeS t 3).2.1) ((takeS t 3).2.2.1) ((takeS t 3).2.2.2)) (by rw [tkS_t (by omega)]) ?_
              refine me1 (pc' := 130) (L' := [(8, ii lo), (7, ii cc), (6, ii 3), (5, ii ((t.2.2.1 47) a)), (0, .ref 102), (1, ii (a : Int)), (2, ii A), (3, ii lz), (4, ii wz)]) (S' := [ii cc]) dm_X12_applied_128 rfl rfl rfl rfl ?_
              refine me0 (pc' := 131) (S' := [ii 3, ii cc]) dm_X12_applied_130 rfl rfl rfl rfl ?_
              refine y_2ne (a := cc) (b := 3) (t := 149) (pc' := 134) dm_X12_applied_131 rfl rfl (by omega) (fun hb7 => ?_) (fun hb7 => ?_)
              · refine me1 (pc' := 150) (L' := [(8, ii lo), (7, ii cc), (6, ii 3), (5, ii ((t.2.2.1 47) a)), (0, .ref 102), (1, ii (a : Int)), (2, ii A), (3, ii lz), (4, ii wz)]) (S' := [.ref 102]) dm_X12_applied_149 rfl rfl rfl rfl ?_
                refine me1 (pc' := 151) (L' := [(8, ii lo), (7, ii cc), (6, ii 3), (5, ii ((t.2.2.1 47) a)), (0, .ref 102), (1, ii (a : Int)), (2, ii A), (3, ii lz), (4, ii wz)]) (S' := [ii (a : Int), .ref 102]) dm_X12_applied_150 rfl rfl rfl rfl ?_
                refine me1 (pc' := 153) (L' := [(8, ii lo), (7, ii cc), (6, ii 3), (5, ii ((t.2.2.1 47) a)), (0, .ref 102), (1, ii (a : Int)), (2, ii A), (3, ii lz), (4, ii wz)]) (S' := [ii lo, ii (a : Int), .ref 102]) dm_X12_applied_151 rfl rfl rfl rfl ?_
                refine me1 (pc' := 154) (L' := [(8, ii lo), (7, ii cc), (6, ii 3), (5, ii ((t.2.2.1 47) a)), (0, .ref 102), (1, ii (a : Int)), (2, ii A), (3, ii lz), (4, ii wz)]) (S' := [ii lz, ii lo, ii (a : Int), .ref 102]) dm_X12_applied_153 rfl rfl rfl rfl ?_
                refine me1 (pc' := 156) (L' := [(8, ii lo), (7, ii cc), (6, ii 3), (5, ii ((t.2.2.1 47) a)), (0, .ref 102), (1, ii (a : Int)), (2, ii A), (3, ii lz), (4, ii wz)]) (S' := [ii wz, ii lz, ii lo, ii (a : Int), .ref 102]) dm_X12_applied_154 rfl rfl rfl rfl ?_
                refine me1 (pc' := 158) (L' := [(8, ii lo), (7, ii cc), (6, ii 3), (5, ii ((t.2.2.1 47) a)), (0, .ref 102), (1, ii (a : Int)), (2, ii A), (3, ii lz), (4, ii wz)]) (S' := [ii cc, ii wz, ii lz, ii lo, ii (a : Int), .ref 102]) dm_X12_applied_156 rfl rfl rfl rfl ?_
                refine me0 (pc' := 159) (S' := [ii 2, ii cc, ii wz, ii lz, ii lo, ii (a : Int), .ref 102]) dm_X12_applied_158 rfl rfl rfl rfl ?_
                refine y_2ne (a := cc) (b := 2) (t := 166) (pc' := 162) dm_X12_applied_159 rfl rfl (by omega) (fun hb8 => ?_) (fun hb8 => ?_)
                · exfalso; omega
                · refine me0 (pc' := 163) (S' := [ii 1, ii wz, ii lz, ii lo, ii (a : Int), .ref 102]) dm_X12_applied_162 rfl rfl rfl rfl ?_
                  refine me2 (pc' := 167) (S' := [ii 1, ii wz, ii lz, ii lo, ii (a : Int), .ref 102]) dm_X12_applied_163 rfl rfl rfl ?_
                  refine me1 (pc' := 169) (L' := [(8, ii lo), (7, ii cc), (6, ii 3), (5, ii ((t.2.2.1 47) a)), (0, .ref 102), (1, ii (a : Int)), (2, ii A), (3, ii lz), (4, ii wz)]) (S' := [ii ((t.2.2.1 47) a), ii 1, ii wz, ii lz, ii lo, ii (a : Int), .ref 102]) dm_X12_applied_167 rfl rfl rfl rfl ?_
                  refine x_cv (pc' := 172) (rest := []) dm_X12_applied_169 rfl (q_inv (As := [ii (a : Int), ii lo, ii lz, ii wz, ii 1, ii ((t.2.2.1 47) a)]) (S := []) hm rfl rfl rfl) rfl rfl rfl (hc) ?_
                  rintro x1 g1 f1
                  obtain ⟨t1, z1, rfl, rfl, hE1, hZ1, hQ1⟩ := f1
                  refine y_ret (r := some (ii z1)) dm_X12_applied_172 rfl rfl rfl ?_
                  exact ⟨_, rfl, _, _, rfl, rfl, hE1, hZ1, hQ1⟩
              · exfalso; omega
            · replace hb6 := dF hb6; exfalso; omega
          · exfalso; omega
  · exfalso; omega
abbrev HE (xt : mj_X) (d : Nat) (pre post : mj_H) (t : RS) (a wq n k : Nat) (rs lz p b : Int) (P : Option Value → mj_H → Prop) : Prop := pgE xt d 12 10 false (Option.some Jvm.ClassFile.FieldType.int) (mj_dec prog_14_method_110_code) 93 [(0, .ref 102), (1, ii (a : Int)), (2, ii rs), (3, ii lz), (4, ii (wq : Int)), (5, ii p), (7, ii ((n : Nat) : Int)), (8, ii b), (9, ii ((k : Nat) : Int))] [] (rI pre post t.1 t.2.1 t.2.2.1 t.2.2.2) (P)
set_option maxRecDepth 20000 in
theorem pm_X12_each : mj_mmof pg_ms 298 = some ((⟨"ArrayCalculatorModel", "each", "(IIIII)I"⟩, prog_14_method_110_code, 10, (Option.some Jvm.ClassFile.FieldType.int)), 12, false, mj_dec prog_14_method_110_code) := rfl
theorem dm_X12_each_0 : mj_dec prog_14_method_110_code 0 = some (.iload_n 3, 1) := by decide +kernel
theorem dm_X12_each_1 : mj_dec prog_14_method_110_code 1 = some (.ifCond .lt 24, 3) := by decide +kernel
theorem dm_X12_each_25 : mj_dec prog_14_method_110_code 25 = some (.iconst 0, 1) := by decide +kernel
theorem dm_X12_each_26 : mj_dec prog_14_method_110_code 26 = some (.istore 6, 2) := by decide +kernel
theorem dm_X12_each_28 : mj_dec prog_14_method_110_code 28 = some (.iload 6, 2) := by decide +kernel
theorem dm_X12_each_30 : mj_dec prog_14_method_110_code 30 = some (.ifCond .eq 25, 3) := by decide +kernel
theorem dm_X12_each_55 : mj_dec prog_14_method_110_code 55 = some (.iload_n 3, 1) := by decide +kernel
theorem dm_X12_each_56 : mj_dec prog_14_method_110_code 56 = some (.ifCond .lt 20, 3) := by decide +kernel
theorem dm_X12_each_76 : mj_dec prog_14_method_110_code 76 = some (.aload_n 0, 1) := by decide +kernel
theorem dm_X12_each_77 : mj_dec prog_14_method_110_code 77 = some (.iload 4, 2) := by decide +kernel
theorem dm_X12_each_79 : mj_dec prog_14_method_110_code 79 = some (.invokevirtual 134, 3) := by decide +kernel
theorem dm_X12_each_82 : mj_dec prog_14_method_110_code 82 = some (.istore 7, 2) := by decide +kernel
theorem dm_X12_each_84 : mj_dec prog_14_method_110_code 84 = some (.aload_n 0, 1) := by decide +kernel
theorem dm_X12_each_85 : mj_dec prog_14_method_110_code 85 = some (.getfield 202, 3) := by decide +kernel
theorem dm_X12_each_88 : mj_dec prog_14_method_110_code 88 = some (.istore 8, 2) := by decide +kernel
theorem dm_X12_each_90 : mj_dec prog_14_method_110_code 90 = some (.iconst 0, 1) := by decide +kernel
theorem dm_X12_each_91 : mj_dec prog_14_method_110_code 91 = some (.istore 9, 2) := by decide +kernel
theorem e_start1 {xt : mj_X} {d : Nat} {pre post : mj_H} {t : RS} (hm : pre.length = 102) (hd1 : 1 ≤ d) {a wq : Nat} {rs p : Int} {w : VV} {Q : RS → Int → Prop} (hd2 : 3 ≤ d) (hB : rB t) (hvw : rv t 7 wq w) (hmw : vm w ≤ 120 ∧ vk w ≤ 7) (hLw : wq < 310000) (k : HE xt (d - 1) pre post t a wq (vm w) 0 rs (-1) p (t.1 13) (fun r h' => ∃ x, r = some x ∧ RA pre post Q x h')) : pgV xt d 298 [.ref 102, ii (a : Int), ii rs, ii (-1), ii (wq : Int), ii p] (rS pre post t) (RA pre post Q) := by
  refine x_enter pm_X12_each (L0 := [(0, .ref 102), (1, ii (a : Int)), (2, ii rs), (3, ii (-1)), (4, ii (wq : Int)), (5, ii p)]) rfl (Nat.le_of_ble_eq_true rfl) (by omega) ?_
  refine me1 (pc' := 1) (L' := [(0, .ref 102), (1, ii (a : Int)), (2, ii rs), (3, ii (-1)), (4, ii (wq : Int)), (5, ii p)]) (S' := [ii (-1)]) dm_X12_each_0 rfl rfl rfl rfl ?_
  refine me_1t (pc' := 25) dm_X12_each_1 rfl (by decide) ?_
  refine me0 (pc' := 26) (S' := [ii 0]) dm_X12_each_25 rfl rfl rfl rfl ?_
  refine me1 (pc' := 28) (L' := [(6, ii 0), (0, .ref 102), (1, ii (a : Int)), (2, ii rs), (3, ii (-1)), (4, ii (wq : Int)), (5, ii p)]) (S' := []) dm_X12_each_26 rfl rfl rfl rfl ?_
  refine me1 (pc' := 30) (L' := [(6, ii 0), (0, .ref 102), (1, ii (a : Int)), (2, ii rs), (3, ii (-1)), (4, ii (wq : Int)), (5, ii p)]) (S' := [ii 0]) dm_X12_each_28 rfl rfl rfl rfl ?_
  refine me_1t (pc' := 55) dm_X12_each_30 rfl (by decide) ?_
  refine me1 (pc' := 56) (L' := [(6, ii 0), (0, .ref 102), (1, ii (a : Int)), (2, ii rs), (3, ii (-1)), (4, ii (wq : Int)), (5, ii p)]) (S' := [ii (-1)]) dm_X12_each_55 rfl rfl rfl rfl ?_
  refine me_1t (pc' := 76) dm_X12_each_56 rfl (by decide) ?_
  refine me1 (pc' := 77) (L' := [(6, ii 0), (0, .ref 102), (1, ii (a : Int)), (2, ii rs), (3, ii (-1)), (4, ii (wq : Int)), (5, ii p)]) (S' := [.ref 102]) dm_X12_each_76 rfl rfl rfl rfl ?_
  refine me1 (pc' := 79) (L' := [(6, ii 0), (0, .ref 102), (1, ii (a : Int)), (2, ii rs), (3, ii (-1)), (4, ii (wq : Int)), (5, ii p)]) (S' := [ii (wq : Int), .ref 102]) dm_X12_each_77 rfl rfl rfl rfl ?_
  refine x_cp (pc' := 82) (v := ii (vm w : Int)) (rest := []) dm_X12_each_79 rfl (q_inv (As := [ii (wq : Int)]) (S := []) hm rfl rfl rfl) rfl rfl rfl (r_manyL (e := 6) hm (by omega) hLw hvw) ?_
  refine me1 (pc' := 84) (L' := [(7, ii (vm w : Int)), (6, ii 0), (0, .ref 102), (1, ii (a : Int)), (2, ii rs), (3, ii (-1)), (4, ii (wq : Int)), (5, ii p)]) (S' := []) dm_X12_each_82 rfl rfl rfl rfl ?_
  refine me1 (pc' := 85) (L' := [(7, ii (vm w : Int)), (6, ii 0), (0, .ref 102), (1, ii (a : Int)), (2, ii rs), (3, ii (-1)), (4, ii (wq : Int)), (5, ii p)]) (S' := [.ref 102]) dm_X12_each_84 rfl rfl rfl rfl ?_
  refine me3 (pc' := 88) (S' := [ii (t.1 13)]) dm_X12_each_85 (q_geti (v := t.1 13) hm rfl (fun m i l => rg_13 m i l) rfl) rfl rfl rfl ?_
  refine me1 (pc' := 90) (L' := [(8, ii (t.1 13)), (7, ii (vm w : Int)), (6, ii 0), (0, .ref 102), (1, ii (a : Int)), (2, ii rs), (3, ii (-1)), (4, ii (wq : Int)), (5, ii p)]) (S' := []) dm_X12_each_88 rfl rfl rfl rfl ?_
  refine me0 (pc' := 91) (S' := [ii 0]) dm_X12_each_90 rfl rfl rfl rfl ?_
  refine me1 (pc' := 93) (L' := [(9, ii 0), (8, ii (t.1 13)), (7, ii (vm w : Int)), (6, ii 0), (0, .ref 102), (1, ii (a : Int)), (2, ii rs), (3, ii (-1)), (4, ii (wq : Int)), (5, ii p)]) (S' := []) dm_X12_each_91 rfl rfl rfl rfl ?_
  exact pg_sub (L := [(0, .ref 102), (1, ii (a : Int)), (2, ii rs), (3, ii (-1)), (4, ii (wq : Int)), (5, ii p), (7, ii ((vm w : Nat) : Int)), (8, ii (t.1 13)), (9, ii ((0 : Nat) : Int))]) rfl rfl rfl (k)
theorem dm_X12_each_4 : mj_dec prog_14_method_110_code 4 = some (.aload_n 0, 1) := by decide +kernel
theorem dm_X12_each_5 : mj_dec prog_14_method_110_code 5 = some (.iload_n 3, 1) := by decide +kernel
theorem dm_X12_each_6 : mj_dec prog_14_method_110_code 6 = some (.invokevirtual 162, 3) := by decide +kernel
theorem dm_X12_each_9 : mj_dec prog_14_method_110_code 9 = some (.ifCond .ne 16, 3) := by decide +kernel
theorem dm_X12_each_12 : mj_dec prog_14_method_110_code 12 = some (.aload_n 0, 1) := by decide +kernel
theorem dm_X12_each_13 : mj_dec prog_14_method_110_code 13 = some (.iload 4, 2) := by decide +kernel
theorem dm_X12_each_15 : mj_dec prog_14_method_110_code 15 = some (.invokevirtual 162, 3) := by decide +kernel
theorem dm_X12_each_18 : mj_dec prog_14_method_110_code 18 = some (.ifCond .ne 7, 3) := by decide +kernel
theorem dm_X12_each_21 : mj_dec prog_14_method_110_code 21 = some (.iconst 1, 1) := by decide +kernel
theorem dm_X12_each_22 : mj_dec prog_14_method_110_code 22 = some (.goto 4, 3) := by decide +kernel
theorem dm_X12_each_33 : mj_dec prog_14_method_110_code 33 = some (.aload_n 0, 1) := by decide +kernel
theorem dm_X12_each_34 : mj_dec prog_14_method_110_code 34 = some (.iload_n 3, 1) := by decide +kernel
theorem dm_X12_each_35 : mj_dec prog_14_method_110_code 35 = some (.invokevirtual 134, 3) := by decide +kernel
theorem dm_X12_each_38 : mj_dec prog_14_method_110_code 38 = some (.aload_n 0, 1) := by decide +kernel
theorem dm_X12_each_39 : mj_dec prog_14_method_110_code 39 = some (.iload 4, 2) := by decide +kernel
theorem dm_X12_each_41 : mj_dec prog_14_method_110_code 41 = some (.invokevirtual 134, 3) := by decide +kernel
theorem dm_X12_each_44 : mj_dec prog_14_method_110_code 44 = some (.if_icmp .eq 11, 3) := by decide +kernel
theorem dm_X12_each_47 : mj_dec prog_14_method_110_code 47 = some (.aload_n 0, 1) := by decide +kernel
theorem dm_X12_each_48 : mj_dec prog_14_method_110_code 48 = some (.iconst 4, 1) := by decide +kernel
theorem dm_X12_each_49 : mj_dec prog_14_method_110_code 49 = some (.iload 5, 2) := by decide +kernel
theorem dm_X12_each_51 : mj_dec prog_14_method_110_code 51 = some (.invokevirtual 190, 3) := by decide +kernel
theorem dm_X12_each_54 : mj_dec prog_14_method_110_code 54 = some (.ireturn, 1) := by decide +kernel
theorem e_er4 {xt : mj_X} {d : Nat} {pre post : mj_H} {t : RS} (hm : pre.length = 102) (hd1 : 1 ≤ d) {a wq : Nat} {rs p : Int} {w : VV} {Q : RS → Int → Prop} (hd2 : 3 ≤ d) (hB : rB t) (hvw : rv t 7 wq w) (hmw : vm w ≤ 120 ∧ vk w ≤ 7) (hLw : wq < 310000) {lq : Nat} {l : VV} (hLl : lq < 310000) (hvl : rv t 7 lq l) (hml : vm l ≤ 120 ∧ vk l ≤ 7) (h5 : t.1 5 = 0) (hca : 0 ≤ t.1 10 ∧ t.1 10 ≤ 100) (hne : ¬ vk l ≤ 1 ∧ ¬ vk w ≤ 1 ∧ vm l ≠ vm w) (k : Q (failS t 4 p) (-1)) : pgV xt d 298 [.ref 102, ii (a : Int), ii rs, ii (lq : Int), ii (wq : Int), ii p] (rS pre post t) (RA pre post Q) := by
  refine x_enter pm_X12_each (L0 := [(0, .ref 102), (1, ii (a : Int)), (2, ii rs), (3, ii (lq : Int)), (4, ii (wq : Int)), (5, ii p)]) rfl (Nat.le_of_ble_eq_true rfl) (by omega) ?_
  refine me1 (pc' := 1) (L' := [(0, .ref 102), (1, ii (a : Int)), (2, ii rs), (3, ii (lq : Int)), (4, ii (wq : Int)), (5, ii p)]) (S' := [ii (lq : Int)]) dm_X12_each_0 rfl rfl rfl rfl ?_
  refine y_1lt (a := (lq : Int)) (t := 25) (pc' := 4) dm_X12_each_1 rfl rfl (by omega) (fun hb1 => ?_) (fun hb1 => ?_)
  · exfalso; omega
  · refine me1 (pc' := 5) (L' := [(0, .ref 102), (1, ii (a : Int)), (2, ii rs), (3, ii (lq : Int)), (4, ii (wq : Int)), (5, ii p)]) (S' := [.ref 102]) dm_X12_each_4 rfl rfl rfl rfl ?_
    refine me1 (pc' := 6) (L' := [(0, .ref 102), (1, ii (a : Int)), (2, ii rs), (3, ii (lq : Int)), (4, ii (wq : Int)), (5, ii p)]) (S' := [ii (lq : Int), .ref 102]) dm_X12_each_5 rfl rfl rfl rfl ?_
    refine x_cp (pc' := 9) (v := zz (decide (vk l ≤ 1))) (rest := []) dm_X12_each_6 rfl (q_inv (As := [ii (lq : Int)]) (S := []) hm rfl rfl rfl) rfl rfl rfl (r_isOne_ (e := 6) hm (by omega) hB hvl) ?_
    refine y_zne (c := decide (vk l ≤ 1)) (t := 25) (pc' := 12) dm_X12_each_9 rfl rfl (fun hb2 => ?_) (fun hb2 => ?_)
    · replace hb2 := dT hb2; exfalso; omega
    · replace hb2 := dF hb2
      refine me1 (pc' := 13) (L' := [(0, .ref 102), (1, ii (a : Int)), (2, ii rs), (3, ii (lq : Int)), (4, ii (wq : Int)), (5, ii p)]) (S' := [.ref 102]) dm_X12_each_12 rfl rfl rfl rfl ?_
      refine me1 (pc' := 15) (L' := [(0, .ref 102), (1, ii (a : Int)), (2, ii rs), (3, ii (lq : Int)), (4, ii (wq : Int)), (5, ii p)]) (S' := [ii (wq : Int), .ref 102]) dm_X12_each_13 rfl rfl rfl rfl ?_
      refine x_cp (pc' := 18) (v := zz (decide (vk w ≤ 1))) (rest := []) dm_X12_each_15 rfl (q_inv (As := [ii (wq : Int)]) (S := []) hm rfl rfl rfl) rfl rfl rfl (r_isOne_ (e := 6) hm (by omega) hB hvw) ?_
      refine y_zne (c := decide (vk w ≤ 1)) (t := 25) (pc' := 21) dm_X12_each_18 rfl rfl (fun hb3 => ?_) (fun hb3 => ?_)
      · replace hb3 := dT hb3; exfalso; omega
      · replace hb3 := dF hb3
        refine me0 (pc' := 22) (S' := [ii 1]) dm_X12_each_21 rfl rfl rfl rfl ?_
        refine me2 (pc' := 26) (S' := [ii 1]) dm_X12_each_22 rfl rfl rfl ?_
        refine me1 (pc' := 28) (L' := [(6, ii 1), (0, .ref 102), (1, ii (a : Int)), (2, ii rs), (3, ii (lq : Int)), (4, ii (wq : Int)), (5, ii p)]) (S' := []) dm_X12_each_26 rfl rfl rfl rfl ?_
        refine me1 (pc' := 30) (L' := [(6, ii 1), (0, .ref 102), (1, ii (a : Int)), (2, ii rs), (3, ii (lq : Int)), (4, ii (wq : Int)), (5, ii p)]) (S' := [ii 1]) dm_X12_each_28 rfl rfl rfl rfl ?_
        refine me_1f (pc' := 33) dm_X12_each_30 rfl (by decide) rfl ?_
        refine me1 (pc' := 34) (L' := [(6, ii 1), (0, .ref 102), (1, ii (a : Int)), (2, ii rs), (3, ii (lq : Int)), (4, ii (wq : Int)), (5, ii p)]) (S' := [.ref 102]) dm_X12_each_33 rfl rfl rfl rfl ?_
        refine me1 (pc' := 35) (L' := [(6, ii 1), (0, .ref 102), (1, ii (a : Int)), (2, ii rs), (3, ii (lq : Int)), (4, ii (wq : Int)), (5, ii p)]) (S' := [ii (lq : Int), .ref 102]) dm_X12_each_34 rfl rfl rfl rfl ?_
        refine x_cp (pc' := 38) (v := ii (vm l : Int)) (rest := []) dm_X12_each_35 rfl (q_inv (As := [ii (lq : Int)]) (S := []) hm rfl rfl rfl) rfl rfl rfl (r_manyL (e := 6) hm (by omega) hLl hvl) ?_
        refine me1 (pc' := 39) (L' := [(6, ii 1), (0, .ref 102), (1, ii (a : Int)), (2, ii rs), (3, ii (lq : Int)), (4, ii (wq : Int)), (5, ii p)]) (S' := [.ref 102, ii (vm l : Int)]) dm_X12_each_38 rfl rfl rfl rfl ?_
        refine me1 (pc' := 41) (L' := [(6, ii 1), (0, .ref 102), (1, ii (a : Int)), (2, ii rs), (3, ii (lq : Int)), (4, ii (wq : Int)), (5, ii p)]) (S' := [ii (wq : Int), .ref 102, ii (vm l : Int)]) dm_X12_each_39 rfl rfl rfl rfl ?_
        refine x_cp (pc' := 44) (v := ii (vm w : Int)) (rest := [ii (vm l : Int)]) dm_X12_each_41 rfl (q_inv (As := [ii (wq : Int)]) (S := [ii (vm l : Int)]) hm rfl rfl rfl) rfl rfl rfl (r_manyL (e := 6) hm (by omega) hLw hvw) ?_
        refine y_2eq (a := (vm l : Int)) (b := (vm w : Int)) (t := 55) (pc' := 47) dm_X12_each_44 rfl rfl (by omega) (fun hb4 => ?_) (fun hb4 => ?_)
        · exfalso; omega
        · refine me1 (pc' := 48) (L' := [(6, ii 1), (0, .ref 102), (1, ii (a : Int)), (2, ii rs), (3, ii (lq : Int)), (4, ii (wq : Int)), (5, ii p)]) (S' := [.ref 102]) dm_X12_each_47 rfl rfl rfl rfl ?_
          refine me0 (pc' := 49) (S' := [ii 4, .ref 102]) dm_X12_each_48 rfl rfl rfl rfl ?_
          refine me1 (pc' := 51) (L' := [(6, ii 1), (0, .ref 102), (1, ii (a : Int)), (2, ii rs), (3, ii (lq : Int)), (4, ii (wq : Int)), (5, ii p)]) (S' := [ii p, ii 4, .ref 102]) dm_X12_each_49 rfl rfl rfl rfl ?_
          refine x_cv (pc' := 54) (rest := []) dm_X12_each_51 rfl (q_inv (As := [ii 4, ii p]) (S := []) hm rfl rfl rfl) rfl rfl rfl (r_fail_ (s := t) hm (by omega) h5 hca.1 hca.2) ?_
          rintro _ _ ⟨rfl, rfl⟩
          refine y_ret (r := some (ii (-1))) dm_X12_each_54 rfl rfl rfl ?_
          exact ⟨_, rfl, _, _, rfl, rfl, by rw [failS_5]; decide, by omega, k⟩
theorem dm_X12_each_59 : mj_dec prog_14_method_110_code 59 = some (.aload_n 0, 1) := by decide +kernel
theorem dm_X12_each_60 : mj_dec prog_14_method_110_code 60 = some (.iload 4, 2) := by decide +kernel
theorem dm_X12_each_62 : mj_dec prog_14_method_110_code 62 = some (.invokevirtual 162, 3) := by decide +kernel
theorem dm_X12_each_65 : mj_dec prog_14_method_110_code 65 = some (.ifCond .eq 11, 3) := by decide +kernel
theorem dm_X12_each_68 : mj_dec prog_14_method_110_code 68 = some (.aload_n 0, 1) := by decide +kernel
theorem dm_X12_each_69 : mj_dec prog_14_method_110_code 69 = some (.iload_n 3, 1) := by decide +kernel
theorem dm_X12_each_70 : mj_dec prog_14_method_110_code 70 = some (.invokevirtual 134, 3) := by decide +kernel
theorem dm_X12_each_73 : mj_dec prog_14_method_110_code 73 = some (.goto 9, 3) := by decide +kernel
theorem e_start2 {xt : mj_X} {d : Nat} {pre post : mj_H} {t : RS} (hm : pre.length = 102) (hd1 : 1 ≤ d) {a wq : Nat} {rs p : Int} {w : VV} {Q : RS → Int → Prop} (hd2 : 3 ≤ d) (hB : rB t) (hvw : rv t 7 wq w) (hmw : vm w ≤ 120 ∧ vk w ≤ 7) (hLw : wq < 310000) {lq : Nat} {l : VV} (hLl : lq < 310000) (hvl : rv t 7 lq l) (hml : vm l ≤ 120 ∧ vk l ≤ 7) (hne : ¬ (¬ vk l ≤ 1 ∧ ¬ vk w ≤ 1 ∧ vm l ≠ vm w)) (k : HE xt (d - 1) pre post t a wq (if vk w ≤ 1 then vm l else vm w) 0 rs (lq : Int) p (t.1 13) (fun r h' => ∃ x, r = some x ∧ RA pre post Q x h')) : pgV xt d 298 [.ref 102, ii (a : Int), ii rs, ii (lq : Int), ii (wq : Int), ii p] (rS pre post t) (RA pre post Q) := by
  refine x_enter pm_X12_each (L0 := [(0, .ref 102), (1, ii (a : Int)), (2, ii rs), (3, ii (lq : Int)), (4, ii (wq : Int)), (5, ii p)]) rfl (Nat.le_of_ble_eq_true rfl) (by omega) ?_
  refine me1 (pc' := 1) (L' := [(0, .ref 102), (1, ii (a : Int)), (2, ii rs), (3, ii (lq : Int)), (4, ii (wq : Int)), (5, ii p)]) (S' := [ii (lq : Int)]) dm_X12_each_0 rfl rfl rfl rfl ?_
  refine y_1lt (a := (lq : Int)) (t := 25) (pc' := 4) dm_X12_each_1 rfl rfl (by omega) (fun hb1 => ?_) (fun hb1 => ?_)
  · exfalso; omega
  · refine me1 (pc' := 5) (L' := [(0, .ref 102), (1, ii (a : Int)), (2, ii rs), (3, ii (lq : Int)), (4, ii (wq : Int)), (5, ii p)]) (S' := [.ref 102]) dm_X12_each_4 rfl rfl rfl rfl ?_
    refine me1 (pc' := 6) (L' := [(0, .ref 102), (1, ii (a : Int)), (2, ii rs), (3, ii (lq : Int)), (4, ii (wq : Int)), (5, ii p)]) (S' := [ii (lq : Int), .ref 102]) dm_X12_each_5 rfl rfl rfl rfl ?_
    refine x_cp (pc' := 9) (v := zz (decide (vk l ≤ 1))) (rest := []) dm_X12_each_6 rfl (q_inv (As := [ii (lq : Int)]) (S := []) hm rfl rfl rfl) rfl rfl rfl (r_isOne_ (e := 6) hm (by omega) hB hvl) ?_
    refine y_zne (c := decide (vk l ≤ 1)) (t := 25) (pc' := 12) dm_X12_each_9 rfl rfl (fun hb2 => ?_) (fun hb2 => ?_)
    · replace hb2 := dT hb2
      refine me0 (pc' := 26) (S' := [ii 0]) dm_X12_each_25 rfl rfl rfl rfl ?_
      refine me1 (pc' := 28) (L' := [(6, ii 0), (0, .ref 102), (1, ii (a : Int)), (2, ii rs), (3, ii (lq : Int)), (4, ii (wq : Int)), (5, ii p)]) (S' := []) dm_X12_each_26 rfl rfl rfl rfl ?_
      refine me1 (pc' := 30) (L' := [(6, ii 0), (0, .ref 102), (1, ii (a : Int)), (2, ii rs), (3, ii (lq : Int)), (4, ii (wq : Int)), (5, ii p)]) (S' := [ii 0]) dm_X12_each_28 rfl rfl rfl rfl ?_
      refine me_1t (pc' := 55) dm_X12_each_30 rfl (by decide) ?_
      refine me1 (pc' := 56) (L' := [(6, ii 0), (0, .ref 102), (1, ii (a : Int)), (2, ii rs), (3, ii (lq : Int)), (4, ii (wq : Int)), (5, ii p)]) (S' := [ii (lq : Int)]) dm_X12_each_55 rfl rfl rfl rfl ?_
      refine y_1lt (a := (lq : Int)) (t := 76) (pc' := 59) dm_X12_each_56 rfl rfl (by omega) (fun hb3 => ?_) (fun hb3 => ?_)
      · exfalso; omega
      · refine me1 (pc' := 60) (L' := [(6, ii 0), (0, .ref 102), (1, ii (a : Int)), (2, ii rs), (3, ii (lq : Int)), (4, ii (wq : Int)), (5, ii p)]) (S' := [.ref 102]) dm_X12_each_59 rfl rfl rfl rfl ?_
        refine me1 (pc' := 62) (L' := [(6, ii 0), (0, .ref 102), (1, ii (a : Int)), (2, ii rs), (3, ii (lq : Int)), (4, ii (wq : Int)), (5, ii p)]) (S' := [ii (wq : Int), .ref 102]) dm_X12_each_60 rfl rfl rfl rfl ?_
        refine x_cp (pc' := 65) (v := zz (decide (vk w ≤ 1))) (rest := []) dm_X12_each_62 rfl (q_inv (As := [ii (wq : Int)]) (S := []) hm rfl rfl rfl) rfl rfl rfl (r_isOne_ (e := 6) hm (by omega) hB hvw) ?_
        refine y_zeq (c := decide (vk w ≤ 1)) (t := 76) (pc' := 68) dm_X12_each_65 rfl rfl (fun hb4 => ?_) (fun hb4 => ?_)
        · replace hb4 := dF hb4
          refine me1 (pc' := 77) (L' := [(6, ii 0), (0, .ref 102), (1, ii (a : Int)), (2, ii rs), (3, ii (lq : Int)), (4, ii (wq : Int)), (5, ii p)]) (S' := [.ref 102]) dm_X12_each_76 rfl rfl rfl rfl ?_
          refine me1 (pc' := 79) (L' := [(6, ii 0), (0, .ref 102), (1, ii (a : Int)), (2, ii rs), (3, ii (lq : Int)), (4, ii (wq : Int)), (5, ii p)]) (S' := [ii (wq : Int), .ref 102]) dm_X12_each_77 rfl rfl rfl rfl ?_
          refine x_cp (pc' := 82) (v := ii (vm w : Int)) (rest := []) dm_X12_each_79 rfl (q_inv (As := [ii (wq : Int)]) (S := []) hm rfl rfl rfl) rfl rfl rfl (r_manyL (e := 6) hm (by omega) hLw hvw) ?_
          refine pg_st (S' := [ii ((if vk w ≤ 1 then vm l else vm w : Nat) : Int)]) (congrArg (fun z => ii z :: []) (by first | (exfalso; omega) | rw [if_pos (by omega)] | rw [if_neg (by omega)])) ?_
          refine me1 (pc' := 84) (L' := [(7, ii ((if vk w ≤ 1 then vm l else vm w : Nat) : Int)), (6, ii 0), (0, .ref 102), (1, ii (a : Int)), (2, ii rs), (3, ii (lq : Int)), (4, ii (wq : Int)), (5, ii p)]) (S' := []) dm_X12_each_82 rfl rfl rfl rfl ?_
          refine me1 (pc' := 85) (L' := [(7, ii ((if vk w ≤ 1 then vm l else vm w : Nat) : Int)), (6, ii 0), (0, .ref 102), (1, ii (a : Int)), (2, ii rs), (3, ii (lq : Int)), (4, ii (wq : Int)), (5, ii p)]) (S' := [.ref 102]) dm_X12_each_84 rfl rfl rfl rfl ?_
          refine me3 (pc' := 88) (S' := [ii (t.1 13)]) dm_X12_each_85 (q_geti (v := t.1 13) hm rfl (fun m i l => rg_13 m i l) rfl) rfl rfl rfl ?_
          refine me1 (pc' := 90) (L' := [(8, ii (t.1 13)), (7, ii ((if vk w ≤ 1 then vm l else vm w : Nat) : Int)), (6, ii 0), (0, .ref 102), (1, ii (a : Int)), (2, ii rs), (3, ii (lq : Int)), (4, ii (wq : Int)), (5, ii p)]) (S' := []) dm_X12_each_88 rfl rfl rfl rfl ?_
          refine me0 (pc' := 91) (S' := [ii 0]) dm_X12_each_90 rfl rfl rfl rfl ?_
          refine me1 (pc' := 93) (L' := [(9, ii 0), (8, ii (t.1 13)), (7, ii ((if vk w ≤ 1 then vm l else vm w : Nat) : Int)), (6, ii 0), (0, .ref 102), (1, ii (a : Int)), (2, ii rs), (3, ii (lq : Int)), (4, ii (wq : Int)), (5, ii p)]) (S' := []) dm_X12_each_91 rfl rfl rfl rfl ?_
          exact pg_sub (L := [(0, .ref 102), (1, ii (a : Int)), (2, ii rs), (3, ii (lq : Int)), (4, ii (wq : Int)), (5, ii p), (7, ii ((if vk w ≤ 1 then vm l else vm w : Nat) : Int)), (8, ii (t.1 13)), (9, ii ((0 : Nat) : Int))]) rfl rfl rfl (k)
        · replace hb4 := dT hb4
          refine me1 (pc' := 69) (L' := [(6, ii 0), (0, .ref 102), (1, ii (a : Int)), (2, ii rs), (3, ii (lq : Int)), (4, ii (wq : Int)), (5, ii p)]) (S' := [.ref 102]) dm_X12_each_68 rfl rfl rfl rfl ?_
          refine me1 (pc' := 70) (L' := [(6, ii 0), (0, .ref 102), (1, ii (a : Int)), (2, ii rs), (3, ii (lq : Int)), (4, ii (wq : Int)), (5, ii p)]) (S' := [ii (lq : Int), .ref 102]) dm_X12_each_69 rfl rfl rfl rfl ?_
          refine x_cp (pc' := 73) (v := ii (vm l : Int)) (rest := []) dm_X12_each_70 rfl (q_inv (As := [ii (lq : Int)]) (S := []) hm rfl rfl rfl) rfl rfl rfl (r_manyL (e := 6) hm (by omega) hLl hvl) ?_
          refine me2 (pc' := 82) (S' := [ii (vm l : Int)]) dm_X12_each_73 rfl rfl rfl ?_
          refine pg_st (S' := [ii ((if vk w ≤ 1 then vm l else vm w : Nat) : Int)]) (congrArg (fun z => ii z :: []) (by first | (exfalso; omega) | rw [if_pos (by omega)] | rw [if_neg (by omega)])) ?_
          refine me1 (pc' := 84) (L' := [(7, ii ((if vk w ≤ 1 then vm l else vm w : Nat) : Int)), (6, ii 0), (0, .ref 102), (1, ii (a : Int)), (2, ii rs), (3, ii (lq : Int)), (4, ii (wq : Int)), (5, ii p)]) (S' := []) dm_X12_each_82 rfl rfl rfl rfl ?_
          refine me1 (pc' := 85) (L' := [(7, ii ((if vk w ≤ 1 then vm l else vm w : Nat) : Int)), (6, ii 0), (0, .ref 102), (1, ii (a : Int)), (2, ii rs), (3, ii (lq : Int)), (4, ii (wq : Int)), (5, ii p)]) (S' := [.ref 102]) dm_X12_each_84 rfl rfl rfl rfl ?_
          refine me3 (pc' := 88) (S' := [ii (t.1 13)]) dm_X12_each_85 (q_geti (v := t.1 13) hm rfl (fun m i l => rg_13 m i l) rfl) rfl rfl rfl ?_
          refine me1 (pc' := 90) (L' := [(8, ii (t.1 13)), (7, ii ((if vk w ≤ 1 then vm l else vm w : Nat) : Int)), (6, ii 0), (0, .ref 102), (1, ii (a : Int)), (2, ii rs), (3, ii (lq : Int)), (4, ii (wq : Int)), (5, ii p)]) (S' := []) dm_X12_each_88 rfl rfl rfl rfl ?_
          refine me0 (pc' := 91) (S' := [ii 0]) dm_X12_each_90 rfl rfl rfl rfl ?_
          refine me1 (pc' := 93) (L' := [(9, ii 0), (8, ii (t.1 13)), (7, ii ((if vk w ≤ 1 then vm l else vm w : Nat) : Int)), (6, ii 0), (0, .ref 102), (1, ii (a : Int)), (2, ii rs), (3, ii (lq : Int)), (4, ii (wq : Int)), (5, ii p)]) (S' := []) dm_X12_each_91 rfl rfl rfl rfl ?_
          exact pg_sub (L := [(0, .ref 102), (1, ii (a : Int)), (2, ii rs), (3, ii (lq : Int)), (4, ii (wq : Int)), (5, ii p), (7, ii ((if vk w ≤ 1 then vm l else vm w : Nat) : Int)), (8, ii (t.1 13)), (9, ii ((0 : Nat) : Int))]) rfl rfl rfl (k)
    · replace hb2 := dF hb2
      refine me1 (pc' := 13) (L' := [(0, .ref 102), (1, ii (a : Int)), (2, ii rs), (3, ii (lq : Int)), (4, ii (wq : Int)), (5, ii p)]) (S' := [.ref 102]) dm_X12_each_12 rfl rfl rfl rfl ?_
      refine me1 (pc' := 15) (L' := [(0, .ref 102), (1, ii (a : Int)), (2, ii rs), (3, ii (lq : Int)), (4, ii (wq : Int)), (5, ii p)]) (S' := [ii (wq : Int), .ref 102]) dm_X12_each_13 rfl rfl rfl rfl ?_
      refine x_cp (pc' := 18) (v := zz (decide (vk w ≤ 1))) (rest := []) dm_X12_each_15 rfl (q_inv (As := [ii (wq : Int)]) (S := []) hm rfl rfl rfl) rfl rfl rfl (r_isOne_ (e := 6) hm (by omega) hB hvw) ?_
      refine y_zne (c := decide (vk w ≤ 1)) (t := 25) (pc' := 21) dm_X12_each_18 rfl rfl (fun hb5 => ?_) (fun hb5 => ?_)
      · replace hb5 := dT hb5
        refine me0 (pc' := 26) (S' := [ii 0]) dm_X12_each_25 rfl rfl rfl rfl ?_
        refine me1 (pc' := 28) (L' := [(6, ii 0), (0, .ref 102), (1, ii (a : Int)), (2, ii rs), (3, ii (lq : Int)), (4, ii (wq : Int)), (5, ii p)]) (S' := []) dm_X12_each_26 rfl rfl rfl rfl ?_
        refine me1 (pc' := 30) (L' := [(6, ii 0), (0, .ref 102), (1, ii (a : Int)), (2, ii rs), (3, ii (lq : Int)), (4, ii (wq : Int)), (5, ii p)]) (S' := [ii 0]) dm_X12_each_28 rfl rfl rfl rfl ?_
        refine me_1t (pc' := 55) dm_X12_each_30 rfl (by decide) ?_
        refine me1 (pc' := 56) (L' := [(6, ii 0), (0, .ref 102), (1, ii (a : Int)), (2, ii rs), (3, ii (lq : Int)), (4, ii (wq : Int)), (5, ii p)]) (S' := [ii (lq : Int)]) dm_X12_each_55 rfl rfl rfl rfl ?_
        refine y_1lt (a := (lq : Int)) (t := 76) (pc' := 59) dm_X12_each_56 rfl rfl (by omega) (fun hb6 => ?_) (fun hb6 => ?_)
        · exfalso; omega
        · refine me1 (pc' := 60) (L' := [(6, ii 0), (0, .ref 102), (1, ii (a : Int)), (2, ii rs), (3, ii (lq : Int)), (4, ii (wq : Int)), (5, ii p)]) (S' := [.ref 102]) dm_X12_each_59 rfl rfl rfl rfl ?_
          refine me1 (pc' := 62) (L' := [(6, ii 0), (0, .ref 102), (1, ii (a : Int)), (2, ii rs), (3, ii (lq : Int)), (4, ii (wq : Int)), (5, ii p)]) (S' := [ii (wq : Int), .ref 102]) dm_X12_each_60 rfl rfl rfl rfl ?_
          refine x_cp (pc' := 65) (v := zz (decide (vk w ≤ 1))) (rest := []) dm_X12_each_62 rfl (q_inv (As := [ii (wq : Int)]) (S := []) hm rfl rfl rfl) rfl rfl rfl (r_isOne_ (e := 6) hm (by omega) hB hvw) ?_
          refine y_zeq (c := decide (vk w ≤ 1)) (t := 76) (pc' := 68) dm_X12_each_65 rfl rfl (fun hb7 => ?_) (fun hb7 => ?_)
          · replace hb7 := dF hb7
            refine me1 (pc' := 77) (L' := [(6, ii 0), (0, .ref 102), (1, ii (a : Int)), (2, ii rs), (3, ii (lq : Int)), (4, ii (wq : Int)), (5, ii p)]) (S' := [.ref 102]) dm_X12_each_76 rfl rfl rfl rfl ?_
            refine me1 (pc' := 79) (L' := [(6, ii 0), (0, .ref 102), (1, ii (a : Int)), (2, ii rs), (3, ii (lq : Int)), (4, ii (wq : Int)), (5, ii p)]) (S' := [ii (wq : Int), .ref 102]) dm_X12_each_77 rfl rfl rfl rfl ?_
            refine x_cp (pc' := 82) (v := ii (vm w : Int)) (rest := []) dm_X12_each_79 rfl (q_inv (As := [ii (wq : Int)]) (S := []) hm rfl rfl rfl) rfl rfl rfl (r_manyL (e := 6) hm (by omega) hLw hvw) ?_
            refine pg_st (S' := [ii ((if vk w ≤ 1 then vm l else vm w : Nat) : Int)]) (congrArg (fun z => ii z :: []) (by first | (exfalso; omega) | rw [if_pos (by omega)] | rw [if_neg (by omega)])) ?_
            refine me1 (pc' := 84) (L' := [(7, ii ((if vk w ≤ 1 then vm l else vm w : Nat) : Int)), (6, ii 0), (0, .ref 102), (1, ii (a : Int)), (2, ii rs), (3, ii (lq : Int)), (4, ii (wq : Int)), (5, ii p)]) (S' := []) dm_X12_each_82 rfl rfl rfl rfl ?_
            refine me1 (pc' := 85) (L' := [(7, ii ((if vk w ≤ 1 then vm l else vm w : Nat) : Int)), (6, ii 0), (0, .ref 102), (1, ii (a : Int)), (2, ii rs), (3, ii (lq : Int)), (4, ii (wq : Int)), (5, ii p)]) (S' := [.ref 102]) dm_X12_each_84 rfl rfl rfl rfl ?_
            refine me3 (pc' := 88) (S' := [ii (t.1 13)]) dm_X12_each_85 (q_geti (v := t.1 13) hm rfl (fun m i l => rg_13 m i l) rfl) rfl rfl rfl ?_
            refine me1 (pc' := 90) (L' := [(8, ii (t.1 13)), (7, ii ((if vk w ≤ 1 then vm l else vm w : Nat) : Int)), (6, ii 0), (0, .ref 102), (1, ii (a : Int)), (2, ii rs), (3, ii (lq : Int)), (4, ii (wq : Int)), (5, ii p)]) (S' := []) dm_X12_each_88 rfl rfl rfl rfl ?_
            refine me0 (pc' := 91) (S' := [ii 0]) dm_X12_each_90 rfl rfl rfl rfl ?_
            refine me1 (pc' := 93) (L' := [(9, ii 0), (8, ii (t.1 13)), (7, ii ((if vk w ≤ 1 then vm l else vm w : Nat) : Int)), (6, ii 0), (0, .ref 102), (1, ii (a : Int)), (2, ii rs), (3, ii (lq : Int)), (4, ii (wq : Int)), (5, ii p)]) (S' := []) dm_X12_each_91 rfl rfl rfl rfl ?_
            exact pg_sub (L := [(0, .ref 102), (1, ii (a : Int)), (2, ii rs), (3, ii (lq : Int)), (4, ii (wq : Int)), (5, ii p), (7, ii ((if vk w ≤ 1 then vm l else vm w : Nat) : Int)), (8, ii (t.1 13)), (9, ii ((0 : Nat) : Int))]) rfl rfl rfl (k)
          · replace hb7 := dT hb7
            refine me1 (pc' := 69) (L' := [(6, ii 0), (0, .ref 102), (1, ii (a : Int)), (2, ii rs), (3, ii (lq : Int)), (4, ii (wq : Int)), (5, ii p)]) (S' := [.ref 102]) dm_X12_each_68 rfl rfl rfl rfl ?_
            refine me1 (pc' := 70) (L' := [(6, ii 0), (0, .ref 102), (1, ii (a : Int)), (2, ii rs), (3, ii (lq : Int)), (4, ii (wq : Int)), (5, ii p)]) (S' := [ii (lq : Int), .ref 102]) dm_X12_each_69 rfl rfl rfl rfl ?_
            refine x_cp (pc' := 73) (v := ii (vm l : Int)) (rest := []) dm_X12_each_70 rfl (q_inv (As := [ii (lq : Int)]) (S := []) hm rfl rfl rfl) rfl rfl rfl (r_manyL (e := 6) hm (by omega) hLl hvl) ?_
            refine me2 (pc' := 82) (S' := [ii (vm l : Int)]) dm_X12_each_73 rfl rfl rfl ?_
            refine pg_st (S' := [ii ((if vk w ≤ 1 then vm l else vm w : Nat) : Int)]) (congrArg (fun z => ii z :: []) (by first | (exfalso; omega) | rw [if_pos (by omega)] | rw [if_neg (by omega)])) ?_
            refine me1 (pc' := 84) (L' := [(7, ii ((if vk w ≤ 1 then vm l else vm w : Nat) : Int)), (6, ii 0), (0, .ref 102), (1, ii (a : Int)), (2, ii rs), (3, ii (lq : Int)), (4, ii (wq : Int)), (5, ii p)]) (S' := []) dm_X12_each_82 rfl rfl rfl rfl ?_
            refine me1 (pc' := 85) (L' := [(7, ii ((if vk w ≤ 1 then vm l else vm w : Nat) : Int)), (6, ii 0), (0, .ref 102), (1, ii (a : Int)), (2, ii rs), (3, ii (lq : Int)), (4, ii (wq : Int)), (5, ii p)]) (S' := [.ref 102]) dm_X12_each_84 rfl rfl rfl rfl ?_
            refine me3 (pc' := 88) (S' := [ii (t.1 13)]) dm_X12_each_85 (q_geti (v := t.1 13) hm rfl (fun m i l => rg_13 m i l) rfl) rfl rfl rfl ?_
            refine me1 (pc' := 90) (L' := [(8, ii (t.1 13)), (7, ii ((if vk w ≤ 1 then vm l else vm w : Nat) : Int)), (6, ii 0), (0, .ref 102), (1, ii (a : Int)), (2, ii rs), (3, ii (lq : Int)), (4, ii (wq : Int)), (5, ii p)]) (S' := []) dm_X12_each_88 rfl rfl rfl rfl ?_
            refine me0 (pc' := 91) (S' := [ii 0]) dm_X12_each_90 rfl rfl rfl rfl ?_
            refine me1 (pc' := 93) (L' := [(9, ii 0), (8, ii (t.1 13)), (7, ii ((if vk w ≤ 1 then vm l else vm w : Nat) : Int)), (6, ii 0), (0, .ref 102), (1, ii (a : Int)), (2, ii rs), (3, ii (lq : Int)), (4, ii (wq : Int)), (5, ii p)]) (S' := []) dm_X12_each_91 rfl rfl rfl rfl ?_
            exact pg_sub (L := [(0, .ref 102), (1, ii (a : Int)), (2, ii rs), (3, ii (lq : Int)), (4, ii (wq : Int)), (5, ii p), (7, ii ((if vk w ≤ 1 then vm l else vm w : Nat) : Int)), (8, ii (t.1 13)), (9, ii ((0 : Nat) : Int))]) rfl rfl rfl (k)
      · replace hb5 := dF hb5
        refine me0 (pc' := 22) (S' := [ii 1]) dm_X12_each_21 rfl rfl rfl rfl ?_
        refine me2 (pc' := 26) (S' := [ii 1]) dm_X12_each_22 rfl rfl rfl ?_
        refine me1 (pc' := 28) (L' := [(6, ii 1), (0, .ref 102), (1, ii (a : Int)), (2, ii rs), (3, ii (lq : Int)), (4, ii (wq : Int)), (5, ii p)]) (S' := []) dm_X12_each_26 rfl rfl rfl rfl ?_
        refine me1 (pc' := 30) (L' := [(6, ii 1), (0, .ref 102), (1, ii (a : Int)), (2, ii rs), (3, ii (lq : Int)), (4, ii (wq : Int)), (5, ii p)]) (S' := [ii 1]) dm_X12_each_28 rfl rfl rfl rfl ?_
        refine me_1f (pc' := 33) dm_X12_each_30 rfl (by decide) rfl ?_
        refine me1 (pc' := 34) (L' := [(6, ii 1), (0, .ref 102), (1, ii (a : Int)), (2, ii rs), (3, ii (lq : Int)), (4, ii (wq : Int)), (5, ii p)]) (S' := [.ref 102]) dm_X12_each_33 rfl rfl rfl rfl ?_
        refine me1 (pc' := 35) (L' := [(6, ii 1), (0, .ref 102), (1, ii (a : Int)), (2, ii rs), (3, ii (lq : Int)), (4, ii (wq : Int)), (5, ii p)]) (S' := [ii (lq : Int), .ref 102]) dm_X12_each_34 rfl rfl rfl rfl ?_
        refine x_cp (pc' := 38) (v := ii (vm l : Int)) (rest := []) dm_X12_each_35 rfl (q_inv (As := [ii (lq : Int)]) (S := []) hm rfl rfl rfl) rfl rfl rfl (r_manyL (e := 6) hm (by omega) hLl hvl) ?_
        refine me1 (pc' := 39) (L' := [(6, ii 1), (0, .ref 102), (1, ii (a : Int)), (2, ii rs), (3, ii (lq : Int)), (4, ii (wq : Int)), (5, ii p)]) (S' := [.ref 102, ii (vm l : Int)]) dm_X12_each_38 rfl rfl rfl rfl ?_
        refine me1 (pc' := 41) (L' := [(6, ii 1), (0, .ref 102), (1, ii (a : Int)), (2, ii rs), (3, ii (lq : Int)), (4, ii (wq : Int)), (5, ii p)]) (S' := [ii (wq : Int), .ref 102, ii (vm l : Int)]) dm_X12_each_39 rfl rfl rfl rfl ?_
        refine x_cp (pc' := 44) (v := ii (vm w : Int)) (rest := [ii (vm l : Int)]) dm_X12_each_41 rfl (q_inv (As := [ii (wq : Int)]) (S := [ii (vm l : Int)]) hm rfl rfl rfl) rfl rfl rfl (r_manyL (e := 6) hm (by omega) hLw hvw) ?_
        refine y_2eq (a := (vm l : Int)) (b := (vm w : Int)) (t := 55) (pc' := 47) dm_X12_each_44 rfl rfl (by omega) (fun hb8 => ?_) (fun hb8 => ?_)
        · refine me1 (pc' := 56) (L' := [(6, ii 1), (0, .ref 102), (1, ii (a : Int)), (2, ii rs), (3, ii (lq : Int)), (4, ii (wq : Int)), (5, ii p)]) (S' := [ii (lq : Int)]) dm_X12_each_55 rfl rfl rfl rfl ?_
          refine y_1lt (a := (lq : Int)) (t := 76) (pc' := 59) dm_X12_each_56 rfl rfl (by omega) (fun hb9 => ?_) (fun hb9 => ?_)
          · exfalso; omega
          · refine me1 (pc' := 60) (L' := [(6, ii 1), (0, .ref 102), (1, ii (a : Int)), (2, ii rs), (3, ii (lq : Int)), (4, ii (wq : Int)), (5, ii p)]) (S' := [.ref 102]) dm_X12_each_59 rfl rfl rfl rfl ?_
            refine me1 (pc' := 62) (L' := [(6, ii 1), (0, .ref 102), (1, ii (a : Int)), (2, ii rs), (3, ii (lq : Int)), (4, ii (wq : Int)), (5, ii p)]) (S' := [ii (wq : Int), .ref 102]) dm_X12_each_60 rfl rfl rfl rfl ?_
            refine x_cp (pc' := 65) (v := zz (decide (vk w ≤ 1))) (rest := []) dm_X12_each_62 rfl (q_inv (As := [ii (wq : Int)]) (S := []) hm rfl rfl rfl) rfl rfl rfl (r_isOne_ (e := 6) hm (by omega) hB hvw) ?_
            refine y_zeq (c := decide (vk w ≤ 1)) (t := 76) (pc' := 68) dm_X12_each_65 rfl rfl (fun hb10 => ?_) (fun hb10 => ?_)
            · replace hb10 := dF hb10
              refine me1 (pc' := 77) (L' := [(6, ii 1), (0, .ref 102), (1, ii (a : Int)), (2, ii rs), (3, ii (lq : Int)), (4, ii (wq : Int)), (5, ii p)]) (S' := [.ref 102]) dm_X12_each_76 rfl rfl rfl rfl ?_
              refine me1 (pc' := 79) (L' := [(6, ii 1), (0, .ref 102), (1, ii (a : Int)), (2, ii rs), (3, ii (lq : Int)), (4, ii (wq : Int)), (5, ii p)]) (S' := [ii (wq : Int), .ref 102]) dm_X12_each_77 rfl rfl rfl rfl ?_
              refine x_cp (pc' := 82) (v := ii (vm w : Int)) (rest := []) dm_X12_each_79 rfl (q_inv (As := [ii (wq : Int)]) (S := []) hm rfl rfl rfl) rfl rfl rfl (r_manyL (e := 6) hm (by omega) hLw hvw) ?_
              refine pg_st (S' := [ii ((if vk w ≤ 1 then vm l else vm w : Nat) : Int)]) (congrArg (fun z => ii z :: []) (by first | (exfalso; omega) | rw [if_pos (by omega)] | rw [if_neg (by omega)])) ?_
              refine me1 (pc' := 84) (L' := [(7, ii ((if vk w ≤ 1 then vm l else vm w : Nat) : Int)), (6, ii 1), (0, .ref 102), (1, ii (a : Int)), (2, ii rs), (3, ii (lq : Int)), (4, ii (wq : Int)), (5, ii p)]) (S' := []) dm_X12_each_82 rfl rfl rfl rfl ?_
              refine me1 (pc' := 85) (L' := [(7, ii ((if vk w ≤ 1 then vm l else vm w : Nat) : Int)), (6, ii 1), (0, .ref 102), (1, ii (a : Int)), (2, ii rs), (3, ii (lq : Int)), (4, ii (wq : Int)), (5, ii p)]) (S' := [.ref 102]) dm_X12_each_84 rfl rfl rfl rfl ?_
              refine me3 (pc' := 88) (S' := [ii (t.1 13)]) dm_X12_each_85 (q_geti (v := t.1 13) hm rfl (fun m i l => rg_13 m i l) rfl) rfl rfl rfl ?_
              refine me1 (pc' := 90) (L' := [(8, ii (t.1 13)), (7, ii ((if vk w ≤ 1 then vm l else vm w : Nat) : Int)), (6, ii 1), (0, .ref 102), (1, ii (a : Int)), (2, ii rs), (3, ii (lq : Int)), (4, ii (wq : Int)), (5, ii p)]) (S' := []) dm_X12_each_88 rfl rfl rfl rfl ?_
              refine me0 (pc' := 91) (S' := [ii 0]) dm_X12_each_90 rfl rfl rfl rfl ?_
              refine me1 (pc' := 93) (L' := [(9, ii 0), (8, ii (t.1 13)), (7, ii ((if vk w ≤ 1 then vm l else vm w : Nat) : Int)), (6, ii 1), (0, .ref 102), (1, ii (a : Int)), (2, ii rs), (3, ii (lq : Int)), (4, ii (wq : Int)), (5, ii p)]) (S' := []) dm_X12_each_91 rfl rfl rfl rfl ?_
              exact pg_sub (L := [(0, .ref 102), (1, ii (a : Int)), (2, ii rs), (3, ii (lq : Int)), (4, ii (wq : Int)), (5, ii p), (7, ii ((if vk w ≤ 1 then vm l else vm w : Nat) : Int)), (8, ii (t.1 13)), (9, ii ((0 : Nat) : Int))]) rfl rfl rfl (k)
            · replace hb10 := dT hb10
              refine me1 (pc' := 69) (L' := [(6, ii 1), (0, .ref 102), (1, ii (a : Int)), (2, ii rs), (3, ii (lq : Int)), (4, ii (wq : Int)), (5, ii p)]) (S' := [.ref 102]) dm_X12_each_68 rfl rfl rfl rfl ?_
              refine me1 (pc' := 70) (L' := [(6, ii 1), (0, .ref 102), (1, ii (a : Int)), (2, ii rs), (3, ii (lq : Int)), (4, ii (wq : Int)), (5, ii p)]) (S' := [ii (lq : Int), .ref 102]) dm_X12_each_69 rfl rfl rfl rfl ?_
              refine x_cp (pc' := 73) (v := ii (vm l : Int)) (rest := []) dm_X12_each_70 rfl (q_inv (As := [ii (lq : Int)]) (S := []) hm rfl rfl rfl) rfl rfl rfl (r_manyL (e := 6) hm (by omega) hLl hvl) ?_
              refine me2 (pc' := 82) (S' := [ii (vm l : Int)]) dm_X12_each_73 rfl rfl rfl ?_
              refine pg_st (S' := [ii ((if vk w ≤ 1 then vm l else vm w : Nat) : Int)]) (congrArg (fun z => ii z :: []) (by first | (exfalso; omega) | rw [if_pos (by omega)] | rw [if_neg (by omega)])) ?_
              refine me1 (pc' := 84) (L' := [(7, ii ((if vk w ≤ 1 then vm l else vm w : Nat) : Int)), (6, ii 1), (0, .ref 102), (1, ii (a : Int)), (2, ii rs), (3, ii (lq : Int)), (4, ii (wq : Int)), (5, ii p)]) (S' := []) dm_X12_each_82 rfl rfl rfl rfl ?_
              refine me1 (pc' := 85) (L' := [(7, ii ((if vk w ≤ 1 then vm l else vm w : Nat) : Int)), (6, ii 1), (0, .ref 102), (1, ii (a : Int)), (2, ii rs), (3, ii (lq : Int)), (4, ii (wq : Int)), (5, ii p)]) (S' := [.ref 102]) dm_X12_each_84 rfl rfl rfl rfl ?_
              refine me3 (pc' := 88) (S' := [ii (t.1 13)]) dm_X12_each_85 (q_geti (v := t.1 13) hm rfl (fun m i l => rg_13 m i l) rfl) rfl rfl rfl ?_
              refine me1 (pc' := 90) (L' := [(8, ii (t.1 13)), (7, ii ((if vk w ≤ 1 then vm l else vm w : Nat) : Int)), (6, ii 1), (0, .ref 102), (1, ii (a : Int)), (2, ii rs), (3, ii (lq : Int)), (4, ii (wq : Int)), (5, ii p)]) (S' := []) dm_X12_each_88 rfl rfl rfl rfl ?_
              refine me0 (pc' := 91) (S' := [ii 0]) dm_X12_each_90 rfl rfl rfl rfl ?_
              refine me1 (pc' := 93) (L' := [(9, ii 0), (8, ii (t.1 13)), (7, ii ((if vk w ≤ 1 then vm l else vm w : Nat) : Int)), (6, ii 1), (0, .ref 102), (1, ii (a : Int)), (2, ii rs), (3, ii (lq : Int)), (4, ii (wq : Int)), (5, ii p)]) (S' := []) dm_X12_each_91 rfl rfl rfl rfl ?_
              exact pg_sub (L := [(0, .ref 102), (1, ii (a : Int)), (2, ii rs), (3, ii (lq : Int)), (4, ii (wq : Int)), (5, ii p), (7, ii ((if vk w ≤ 1 then vm l else vm w : Nat) : Int)), (8, ii (t.1 13)), (9, ii ((0 : Nat) : Int))]) rfl rfl rfl (k)
        · exfalso; omega
theorem dm_X12_each_93 : mj_dec prog_14_method_110_code 93 = some (.iload 9, 2) := by decide +kernel
theorem dm_X12_each_95 : mj_dec prog_14_method_110_code 95 = some (.iload 7, 2) := by decide +kernel
theorem dm_X12_each_97 : mj_dec prog_14_method_110_code 97 = some (.if_icmp .ge 74, 3) := by decide +kernel
theorem dm_X12_each_100 : mj_dec prog_14_method_110_code 100 = some (.aload_n 0, 1) := by decide +kernel
theorem dm_X12_each_101 : mj_dec prog_14_method_110_code 101 = some (.getfield 181, 3) := by decide +kernel
theorem dm_X12_each_104 : mj_dec prog_14_method_110_code 104 = some (.ifCond .ne 67, 3) := by decide +kernel
theorem dm_X12_each_107 : mj_dec prog_14_method_110_code 107 = some (.aload_n 0, 1) := by decide +kernel
theorem dm_X12_each_108 : mj_dec prog_14_method_110_code 108 = some (.aload_n 0, 1) := by decide +kernel
theorem dm_X12_each_109 : mj_dec prog_14_method_110_code 109 = some (.iload_n 1, 1) := by decide +kernel
theorem dm_X12_each_110 : mj_dec prog_14_method_110_code 110 = some (.iload_n 2, 1) := by decide +kernel
theorem dm_X12_each_111 : mj_dec prog_14_method_110_code 111 = some (.iload_n 3, 1) := by decide +kernel
theorem dm_X12_each_112 : mj_dec prog_14_method_110_code 112 = some (.ifCond .ge 7, 3) := by decide +kernel
theorem dm_X12_each_115 : mj_dec prog_14_method_110_code 115 = some (.iconst (-1), 1) := by decide +kernel
theorem dm_X12_each_116 : mj_dec prog_14_method_110_code 116 = some (.goto 22, 3) := by decide +kernel
theorem dm_X12_each_138 : mj_dec prog_14_method_110_code 138 = some (.aload_n 0, 1) := by decide +kernel
theorem dm_X12_each_139 : mj_dec prog_14_method_110_code 139 = some (.iload 4, 2) := by decide +kernel
theorem dm_X12_each_141 : mj_dec prog_14_method_110_code 141 = some (.aload_n 0, 1) := by decide +kernel
theorem dm_X12_each_142 : mj_dec prog_14_method_110_code 142 = some (.iload 4, 2) := by decide +kernel
theorem dm_X12_each_144 : mj_dec prog_14_method_110_code 144 = some (.invokevirtual 162, 3) := by decide +kernel
theorem dm_X12_each_147 : mj_dec prog_14_method_110_code 147 = some (.ifCond .eq 7, 3) := by decide +kernel
theorem dm_X12_each_150 : mj_dec prog_14_method_110_code 150 = some (.iconst 0, 1) := by decide +kernel
theorem dm_X12_each_151 : mj_dec prog_14_method_110_code 151 = some (.goto 5, 3) := by decide +kernel
theorem dm_X12_each_154 : mj_dec prog_14_method_110_code 154 = some (.iload 9, 2) := by decide +kernel
theorem dm_X12_each_156 : mj_dec prog_14_method_110_code 156 = some (.invokevirtual 217, 3) := by decide +kernel
theorem dm_X12_each_159 : mj_dec prog_14_method_110_code 159 = some (.invokevirtual 544, 3) := by decide +kernel
theorem dm_X12_each_162 : mj_dec prog_14_method_110_code 162 = some (.invokevirtual 264, 3) := by decide +kernel
theorem dm_X12_each_165 : mj_dec prog_14_method_110_code 165 = some (.iinc 9 1, 3) := by decide +kernel
theorem dm_X12_each_168 : mj_dec prog_14_method_110_code 168 = some (.goto (-75), 3) := by decide +kernel
theorem e_turn1 {xt : mj_X} {d : Nat} {pre post : mj_H} {t : RS} {P : Option Value → mj_H → Prop} (hm : pre.length = 102) {a wq n k : Nat} {rs p b : Int} {w : VV} (hd2 : 3 ≤ d) (hB : rB t) (hvw : rv t 7 wq w) (h5 : t.1 5 = 0) (hkn : k < n) (hn : n ≤ 200) {Q1 Q2 : RS → Int → Prop} (hc1 : pgV xt d 261 [.ref 102, ii (wq : Int), ii ((if vk w ≤ 1 then 0 else k : Nat) : Int)] (rS pre post t) (RA pre post Q1)) (hc2 : ∀ u y, Q1 u y → pgV xt d 279 [.ref 102, ii (a : Int), ii rs, ii (-1), ii y] (rS pre post u) (RA pre post Q2)) (hw2 : ∀ u y, Q2 u y → ∃ w1 : Nat, u.1 13 = (w1 : Int) ∧ w1 < 8192) (kk : ∀ u y (w1 : Nat), Q2 u y → u.1 13 = (w1 : Int) → HE xt d pre post (pshS u w1 y) a wq n (k + 1) rs (-1) p b P) : HE xt d pre post t a wq n k rs (-1) p b P := by
  refine me1 (pc' := 95) (L' := [(0, .ref 102), (1, ii (a : Int)), (2, ii rs), (3, ii (-1)), (4, ii (wq : Int)), (5, ii p), (7, ii ((n : Nat) : Int)), (8, ii b), (9, ii ((k : Nat) : Int))]) (S' := [ii ((k : Nat) : Int)]) dm_X12_each_93 rfl rfl rfl rfl ?_
  refine me1 (pc' := 97) (L' := [(0, .ref 102), (1, ii (a : Int)), (2, ii rs), (3, ii (-1)), (4, ii (wq : Int)), (5, ii p), (7, ii ((n : Nat) : Int)), (8, ii b), (9, ii ((k : Nat) : Int))]) (S' := [ii ((n : Nat) : Int), ii ((k : Nat) : Int)]) dm_X12_each_95 rfl rfl rfl rfl ?_
  refine y_2ge (a := ((k : Nat) : Int)) (b := ((n : Nat) : Int)) (t := 171) (pc' := 100) dm_X12_each_97 rfl rfl (by omega) (fun hb1 => ?_) (fun hb1 => ?_)
  · exfalso; omega
  · refine me1 (pc' := 101) (L' := [(0, .ref 102), (1, ii (a : Int)), (2, ii rs), (3, ii (-1)), (4, ii (wq : Int)), (5, ii p), (7, ii ((n : Nat) : Int)), (8, ii b), (9, ii ((k : Nat) : Int))]) (S' := [.ref 102]) dm_X12_each_100 rfl rfl rfl rfl ?_
    refine me3 (pc' := 104) (S' := [ii (t.1 5)]) dm_X12_each_101 (q_geti (v := t.1 5) hm rfl (fun m i l => rg_5 m i l) rfl) rfl rfl rfl ?_
    refine y_1ne (a := t.1 5) (t := 171) (pc' := 107) dm_X12_each_104 rfl rfl (by omega) (fun hb2 => ?_) (fun hb2 => ?_)
    · exfalso; omega
    · refine me1 (pc' := 108) (L' := [(0, .ref 102), (1, ii (a : Int)), (2, ii rs), (3, ii (-1)), (4, ii (wq : Int)), (5, ii p), (7, ii ((n : Nat) : Int)), (8, ii b), (9, ii ((k : Nat) : Int))]) (S' := [.ref 102]) dm_X12_each_107 rfl rfl rfl rfl ?_
      refine me1 (pc' := 109) (L' := [(0, .ref 102), (1, ii (a : Int)), (2, ii rs), (3, ii (-1)), (4, ii (wq : Int)), (5, ii p), (7, ii ((n : Nat) : Int)), (8, ii b), (9, ii ((k : Nat) : Int))]) (S' := [.ref 102, .ref 102]) dm_X12_each_108 rfl rfl rfl rfl ?_
      refine me1 (pc' := 110) (L' := [(0, .ref 102), (1, ii (a : Int)), (2, ii rs), (3, ii (-1)), (4, ii (wq : Int)), (5, ii p), (7, ii ((n : Nat) : Int)), (8, ii b), (9, ii ((k : Nat) : Int))]) (S' := [ii (a : Int), .ref 102, .ref 102]) dm_X12_each_109 rfl rfl rfl rfl ?_
      refine me1 (pc' := 111) (L' := [(0, .ref 102), (1, ii (a : Int)), (2, ii rs), (3, ii (-1)), (4, ii (wq : Int)), (5, ii p), (7, ii ((n : Nat) : Int)), (8, ii b), (9, ii ((k : Nat) : Int))]) (S' := [ii rs, ii (a : Int), .ref 102, .ref 102]) dm_X12_each_110 rfl rfl rfl rfl ?_
      refine me1 (pc' := 112) (L' := [(0, .ref 102), (1, ii (a : Int)), (2, ii rs), (3, ii (-1)), (4, ii (wq : Int)), (5, ii p), (7, ii ((n : Nat) : Int)), (8, ii b), (9, ii ((k : Nat) : Int))]) (S' := [ii (-1), ii rs, ii (a : Int), .ref 102, .ref 102]) dm_X12_each_111 rfl rfl rfl rfl ?_
      refine me_1f (pc' := 115) dm_X12_each_112 rfl (by decide) rfl ?_
      refine me0 (pc' := 116) (S' := [ii (-1), ii rs, ii (a : Int), .ref 102, .ref 102]) dm_X12_each_115 rfl rfl rfl rfl ?_
      refine me2 (pc' := 138) (S' := [ii (-1), ii rs, ii (a : Int), .ref 102, .ref 102]) dm_X12_each_116 rfl rfl rfl ?_
      refine me1 (pc' := 139) (L' := [(0, .ref 102), (1, ii (a : Int)), (2, ii rs), (3, ii (-1)), (4, ii (wq : Int)), (5, ii p), (7, ii ((n : Nat) : Int)), (8, ii b), (9, ii ((k : Nat) : Int))]) (S' := [.ref 102, ii (-1), ii rs, ii (a : Int), .ref 102, .ref 102]) dm_X12_each_138 rfl rfl rfl rfl ?_
      refine me1 (pc' := 141) (L' := [(0, .ref 102), (1, ii (a : Int)), (2, ii rs), (3, ii (-1)), (4, ii (wq : Int)), (5, ii p), (7, ii ((n : Nat) : Int)), (8, ii b), (9, ii ((k : Nat) : Int))]) (S' := [ii (wq : Int), .ref 102, ii (-1), ii rs, ii (a : Int), .ref 102, .ref 102]) dm_X12_each_139 rfl rfl rfl rfl ?_
      refine me1 (pc' := 142) (L' := [(0, .ref 102), (1, ii (a : Int)), (2, ii rs), (3, ii (-1)), (4, ii (wq : Int)), (5, ii p), (7, ii ((n : Nat) : Int)), (8, ii b), (9, ii ((k : Nat) : Int))]) (S' := [.ref 102, ii (wq : Int), .ref 102, ii (-1), ii rs, ii (a : Int), .ref 102, .ref 102]) dm_X12_each_141 rfl rfl rfl rfl ?_
      refine me1 (pc' := 144) (L' := [(0, .ref 102), (1, ii (a : Int)), (2, ii rs), (3, ii (-1)), (4, ii (wq : Int)), (5, ii p), (7, ii ((n : Nat) : Int)), (8, ii b), (9, ii ((k : Nat) : Int))]) (S' := [ii (wq : Int), .ref 102, ii (wq : Int), .ref 102, ii (-1), ii rs, ii (a : Int), .ref 102, .ref 102]) dm_X12_each_142 rfl rfl rfl rfl ?_
      refine x_cp (pc' := 147) (v := zz (decide (vk w ≤ 1))) (rest := [ii (wq : Int), .ref 102, ii (-1), ii rs, ii (a : Int), .ref 102, .ref 102]) dm_X12_each_144 rfl (q_inv (As := [ii (wq : Int)]) (S := [ii (wq : Int), .ref 102, ii (-1), ii rs, ii (a : Int), .ref 102, .ref 102]) hm rfl rfl rfl) rfl rfl rfl (r_isOne_ (e := 6) hm (by omega) hB hvw) ?_
      refine y_zeq (c := decide (vk w ≤ 1)) (t := 154) (pc' := 150) dm_X12_each_147 rfl rfl (fun hb3 => ?_) (fun hb3 => ?_)
      · replace hb3 := dF hb3
        refine me1 (pc' := 156) (L' := [(0, .ref 102), (1, ii (a : Int)), (2, ii rs), (3, ii (-1)), (4, ii (wq : Int)), (5, ii p), (7, ii ((n : Nat) : Int)), (8, ii b), (9, ii ((k : Nat) : Int))]) (S' := [ii ((k : Nat) : Int), ii (wq : Int), .ref 102, ii (-1), ii rs, ii (a : Int), .ref 102, .ref 102]) dm_X12_each_154 rfl rfl rfl rfl ?_
        refine pg_st (S' := [ii ((if vk w ≤ 1 then 0 else k : Nat) : Int), ii (wq : Int), .ref 102, ii (-1), ii rs, ii (a : Int), .ref 102, .ref 102]) (congrArg (fun z => ii z :: [ii (wq : Int), .ref 102, ii (-1), ii rs, ii (a : Int), .ref 102, .ref 102]) (by first | (exfalso; omega) | (rw [if_pos (by omega)]; rfl) | rw [if_neg (by omega)])) ?_
        refine x_cv (pc' := 159) (rest := [ii (-1), ii rs, ii (a : Int), .ref 102, .ref 102]) dm_X12_each_156 rfl (q_inv (As := [ii (wq : Int), ii ((if vk w ≤ 1 then 0 else k : Nat) : Int)]) (S := [ii (-1), ii rs, ii (a : Int), .ref 102, .ref 102]) hm rfl rfl rfl) rfl rfl rfl (hc1) ?_
        rintro x1 g1 f1
        obtain ⟨t1, z1, rfl, rfl, hE1, hZ1, hQ1⟩ := f1
        refine x_cv (pc' := 162) (rest := [.ref 102]) dm_X12_each_159 rfl (q_inv (As := [ii (a : Int), ii rs, ii (-1), ii z1]) (S := [.ref 102]) hm rfl rfl rfl) rfl rfl rfl (hc2 t1 z1 hQ1) ?_
        rintro x2 g2 f2
        obtain ⟨t2, z2, rfl, rfl, hE2, hZ2, hQ2⟩ := f2
        obtain ⟨w1, hw1, hw1b⟩ := hw2 t2 z2 hQ2
        refine x_cn (pc' := 165) (rest := []) dm_X12_each_162 rfl (q_inv (As := [ii z2]) (S := []) hm rfl rfl rfl) rfl rfl rfl (r_push_ (s := t2) (n := w1) hm (by omega) hw1 (by omega)) ?_
        rintro _ rfl
        refine y_iinc (pc' := 168) (L' := [(9, ii (((k : Nat) : Int) + 1)), (0, .ref 102), (1, ii (a : Int)), (2, ii rs), (3, ii (-1)), (4, ii (wq : Int)), (5, ii p), (7, ii ((n : Nat) : Int)), (8, ii b)]) dm_X12_each_165 (y_incp (a := ((k : Nat) : Int)) (c := 1) rfl rfl (by decide)) rfl ?_
        refine me2 (pc' := 93) (S' := []) dm_X12_each_168 rfl rfl rfl ?_
        exact pg_sub (L := [(0, .ref 102), (1, ii (a : Int)), (2, ii rs), (3, ii (-1)), (4, ii (wq : Int)), (5, ii p), (7, ii ((n : Nat) : Int)), (8, ii b), (9, ii (((k + 1) : Nat) : Int))]) rfl rfl rfl (kk t2 z2 w1 hQ2 hw1)
      · replace hb3 := dT hb3
        refine me0 (pc' := 151) (S' := [ii 0, ii (wq : Int), .ref 102, ii (-1), ii rs, ii (a : Int), .ref 102, .ref 102]) dm_X12_each_150 rfl rfl rfl rfl ?_
        refine me2 (pc' := 156) (S' := [ii 0, ii (wq : Int), .ref 102, ii (-1), ii rs, ii (a : Int), .ref 102, .ref 102]) dm_X12_each_151 rfl rfl rfl ?_
        refine pg_st (S' := [ii ((if vk w ≤ 1 then 0 else k : Nat) : Int), ii (wq : Int), .ref 102, ii (-1), ii rs, ii (a : Int), .ref 102, .ref 102]) (congrArg (fun z => ii z :: [ii (wq : Int), .ref 102, ii (-1), ii rs, ii (a : Int), .ref 102, .ref 102]) (by first | (exfalso; omega) | (rw [if_pos (by omega)]; rfl) | rw [if_neg (by omega)])) ?_
        refine x_cv (pc' := 159) (rest := [ii (-1), ii rs, ii (a : Int), .ref 102, .ref 102]) dm_X12_each_156 rfl (q_inv (As := [ii (wq : Int), ii ((if vk w ≤ 1 then 0 else k : Nat) : Int)]) (S := [ii (-1), ii rs, ii (a : Int), .ref 102, .ref 102]) hm rfl rfl rfl) rfl rfl rfl (hc1) ?_
        rintro x1 g1 f1
        obtain ⟨t1, z1, rfl, rfl, hE1, hZ1, hQ1⟩ := f1
        refine x_cv (pc' := 162) (rest := [.ref 102]) dm_X12_each_159 rfl (q_inv (As := [ii (a : Int), ii rs, ii (-1), ii z1]) (S := [.ref 102]) hm rfl rfl rfl) rfl rfl rfl (hc2 t1 z1 hQ1) ?_
        rintro x2 g2 f2
        obtain ⟨t2, z2, rfl, rfl, hE2, hZ2, hQ2⟩ := f2
        obtain ⟨w1, hw1, hw1b⟩ := hw2 t2 z2 hQ2
        refine x_cn (pc' := 165) (rest := []) dm_X12_each_162 rfl (q_inv (As := [ii z2]) (S := []) hm rfl rfl rfl) rfl rfl rfl (r_push_ (s := t2) (n := w1) hm (by omega) hw1 (by omega)) ?_
        rintro _ rfl
        refine y_iinc (pc' := 168) (L' := [(9, ii (((k : Nat) : Int) + 1)), (0, .ref 102), (1, ii (a : Int)), (2, ii rs), (3, ii (-1)), (4, ii (wq : Int)), (5, ii p), (7, ii ((n : Nat) : Int)), (8, ii b)]) dm_X12_each_165 (y_incp (a := ((k : Nat) : Int)) (c := 1) rfl rfl (by decide)) rfl ?_
        refine me2 (pc' := 93) (S' := []) dm_X12_each_168 rfl rfl rfl ?_
        exact pg_sub (L := [(0, .ref 102), (1, ii (a : Int)), (2, ii rs), (3, ii (-1)), (4, ii (wq : Int)), (5, ii p), (7, ii ((n : Nat) : Int)), (8, ii b), (9, ii (((k + 1) : Nat) : Int))]) rfl rfl rfl (kk t2 z2 w1 hQ2 hw1)
theorem dm_X12_each_119 : mj_dec prog_14_method_110_code 119 = some (.aload_n 0, 1) := by decide +kernel
theorem dm_X12_each_120 : mj_dec prog_14_method_110_code 120 = some (.iload_n 3, 1) := by decide +kernel
theorem dm_X12_each_121 : mj_dec prog_14_method_110_code 121 = some (.aload_n 0, 1) := by decide +kernel
theorem dm_X12_each_122 : mj_dec prog_14_method_110_code 122 = some (.iload_n 3, 1) := by decide +kernel
theorem dm_X12_each_123 : mj_dec prog_14_method_110_code 123 = some (.invokevirtual 162, 3) := by decide +kernel
theorem dm_X12_each_126 : mj_dec prog_14_method_110_code 126 = some (.ifCond .eq 7, 3) := by decide +kernel
theorem dm_X12_each_129 : mj_dec prog_14_method_110_code 129 = some (.iconst 0, 1) := by decide +kernel
theorem dm_X12_each_130 : mj_dec prog_14_method_110_code 130 = some (.goto 5, 3) := by decide +kernel
theorem dm_X12_each_133 : mj_dec prog_14_method_110_code 133 = some (.iload 9, 2) := by decide +kernel
theorem dm_X12_each_135 : mj_dec prog_14_method_110_code 135 = some (.invokevirtual 217, 3) := by decide +kernel
theorem e_turn2 {xt : mj_X} {d : Nat} {pre post : mj_H} {t : RS} {P : Option Value → mj_H → Prop} (hm : pre.length = 102) {a wq n k : Nat} {rs p b : Int} {w : VV} (hd2 : 3 ≤ d) (hB : rB t) (hvw : rv t 7 wq w) (h5 : t.1 5 = 0) (hkn : k < n) (hn : n ≤ 200) {lq : Nat} {l : VV} (hLq : lq < 310000) (hvl : rv t 7 lq l) {Q0 Q1 Q2 : RS → Int → Prop} (hc0 : pgV xt d 261 [.ref 102, ii (lq : Int), ii ((if vk l ≤ 1 then 0 else k : Nat) : Int)] (rS pre post t) (RA pre post Q0)) (hx1 : ∀ u y, Q0 u y → rB u ∧ rv u 7 wq w) (hc1 : ∀ u y, Q0 u y → pgV xt d 261 [.ref 102, ii (wq : Int), ii ((if vk w ≤ 1 then 0 else k : Nat) : Int)] (rS pre post u) (RA pre post (fun u2 y2 => Q1 u2 y2 ∧ pgV xt d 279 [.ref 102, ii (a : Int), ii rs, ii y, ii y2] (rS pre post u2) (RA pre post Q2)))) (hw2 : ∀ u y, Q2 u y → ∃ w1 : Nat, u.1 13 = (w1 : Int) ∧ w1 < 8192) (kk : ∀ u y (w1 : Nat), Q2 u y → u.1 13 = (w1 : Int) → HE xt d pre post (pshS u w1 y) a wq n (k + 1) rs (lq : Int) p b P) : HE xt d pre post t a wq n k rs (lq : Int) p b P := by
  refine me1 (pc' := 95) (L' := [(0, .ref 102), (1, ii (a : Int)), (2, ii rs), (3, ii (lq : Int)), (4, ii (wq : Int)), (5, ii p), (7, ii ((n : Nat) : Int)), (8, ii b), (9, ii ((k : Nat) : Int))]) (S' := [ii ((k : Nat) : Int)]) dm_X12_each_93 rfl rfl rfl rfl ?_
  refine me1 (pc' := 97) (L' := [(0, .ref 102), (1, ii (a : Int)), (2, ii rs), (3, ii (lq : Int)), (4, ii (wq : Int)), (5, ii p), (7, ii ((n : Nat) : Int)), (8, ii b), (9, ii ((k : Nat) : Int))]) (S' := [ii ((n : Nat) : Int), ii ((k : Nat) : Int)]) dm_X12_each_95 rfl rfl rfl rfl ?_
  refine y_2ge (a := ((k : Nat) : Int)) (b := ((n : Nat) : Int)) (t := 171) (pc' := 100) dm_X12_each_97 rfl rfl (by omega) (fun hb1 => ?_) (fun hb1 => ?_)
  · exfalso; omega
  · refine me1 (pc' := 101) (L' := [(0, .ref 102), (1, ii (a : Int)), (2, ii rs), (3, ii (lq : Int)), (4, ii (wq : Int)), (5, ii p), (7, ii ((n : Nat) : Int)), (8, ii b), (9, ii ((k : Nat) : Int))]) (S' := [.ref 102]) dm_X12_each_100 rfl rfl rfl rfl ?_
    refine me3 (pc' := 104) (S' := [ii (t.1 5)]) dm_X12_each_101 (q_geti (v := t.1 5) hm rfl (fun m i l => rg_5 m i l) rfl) rfl rfl rfl ?_
    refine y_1ne (a := t.1 5) (t := 171) (pc' := 107) dm_X12_each_104 rfl rfl (by omega) (fun hb2 => ?_) (fun hb2 => ?_)
    · exfalso; omega
    · refine me1 (pc' := 108) (L' := [(0, .ref 102), (1, ii (a : Int)), (2, ii rs), (3, ii (lq : Int)), (4, ii (wq : Int)), (5, ii p), (7, ii ((n : Nat) : Int)), (8, ii b), (9, ii ((k : Nat) : Int))]) (S' := [.ref 102]) dm_X12_each_107 rfl rfl rfl rfl ?_
      refine me1 (pc' := 109) (L' := [(0, .ref 102), (1, ii (a : Int)), (2, ii rs), (3, ii (lq : Int)), (4, ii (wq : Int)), (5, ii p), (7, ii ((n : Nat) : Int)), (8, ii b), (9, ii ((k : Nat) : Int))]) (S' := [.ref 102, .ref 102]) dm_X12_each_108 rfl rfl rfl rfl ?_
      refine me1 (pc' := 110) (L' := [(0, .ref 102), (1, ii (a : Int)), (2, ii rs), (3, ii (lq : Int)), (4, ii (wq : Int)), (5, ii p), (7, ii ((n : Nat) : Int)), (8, ii b), (9, ii ((k : Nat) : Int))]) (S' := [ii (a : Int), .ref 102, .ref 102]) dm_X12_each_109 rfl rfl rfl rfl ?_
      refine me1 (pc' := 111) (L' := [(0, .ref 102), (1, ii (a : Int)), (2, ii rs), (3, ii (lq : Int)), (4, ii (wq : Int)), (5, ii p), (7, ii ((n : Nat) : Int)), (8, ii b), (9, ii ((k : Nat) : Int))]) (S' := [ii rs, ii (a : Int), .ref 102, .ref 102]) dm_X12_each_110 rfl rfl rfl rfl ?_
      refine me1 (pc' := 112) (L' := [(0, .ref 102), (1, ii (a : Int)), (2, ii rs), (3, ii (lq : Int)), (4, ii (wq : Int)), (5, ii p), (7, ii ((n : Nat) : Int)), (8, ii b), (9, ii ((k : Nat) : Int))]) (S' := [ii (lq : Int), ii rs, ii (a : Int), .ref 102, .ref 102]) dm_X12_each_111 rfl rfl rfl rfl ?_
      refine y_1ge (a := (lq : Int)) (t := 119) (pc' := 115) dm_X12_each_112 rfl rfl (by omega) (fun hb3 => ?_) (fun hb3 => ?_)
      · refine me1 (pc' := 120) (L' := [(0, .ref 102), (1, ii (a : Int)), (2, ii rs), (3, ii (lq : Int)), (4, ii (wq : Int)), (5, ii p), (7, ii ((n : Nat) : Int)), (8, ii b), (9, ii ((k : Nat) : Int))]) (S' := [.ref 102, ii rs, ii (a : Int), .ref 102, .ref 102]) dm_X12_each_119 rfl rfl rfl rfl ?_
        refine me1 (pc' := 121) (L' := [(0, .ref 102), (1, ii (a : Int)), (2, ii rs), (3, ii (lq : Int)), (4, ii (wq : Int)), (5, ii p), (7, ii ((n : Nat) : Int)), (8, ii b), (9, ii ((k : Nat) : Int))]) (S' := [ii (lq : Int), .ref 102, ii rs, ii (a : Int), .ref 102, .ref 102]) dm_X12_each_120 rfl rfl rfl rfl ?_
        refine me1 (pc' := 122) (L' := [(0, .ref 102), (1, ii (a : Int)), (2, ii rs), (3, ii (lq : Int)), (4, ii (wq : Int)), (5, ii p), (7, ii ((n : Nat) : Int)), (8, ii b), (9, ii ((k : Nat) : Int))]) (S' := [.ref 102, ii (lq : Int), .ref 102, ii rs, ii (a : Int), .ref 102, .ref 102]) dm_X12_each_121 rfl rfl rfl rfl ?_
        refine me1 (pc' := 123) (L' := [(0, .ref 102), (1, ii (a : Int)), (2, ii rs), (3, ii (lq : Int)), (4, ii (wq : Int)), (5, ii p), (7, ii ((n : Nat) : Int)), (8, ii b), (9, ii ((k : Nat) : Int))]) (S' := [ii (lq : Int), .ref 102, ii (lq : Int), .ref 102, ii rs, ii (a : Int), .ref 102, .ref 102]) dm_X12_each_122 rfl rfl rfl rfl ?_
        refine x_cp (pc' := 126) (v := zz (decide (vk l ≤ 1))) (rest := [ii (lq : Int), .ref 102, ii rs, ii (a : Int), .ref 102, .ref 102]) dm_X12_each_123 rfl (q_inv (As := [ii (lq : Int)]) (S := [ii (lq : Int), .ref 102, ii rs, ii (a : Int), .ref 102, .ref 102]) hm rfl rfl rfl) rfl rfl rfl (r_isOne_ (e := 6) hm (by omega) hB hvl) ?_
        refine y_zeq (c := decide (vk l ≤ 1)) (t := 133) (pc' := 129) dm_X12_each_126 rfl rfl (fun hb4 => ?_) (fun hb4 => ?_)
        · replace hb4 := dF hb4
          refine me1 (pc' := 135) (L' := [(0, .ref 102), (1, ii (a : Int)), (2, ii rs), (3, ii (lq : Int)), (4, ii (wq : Int)), (5, ii p), (7, ii ((n : Nat) : Int)), (8, ii b), (9, ii ((k : Nat) : Int))]) (S' := [ii ((k : Nat) : Int), ii (lq : Int), .ref 102, ii rs, ii (a : Int), .ref 102, .ref 102]) dm_X12_each_133 rfl rfl rfl rfl ?_
          refine pg_st (S' := [ii ((if vk l ≤ 1 then 0 else k : Nat) : Int), ii (lq : Int), .ref 102, ii rs, ii (a : Int), .ref 102, .ref 102]) (congrArg (fun z => ii z :: [ii (lq : Int), .ref 102, ii rs, ii (a : Int), .ref 102, .ref 102]) (by first | (exfalso; omega) | (rw [if_pos (by omega)]; rfl) | rw [if_neg (by omega)])) ?_
          refine x_cv (pc' := 138) (rest := [ii rs, ii (a : Int), .ref 102, .ref 102]) dm_X12_each_135 rfl (q_inv (As := [ii (lq : Int), ii ((if vk l ≤ 1 then 0 else k : Nat) : Int)]) (S := [ii rs, ii (a : Int), .ref 102, .ref 102]) hm rfl rfl rfl) rfl rfl rfl (hc0) ?_
          rintro x1 g1 f1
          obtain ⟨t1, z1, rfl, rfl, hE1, hZ1, hQ1⟩ := f1
          obtain ⟨hB1, hvw1⟩ := hx1 t1 z1 hQ1
          refine me1 (pc' := 139) (L' := [(0, .ref 102), (1, ii (a : Int)), (2, ii rs), (3, ii (lq : Int)), (4, ii (wq : Int)), (5, ii p), (7, ii ((n : Nat) : Int)), (8, ii b), (9, ii ((k : Nat) : Int))]) (S' := [.ref 102, ii z1, ii rs, ii (a : Int), .ref 102, .ref 102]) dm_X12_each_138 rfl rfl rfl rfl ?_
          refine me1 (pc' := 141) (L' := [(0, .ref 102), (1, ii (a : Int)), (2, ii rs), (3, ii (lq : Int)), (4, ii (wq : Int)), (5, ii p), (7, ii ((n : Nat) : Int)), (8, ii b), (9, ii ((k : Nat) : Int))]) (S' := [ii (wq : Int), .ref 102, ii z1, ii rs, ii (a : Int), .ref 102, .ref 102]) dm_X12_each_139 rfl rfl rfl rfl ?_
          refine me1 (pc' := 142) (L' := [(0, .ref 102), (1, ii (a : Int)), (2, ii rs), (3, ii (lq : Int)), (4, ii (wq : Int)), (5, ii p), (7, ii ((n : Nat) : Int)), (8, ii b), (9, ii ((k : Nat) : Int))]) (S' := [.ref 102, ii (wq : Int), .ref 102, ii z1, ii rs, ii (a : Int), .ref 102, .ref 102]) dm_X12_each_141 rfl rfl rfl rfl ?_
          refine me1 (pc' := 144) (L' := [(0, .ref 102), (1, ii (a : Int)), (2, ii rs), (3, ii (lq : Int)), (4, ii (wq : Int)), (5, ii p), (7, ii ((n : Nat) : Int)), (8, ii b), (9, ii ((k : Nat) : Int))]) (S' := [ii (wq : Int), .ref 102, ii (wq : Int), .ref 102, ii z1, ii rs, ii (a : Int), .ref 102, .ref 102]) dm_X12_each_142 rfl rfl rfl rfl ?_
          refine x_cp (pc' := 147) (v := zz (decide (vk w ≤ 1))) (rest := [ii (wq : Int), .ref 102, ii z1, ii rs, ii (a : Int), .ref 102, .ref 102]) dm_X12_each_144 rfl (q_inv (As := [ii (wq : Int)]) (S := [ii (wq : Int), .ref 102, ii z1, ii rs, ii (a : Int), .ref 102, .ref 102]) hm rfl rfl rfl) rfl rfl rfl (r_isOne_ (e := 6) hm (by omega) hB1 hvw1) ?_
          refine y_zeq (c := decide (vk w ≤ 1)) (t := 154) (pc' := 150) dm_X12_each_147 rfl rfl (fun hb5 => ?_) (fun hb5 => ?_)
          · replace hb5 := dF hb5
            refine me1 (pc' := 156) (L' := [(0, .ref 102), (1, ii (a : Int)), (2, ii rs), (3, ii (lq : Int)), (4, ii (wq : Int)), (5, ii p), (7, ii ((n : Nat) : Int)), (8, ii b), (9, ii ((k : Nat) : Int))]) (S' := [ii ((k : Nat) : Int), ii (wq : Int), .ref 102, ii z1, ii rs, ii (a : Int), .ref 102, .ref 102]) dm_X12_each_154 rfl rfl rfl rfl ?_
            refine pg_st (S' := [ii ((if vk w ≤ 1 then 0 else k : Nat) : Int), ii (wq : Int), .ref 102, ii z1, ii rs, ii (a : Int), .ref 102, .ref 102]) (congrArg (fun z => ii z :: [ii (wq : Int), .ref 102, ii z1, ii rs, ii (a : Int), .ref 102, .ref 102]) (by first | (exfalso; omega) | (rw [if_pos (by omega)]; rfl) | rw [if_neg (by omega)])) ?_
            refine x_cv (pc' := 159) (rest := [ii z1, ii rs, ii (a : Int), .ref 102, .ref 102]) dm_X12_each_156 rfl (q_inv (As := [ii (wq : Int), ii ((if vk w ≤ 1 then 0 else k : Nat) : Int)]) (S := [ii z1, ii rs, ii (a : Int), .ref 102, .ref 102]) hm rfl rfl rfl) rfl rfl rfl (hc1 t1 z1 hQ1) ?_
            rintro x2 g2 f2
            obtain ⟨t2, z2, rfl, rfl, hE2, hZ2, hQ2⟩ := f2
            refine x_cv (pc' := 162) (rest := [.ref 102]) dm_X12_each_159 rfl (q_inv (As := [ii (a : Int), ii rs, ii z1, ii z2]) (S := [.ref 102]) hm rfl rfl rfl) rfl rfl rfl (hQ2.2) ?_
            rintro x3 g3 f3
            obtain ⟨t3, z3, rfl, rfl, hE3, hZ3, hQ3⟩ := f3
            obtain ⟨w1, hw1, hw1b⟩ := hw2 t3 z3 hQ3
            refine x_cn (pc' := 165) (rest := []) dm_X12_each_162 rfl (q_inv (As := [ii z3]) (S := []) hm rfl rfl rfl) rfl rfl rfl (r_push_ (s := t3) (n := w1) hm (by omega) hw1 (by omega)) ?_
            rintro _ rfl
            refine y_iinc (pc' := 168) (L' := [(9, ii (((k : Nat) : Int) + 1)), (0, .ref 102), (1, ii (a : Int)), (2, ii rs), (3, ii (lq : Int)), (4, ii (wq : Int)), (5, ii p), (7, ii ((n : Nat) : Int)), (8, ii b)]) dm_X12_each_165 (y_incp (a := ((k : Nat) : Int)) (c := 1) rfl rfl (by decide)) rfl ?_
            refine me2 (pc' := 93) (S' := []) dm_X12_each_168 rfl rfl rfl ?_
            exact pg_sub (L := [(0, .ref 102), (1, ii (a : Int)), (2, ii rs), (3, ii (lq : Int)), (4, ii (wq : Int)), (5, ii p), (7, ii ((n : Nat) : Int)), (8, ii b), (9, ii (((k + 1) : Nat) : Int))]) rfl rfl rfl (kk t3 z3 w1 hQ3 hw1)
          · replace hb5 := dT hb5
            refine me0 (pc' := 151) (S' := [ii 0, ii (wq : Int), .ref 102, ii z1, ii rs, ii (a : Int), .ref 102, .ref 102]) dm_X12_each_150 rfl rfl rfl rfl ?_
            refine me2 (pc' := 156) (S' := [ii 0, ii (wq : Int), .ref 102, ii z1, ii rs, ii (a : Int), .ref 102, .ref 102]) dm_X12_each_151 rfl rfl rfl ?_
            refine pg_st (S' := [ii ((if vk w ≤ 1 then 0 else k : Nat) : Int), ii (wq : Int), .ref 102, ii z1, ii rs, ii (a : Int), .ref 102, .ref 102]) (congrArg (fun z => ii z :: [ii (wq : Int), .ref 102, ii z1, ii rs, ii (a : Int), .ref 102, .ref 102]) (by first | (exfalso; omega) | (rw [if_pos (by omega)]; rfl) | rw [if_neg (by omega)])) ?_
            refine x_cv (pc' := 159) (rest := [ii z1, ii rs, ii (a : Int), .ref 102, .ref 102]) dm_X12_each_156 rfl (q_inv (As := [ii (wq : Int), ii ((if vk w ≤ 1 then 0 else k : Nat) : Int)]) (S := [ii z1, ii rs, ii (a : Int), .ref 102, .ref 102]) hm rfl rfl rfl) rfl rfl rfl (hc1 t1 z1 hQ1) ?_
            rintro x2 g2 f2
            obtain ⟨t2, z2, rfl, rfl, hE2, hZ2, hQ2⟩ := f2
            refine x_cv (pc' := 162) (rest := [.ref 102]) dm_X12_each_159 rfl (q_inv (As := [ii (a : Int), ii rs, ii z1, ii z2]) (S := [.ref 102]) hm rfl rfl rfl) rfl rfl rfl (hQ2.2) ?_
            rintro x3 g3 f3
            obtain ⟨t3, z3, rfl, rfl, hE3, hZ3, hQ3⟩ := f3
            obtain ⟨w1, hw1, hw1b⟩ := hw2 t3 z3 hQ3
            refine x_cn (pc' := 165) (rest := []) dm_X12_each_162 rfl (q_inv (As := [ii z3]) (S := []) hm rfl rfl rfl) rfl rfl rfl (r_push_ (s := t3) (n := w1) hm (by omega) hw1 (by omega)) ?_
            rintro _ rfl
            refine y_iinc (pc' := 168) (L' := [(9, ii (((k : Nat) : Int) + 1)), (0, .ref 102), (1, ii (a : Int)), (2, ii rs), (3, ii (lq : Int)), (4, ii (wq : Int)), (5, ii p), (7, ii ((n : Nat) : Int)), (8, ii b)]) dm_X12_each_165 (y_incp (a := ((k : Nat) : Int)) (c := 1) rfl rfl (by decide)) rfl ?_
            refine me2 (pc' := 93) (S' := []) dm_X12_each_168 rfl rfl rfl ?_
            exact pg_sub (L := [(0, .ref 102), (1, ii (a : Int)), (2, ii rs), (3, ii (lq : Int)), (4, ii (wq : Int)), (5, ii p), (7, ii ((n : Nat) : Int)), (8, ii b), (9, ii (((k + 1) : Nat) : Int))]) rfl rfl rfl (kk t3 z3 w1 hQ3 hw1)
        · replace hb4 := dT hb4
          refine me0 (pc' := 130) (S' := [ii 0, ii (lq : Int), .ref 102, ii rs, ii (a : Int), .ref 102, .ref 102]) dm_X12_each_129 rfl rfl rfl rfl ?_
          refine me2 (pc' := 135) (S' := [ii 0, ii (lq : Int), .ref 102, ii rs, ii (a : Int), .ref 102, .ref 102]) dm_X12_each_130 rfl rfl rfl ?_
          refine pg_st (S' := [ii ((if vk l ≤ 1 then 0 else k : Nat) : Int), ii (lq : Int), .ref 102, ii rs, ii (a : Int), .ref 102, .ref 102]) (congrArg (fun z => ii z :: [ii (lq : Int), .ref 102, ii rs, ii (a : Int), .ref 102, .ref 102]) (by first | (exfalso; omega) | (rw [if_pos (by omega)]; rfl) | rw [if_neg (by omega)])) ?_
          refine x_cv (pc' := 138) (rest := [ii rs, ii (a : Int), .ref 102, .ref 102]) dm_X12_each_135 rfl (q_inv (As := [ii (lq : Int), ii ((if vk l ≤ 1 then 0 else k : Nat) : Int)]) (S := [ii rs, ii (a : Int), .ref 102, .ref 102]) hm rfl rfl rfl) rfl rfl rfl (hc0) ?_
          rintro x1 g1 f1
          obtain ⟨t1, z1, rfl, rfl, hE1, hZ1, hQ1⟩ := f1
          obtain ⟨hB1, hvw1⟩ := hx1 t1 z1 hQ1
          refine me1 (pc' := 139) (L' := [(0, .ref 102), (1, ii (a : Int)), (2, ii rs), (3, ii (lq : Int)), (4, ii (wq : Int)), (5, ii p), (7, ii ((n : Nat) : Int)), (8, ii b), (9, ii ((k : Nat) : Int))]) (S' := [.ref 102, ii z1, ii rs, ii (a : Int), .ref 102, .ref 102]) dm_X12_each_138 rfl rfl rfl rfl ?_
          refine me1 (pc' := 141) (L' := [(0, .ref 102), (1, ii (a : Int)), (2, ii rs), (3, ii (lq : Int)), (4, ii (wq : Int)), (5, ii p), (7, ii ((n : Nat) : Int)), (8, ii b), (9, ii ((k : Nat) : Int))]) (S' := [ii (wq : Int), .ref 102, ii z1, ii rs, ii (a : Int), .ref 102, .ref 102]) dm_X12_each_139 rfl rfl rfl rfl ?_
          refine me1 (pc' := 142) (L' := [(0, .ref 102), (1, ii (a : Int)), (2, ii rs), (3, ii (lq : Int)), (4, ii (wq : Int)), (5, ii p), (7, ii ((n : Nat) : Int)), (8, ii b), (9, ii ((k : Nat) : Int))]) (S' := [.ref 102, ii (wq : Int), .ref 102, ii z1, ii rs, ii (a : Int), .ref 102, .ref 102]) dm_X12_each_141 rfl rfl rfl rfl ?_
          refine me1 (pc' := 144) (L' := [(0, .ref 102), (1, ii (a : Int)), (2, ii rs), (3, ii (lq : Int)), (4, ii (wq : Int)), (5, ii p), (7, ii ((n : Nat) : Int)), (8, ii b), (9, ii ((k : Nat) : Int))]) (S' := [ii (wq : Int), .ref 102, ii (wq : Int), .ref 102, ii z1, ii rs, ii (a : Int), .ref 102, .ref 102]) dm_X12_each_142 rfl rfl rfl rfl ?_
          refine x_cp (pc' := 147) (v := zz (decide (vk w ≤ 1))) (rest := [ii (wq : Int), .ref 102, ii z1, ii rs, ii (a : Int), .ref 102, .ref 102]) dm_X12_each_144 rfl (q_inv (As := [ii (wq : Int)]) (S := [ii (wq : Int), .ref 102, ii z1, ii rs, ii (a : Int), .ref 102, .ref 102]) hm rfl rfl rfl) rfl rfl rfl (r_isOne_ (e := 6) hm (by omega) hB1 hvw1) ?_
          refine y_zeq (c := decide (vk w ≤ 1)) (t := 154) (pc' := 150) dm_X12_each_147 rfl rfl (fun hb6 => ?_) (fun hb6 => ?_)
          · replace hb6 := dF hb6
            refine me1 (pc' := 156) (L' := [(0, .ref 102), (1, ii (a : Int)), (2, ii rs), (3, ii (lq : Int)), (4, ii (wq : Int)), (5, ii p), (7, ii ((n : Nat) : Int)), (8, ii b), (9, ii ((k : Nat) : Int))]) (S' := [ii ((k : Nat) : Int), ii (wq : Int), .ref 102, ii z1, ii rs, ii (a : Int), .ref 102, .ref 102]) dm_X12_each_154 rfl rfl rfl rfl ?_
            refine pg_st (S' := [ii ((if vk w ≤ 1 then 0 else k : Nat) : Int), ii (wq : Int), .ref 102, ii z1, ii rs, ii (a : Int), .ref 102, .ref 102]) (congrArg (fun z => ii z :: [ii (wq : Int), .ref 102, ii z1, ii rs, ii (a : Int), .ref 102, .ref 102]) (by first | (exfalso; omega) | (rw [if_pos (by omega)]; rfl) | rw [if_neg (by omega)])) ?_
            refine x_cv (pc' := 159) (rest := [ii z1, ii rs, ii (a : Int), .ref 102, .ref 102]) dm_X12_each_156 rfl (q_inv (As := [ii (wq : Int), ii ((if vk w ≤ 1 then 0 else k : Nat) : Int)]) (S := [ii z1, ii rs, ii (a : Int), .ref 102, .ref 102]) hm rfl rfl rfl) rfl rfl rfl (hc1 t1 z1 hQ1) ?_
            rintro x2 g2 f2
            obtain ⟨t2, z2, rfl, rfl, hE2, hZ2, hQ2⟩ := f2
            refine x_cv (pc' := 162) (rest := [.ref 102]) dm_X12_each_159 rfl (q_inv (As := [ii (a : Int), ii rs, ii z1, ii z2]) (S := [.ref 102]) hm rfl rfl rfl) rfl rfl rfl (hQ2.2) ?_
            rintro x3 g3 f3
            obtain ⟨t3, z3, rfl, rfl, hE3, hZ3, hQ3⟩ := f3
            obtain ⟨w1, hw1, hw1b⟩ := hw2 t3 z3 hQ3
            refine x_cn (pc' := 165) (rest := []) dm_X12_each_162 rfl (q_inv (As := [ii z3]) (S := []) hm rfl rfl rfl) rfl rfl rfl (r_push_ (s := t3) (n := w1) hm (by omega) hw1 (by omega)) ?_
            rintro _ rfl
            refine y_iinc (pc' := 168) (L' := [(9, ii (((k : Nat) : Int) + 1)), (0, .ref 102), (1, ii (a : Int)), (2, ii rs), (3, ii (lq : Int)), (4, ii (wq : Int)), (5, ii p), (7, ii ((n : Nat) : Int)), (8, ii b)]) dm_X12_each_165 (y_incp (a := ((k : Nat) : Int)) (c := 1) rfl rfl (by decide)) rfl ?_
            refine me2 (pc' := 93) (S' := []) dm_X12_each_168 rfl rfl rfl ?_
            exact pg_sub (L := [(0, .ref 102), (1, ii (a : Int)), (2, ii rs), (3, ii (lq : Int)), (4, ii (wq : Int)), (5, ii p), (7, ii ((n : Nat) : Int)), (8, ii b), (9, ii (((k + 1) : Nat) : Int))]) rfl rfl rfl (kk t3 z3 w1 hQ3 hw1)
          · replace hb6 := dT hb6
            refine me0 (pc' := 151) (S' := [ii 0, ii (wq : Int), .ref 102, ii z1, ii rs, ii (a : Int), .ref 102, .ref 102]) dm_X12_each_150 rfl rfl rfl rfl ?_
            refine me2 (pc' := 156) (S' := [ii 0, ii (wq : Int), .ref 102, ii z1, ii rs, ii (a : Int), .ref 102, .ref 102]) dm_X12_each_151 rfl rfl rfl ?_
            refine pg_st (S' := [ii ((if vk w ≤ 1 then 0 else k : Nat) : Int), ii (wq : Int), .ref 102, ii z1, ii rs, ii (a : Int), .ref 102, .ref 102]) (congrArg (fun z => ii z :: [ii (wq : Int), .ref 102, ii z1, ii rs, ii (a : Int), .ref 102, .ref 102]) (by first | (exfalso; omega) | (rw [if_pos (by omega)]; rfl) | rw [if_neg (by omega)])) ?_
            refine x_cv (pc' := 159) (rest := [ii z1, ii rs, ii (a : Int), .ref 102, .ref 102]) dm_X12_each_156 rfl (q_inv (As := [ii (wq : Int), ii ((if vk w ≤ 1 then 0 else k : Nat) : Int)]) (S := [ii z1, ii rs, ii (a : Int), .ref 102, .ref 102]) hm rfl rfl rfl) rfl rfl rfl (hc1 t1 z1 hQ1) ?_
            rintro x2 g2 f2
            obtain ⟨t2, z2, rfl, rfl, hE2, hZ2, hQ2⟩ := f2
            refine x_cv (pc' := 162) (rest := [.ref 102]) dm_X12_each_159 rfl (q_inv (As := [ii (a : Int), ii rs, ii z1, ii z2]) (S := [.ref 102]) hm rfl rfl rfl) rfl rfl rfl (hQ2.2) ?_
            rintro x3 g3 f3
            obtain ⟨t3, z3, rfl, rfl, hE3, hZ3, hQ3⟩ := f3
            obtain ⟨w1, hw1, hw1b⟩ := hw2 t3 z3 hQ3
            refine x_cn (pc' := 165) (rest := []) dm_X12_each_162 rfl (q_inv (As := [ii z3]) (S := []) hm rfl rfl rfl) rfl rfl rfl (r_push_ (s := t3) (n := w1) hm (by omega) hw1 (by omega)) ?_
            rintro _ rfl
            refine y_iinc (pc' := 168) (L' := [(9, ii (((k : Nat) : Int) + 1)), (0, .ref 102), (1, ii (a : Int)), (2, ii rs), (3, ii (lq : Int)), (4, ii (wq : Int)), (5, ii p), (7, ii ((n : Nat) : Int)), (8, ii b)]) dm_X12_each_165 (y_incp (a := ((k : Nat) : Int)) (c := 1) rfl rfl (by decide)) rfl ?_
            refine me2 (pc' := 93) (S' := []) dm_X12_each_168 rfl rfl rfl ?_
            exact pg_sub (L := [(0, .ref 102), (1, ii (a : Int)), (2, ii rs), (3, ii (lq : Int)), (4, ii (wq : Int)), (5, ii p), (7, ii ((n : Nat) : Int)), (8, ii b), (9, ii (((k + 1) : Nat) : Int))]) rfl rfl rfl (kk t3 z3 w1 hQ3 hw1)
      · exfalso; omega
theorem dm_X12_each_171 : mj_dec prog_14_method_110_code 171 = some (.aload_n 0, 1) := by decide +kernel
theorem dm_X12_each_172 : mj_dec prog_14_method_110_code 172 = some (.iload 8, 2) := by decide +kernel
theorem dm_X12_each_174 : mj_dec prog_14_method_110_code 174 = some (.iload 5, 2) := by decide +kernel
theorem dm_X12_each_176 : mj_dec prog_14_method_110_code 176 = some (.invokevirtual 560, 3) := by decide +kernel
theorem dm_X12_each_179 : mj_dec prog_14_method_110_code 179 = some (.ireturn, 1) := by decide +kernel
theorem e_end {xt : mj_X} {d : Nat} {pre post : mj_H} {t : RS} {P : Option Value → mj_H → Prop} (hm : pre.length = 102) {a wq n k : Nat} {rs p b lz : Int} (hk2 : k ≤ 1000 ∧ n ≤ 1000) (h5 : t.1 5 = 0) (hkn : n ≤ k) {Q1 : RS → Int → Prop} (hc : pgV xt d 244 [.ref 102, ii b, ii p] (rS pre post t) (RA pre post Q1)) (kk : ∀ u y, Q1 u y → P (some (ii y)) (rS pre post u)) : HE xt d pre post t a wq n k rs lz p b P := by
  refine me1 (pc' := 95) (L' := [(0, .ref 102), (1, ii (a : Int)), (2, ii rs), (3, ii lz), (4, ii (wq : Int)), (5, ii p), (7, ii ((n : Nat) : Int)), (8, ii b), (9, ii ((k : Nat) : Int))]) (S' := [ii ((k : Nat) : Int)]) dm_X12_each_93 rfl rfl rfl rfl ?_
  refine me1 (pc' := 97) (L' := [(0, .ref 102), (1, ii (a : Int)), (2, ii rs), (3, ii lz), (4, ii (wq : Int)), (5, ii p), (7, ii ((n : Nat) : Int)), (8, ii b), (9, ii ((k : Nat) : Int))]) (S' := [ii ((n : Nat) : Int), ii ((k : Nat) : Int)]) dm_X12_each_95 rfl rfl rfl rfl ?_
  refine y_2ge (a := ((k : Nat) : Int)) (b := ((n : Nat) : Int)) (t := 171) (pc' := 100) dm_X12_each_97 rfl rfl (by omega) (fun hb1 => ?_) (fun hb1 => ?_)
  · refine me1 (pc' := 172) (L' := [(0, .ref 102), (1, ii (a : Int)), (2, ii rs), (3, ii lz), (4, ii (wq : Int)), (5, ii p), (7, ii ((n : Nat) : Int)), (8, ii b), (9, ii ((k : Nat) : Int))]) (S' := [.ref 102]) dm_X12_each_171 rfl rfl rfl rfl ?_
    refine me1 (pc' := 174) (L' := [(0, .ref 102), (1, ii (a : Int)), (2, ii rs), (3, ii lz), (4, ii (wq : Int)), (5, ii p), (7, ii ((n : Nat) : Int)), (8, ii b), (9, ii ((k : Nat) : Int))]) (S' := [ii b, .ref 102]) dm_X12_each_172 rfl rfl rfl rfl ?_
    refine me1 (pc' := 176) (L' := [(0, .ref 102), (1, ii (a : Int)), (2, ii rs), (3, ii lz), (4, ii (wq : Int)), (5, ii p), (7, ii ((n : Nat) : Int)), (8, ii b), (9, ii ((k : Nat) : Int))]) (S' := [ii p, ii b, .ref 102]) dm_X12_each_174 rfl rfl rfl rfl ?_
    refine x_cv (pc' := 179) (rest := []) dm_X12_each_176 rfl (q_inv (As := [ii b, ii p]) (S := []) hm rfl rfl rfl) rfl rfl rfl (hc) ?_
    rintro x1 g1 f1
    obtain ⟨t1, z1, rfl, rfl, hE1, hZ1, hQ1⟩ := f1
    refine y_ret (r := some (ii z1)) dm_X12_each_179 rfl rfl rfl ?_
    exact kk _ _ hQ1
  · exfalso; omega
theorem e_err {xt : mj_X} {d : Nat} {pre post : mj_H} {t : RS} {P : Option Value → mj_H → Prop} (hm : pre.length = 102) {a wq n k : Nat} {rs p b lz : Int} (hk2 : k ≤ 1000 ∧ n ≤ 1000) (h5 : 0 < t.1 5 ∧ t.1 5 ≤ 100) {Q1 : RS → Int → Prop} (hc : pgV xt d 244 [.ref 102, ii b, ii p] (rS pre post t) (RA pre post Q1)) (kk : ∀ u y, Q1 u y → P (some (ii y)) (rS pre post u)) : HE xt d pre post t a wq n k rs lz p b P := by
  refine me1 (pc' := 95) (L' := [(0, .ref 102), (1, ii (a : Int)), (2, ii rs), (3, ii lz), (4, ii (wq : Int)), (5, ii p), (7, ii ((n : Nat) : Int)), (8, ii b), (9, ii ((k : Nat) : Int))]) (S' := [ii ((k : Nat) : Int)]) dm_X12_each_93 rfl rfl rfl rfl ?_
  refine me1 (pc' := 97) (L' := [(0, .ref 102), (1, ii (a : Int)), (2, ii rs), (3, ii lz), (4, ii (wq : Int)), (5, ii p), (7, ii ((n : Nat) : Int)), (8, ii b), (9, ii ((k : Nat) : Int))]) (S' := [ii ((n : Nat) : Int), ii ((k : Nat) : Int)]) dm_X12_each_95 rfl rfl rfl rfl ?_
  refine y_2ge (a := ((k : Nat) : Int)) (b := ((n : Nat) : Int)) (t := 171) (pc' := 100) dm_X12_each_97 rfl rfl (by omega) (fun hb1 => ?_) (fun hb1 => ?_)
  · refine me1 (pc' := 172) (L' := [(0, .ref 102), (1, ii (a : Int)), (2, ii rs), (3, ii lz), (4, ii (wq : Int)), (5, ii p), (7, ii ((n : Nat) : Int)), (8, ii b), (9, ii ((k : Nat) : Int))]) (S' := [.ref 102]) dm_X12_each_171 rfl rfl rfl rfl ?_
    refine me1 (pc' := 174) (L' := [(0, .ref 102), (1, ii (a : Int)), (2, ii rs), (3, ii lz), (4, ii (wq : Int)), (5, ii p), (7, ii ((n : Nat) : Int)), (8, ii b), (9, ii ((k : Nat) : Int))]) (S' := [ii b, .ref 102]) dm_X12_each_172 rfl rfl rfl rfl ?_
    refine me1 (pc' := 176) (L' := [(0, .ref 102), (1, ii (a : Int)), (2, ii rs), (3, ii lz), (4, ii (wq : Int)), (5, ii p), (7, ii ((n : Nat) : Int)), (8, ii b), (9, ii ((k : Nat) : Int))]) (S' := [ii p, ii b, .ref 102]) dm_X12_each_174 rfl rfl rfl rfl ?_
    refine x_cv (pc' := 179) (rest := []) dm_X12_each_176 rfl (q_inv (As := [ii b, ii p]) (S := []) hm rfl rfl rfl) rfl rfl rfl (hc) ?_
    rintro x1 g1 f1
    obtain ⟨t1, z1, rfl, rfl, hE1, hZ1, hQ1⟩ := f1
    refine y_ret (r := some (ii z1)) dm_X12_each_179 rfl rfl rfl ?_
    exact kk _ _ hQ1
  · refine me1 (pc' := 101) (L' := [(0, .ref 102), (1, ii (a : Int)), (2, ii rs), (3, ii lz), (4, ii (wq : Int)), (5, ii p), (7, ii ((n : Nat) : Int)), (8, ii b), (9, ii ((k : Nat) : Int))]) (S' := [.ref 102]) dm_X12_each_100 rfl rfl rfl rfl ?_
    refine me3 (pc' := 104) (S' := [ii (t.1 5)]) dm_X12_each_101 (q_geti (v := t.1 5) hm rfl (fun m i l => rg_5 m i l) rfl) rfl rfl rfl ?_
    refine y_1ne (a := t.1 5) (t := 171) (pc' := 107) dm_X12_each_104 rfl rfl (by omega) (fun hb2 => ?_) (fun hb2 => ?_)
    · refine me1 (pc' := 172) (L' := [(0, .ref 102), (1, ii (a : Int)), (2, ii rs), (3, ii lz), (4, ii (wq : Int)), (5, ii p), (7, ii ((n : Nat) : Int)), (8, ii b), (9, ii ((k : Nat) : Int))]) (S' := [.ref 102]) dm_X12_each_171 rfl rfl rfl rfl ?_
      refine me1 (pc' := 174) (L' := [(0, .ref 102), (1, ii (a : Int)), (2, ii rs), (3, ii lz), (4, ii (wq : Int)), (5, ii p), (7, ii ((n : Nat) : Int)), (8, ii b), (9, ii ((k : Nat) : Int))]) (S' := [ii b, .ref 102]) dm_X12_each_172 rfl rfl rfl rfl ?_
      refine me1 (pc' := 176) (L' := [(0, .ref 102), (1, ii (a : Int)), (2, ii rs), (3, ii lz), (4, ii (wq : Int)), (5, ii p), (7, ii ((n : Nat) : Int)), (8, ii b), (9, ii ((k : Nat) : Int))]) (S' := [ii p, ii b, .ref 102]) dm_X12_each_174 rfl rfl rfl rfl ?_
      refine x_cv (pc' := 179) (rest := []) dm_X12_each_176 rfl (q_inv (As := [ii b, ii p]) (S := []) hm rfl rfl rfl) rfl rfl rfl (hc) ?_
      rintro x1 g1 f1
      obtain ⟨t1, z1, rfl, rfl, hE1, hZ1, hQ1⟩ := f1
      refine y_ret (r := some (ii z1)) dm_X12_each_179 rfl rfl rfl ?_
      exact kk _ _ hQ1
    · exfalso; omega
abbrev HF (xt : mj_X) (d : Nat) (pre post : mj_H) (t : RS) (a wq k : Nat) (rs rn p b v : Int) (P : Option Value → mj_H → Prop) : Prop := pgE xt d 12 10 false (Option.some Jvm.ClassFile.FieldType.int) (mj_dec prog_14_method_109_code) 66 [(0, .ref 102), (1, ii (a : Int)), (2, ii rs), (4, ii (wq : Int)), (5, ii rn), (6, ii p), (7, ii b), (8, ii v), (9, ii ((k : Nat) : Int))] [] (rI pre post t.1 t.2.1 t.2.2.1 t.2.2.2) (P)
set_option maxRecDepth 20000 in
theorem pm_X12_folded : mj_mmof pg_ms 299 = some ((⟨"ArrayCalculatorModel", "folded", "(IIIIZI)I"⟩, prog_14_method_109_code, 10, (Option.some Jvm.ClassFile.FieldType.int)), 12, false, mj_dec prog_14_method_109_code) := rfl
theorem dm_X12_folded_0 : mj_dec prog_14_method_109_code 0 = some (.iload_n 3, 1) := by decide +kernel
theorem dm_X12_folded_1 : mj_dec prog_14_method_109_code 1 = some (.ifCond .ge 20, 3) := by decide +kernel
theorem dm_X12_folded_4 : mj_dec prog_14_method_109_code 4 = some (.aload_n 0, 1) := by decide +kernel
theorem dm_X12_folded_5 : mj_dec prog_14_method_109_code 5 = some (.iload 4, 2) := by decide +kernel
theorem dm_X12_folded_7 : mj_dec prog_14_method_109_code 7 = some (.invokevirtual 134, 3) := by decide +kernel
theorem dm_X12_folded_10 : mj_dec prog_14_method_109_code 10 = some (.ifCond .ne 11, 3) := by decide +kernel
theorem dm_X12_folded_13 : mj_dec prog_14_method_109_code 13 = some (.aload_n 0, 1) := by decide +kernel
theorem dm_X12_folded_14 : mj_dec prog_14_method_109_code 14 = some (.iconst 4, 1) := by decide +kernel
theorem dm_X12_folded_15 : mj_dec prog_14_method_109_code 15 = some (.iload 6, 2) := by decide +kernel
theorem dm_X12_folded_17 : mj_dec prog_14_method_109_code 17 = some (.invokevirtual 190, 3) := by decide +kernel
theorem dm_X12_folded_20 : mj_dec prog_14_method_109_code 20 = some (.ireturn, 1) := by decide +kernel
theorem f_e4 {xt : mj_X} {d : Nat} {pre post : mj_H} {t : RS} (hm : pre.length = 102) (hd1 : 1 ≤ d) {a wq : Nat} {rs p : Int} {w : VV} {Q : RS → Int → Prop} (hd2 : 3 ≤ d) (hLw : wq < 310000) (hvw : rv t 7 wq w) (hmw : vm w ≤ 120) {rn : Int} (h5 : t.1 5 = 0) (hca : 0 ≤ t.1 10 ∧ t.1 10 ≤ 100) (h0 : vm w = 0) (k : Q (failS t 4 p) (-1)) : pgV xt d 299 [.ref 102, ii (a : Int), ii rs, ii (-1), ii (wq : Int), ii rn, ii p] (rS pre post t) (RA pre post Q) := by
  refine x_enter pm_X12_folded (L0 := [(0, .ref 102), (1, ii (a : Int)), (2, ii rs), (3, ii (-1)), (4, ii (wq : Int)), (5, ii rn), (6, ii p)]) rfl (Nat.le_of_ble_eq_true rfl) (by omega) ?_
  refine me1 (pc' := 1) (L' := [(0, .ref 102), (1, ii (a : Int)), (2, ii rs), (3, ii (-1)), (4, ii (wq : Int)), (5, ii rn), (6, ii p)]) (S' := [ii (-1)]) dm_X12_folded_0 rfl rfl rfl rfl ?_
  refine me_1f (pc' := 4) dm_X12_folded_1 rfl (by decide) rfl ?_
  refine me1 (pc' := 5) (L' := [(0, .ref 102), (1, ii (a : Int)), (2, ii rs), (3, ii (-1)), (4, ii (wq : Int)), (5, ii rn), (6, ii p)]) (S' := [.ref 102]) dm_X12_folded_4 rfl rfl rfl rfl ?_
  refine me1 (pc' := 7) (L' := [(0, .ref 102), (1, ii (a : Int)), (2, ii rs), (3, ii (-1)), (4, ii (wq : Int)), (5, ii rn), (6, ii p)]) (S' := [ii (wq : Int), .ref 102]) dm_X12_folded_5 rfl rfl rfl rfl ?_
  refine x_cp (pc' := 10) (v := ii (vm w : Int)) (rest := []) dm_X12_folded_7 rfl (q_inv (As := [ii (wq : Int)]) (S := []) hm rfl rfl rfl) rfl rfl rfl (r_manyL (e := 6) hm (by omega) hLw hvw) ?_
  refine y_1ne (a := (vm w : Int)) (t := 21) (pc' := 13) dm_X12_folded_10 rfl rfl (by omega) (fun hb1 => ?_) (fun hb1 => ?_)
  · exfalso; omega
  · refine me1 (pc' := 14) (L' := [(0, .ref 102), (1, ii (a : Int)), (2, ii rs), (3, ii (-1)), (4, ii (wq : Int)), (5, ii rn), (6, ii p)]) (S' := [.ref 102]) dm_X12_folded_13 rfl rfl rfl rfl ?_
    refine me0 (pc' := 15) (S' := [ii 4, .ref 102]) dm_X12_folded_14 rfl rfl rfl rfl ?_
    refine me1 (pc' := 17) (L' := [(0, .ref 102), (1, ii (a : Int)), (2, ii rs), (3, ii (-1)), (4, ii (wq : Int)), (5, ii rn), (6, ii p)]) (S' := [ii p, ii 4, .ref 102]) dm_X12_folded_15 rfl rfl rfl rfl ?_
    refine x_cv (pc' := 20) (rest := []) dm_X12_folded_17 rfl (q_inv (As := [ii 4, ii p]) (S := []) hm rfl rfl rfl) rfl rfl rfl (r_fail_ (s := t) hm (by omega) h5 hca.1 hca.2) ?_
    rintro _ _ ⟨rfl, rfl⟩
    refine y_ret (r := some (ii (-1))) dm_X12_folded_20 rfl rfl rfl ?_
    exact ⟨_, rfl, _, _, rfl, rfl, by rw [failS_5]; decide, by omega, k⟩
theorem dm_X12_folded_21 : mj_dec prog_14_method_109_code 21 = some (.aload_n 0, 1) := by decide +kernel
theorem dm_X12_folded_22 : mj_dec prog_14_method_109_code 22 = some (.getfield 202, 3) := by decide +kernel
theorem dm_X12_folded_25 : mj_dec prog_14_method_109_code 25 = some (.istore 7, 2) := by decide +kernel
theorem dm_X12_folded_27 : mj_dec prog_14_method_109_code 27 = some (.iload_n 3, 1) := by decide +kernel
theorem dm_X12_folded_28 : mj_dec prog_14_method_109_code 28 = some (.ifCond .ge 13, 3) := by decide +kernel
theorem dm_X12_folded_31 : mj_dec prog_14_method_109_code 31 = some (.aload_n 0, 1) := by decide +kernel
theorem dm_X12_folded_32 : mj_dec prog_14_method_109_code 32 = some (.iload 4, 2) := by decide +kernel
theorem dm_X12_folded_34 : mj_dec prog_14_method_109_code 34 = some (.iconst 0, 1) := by decide +kernel
theorem dm_X12_folded_35 : mj_dec prog_14_method_109_code 35 = some (.invokevirtual 217, 3) := by decide +kernel
theorem dm_X12_folded_38 : mj_dec prog_14_method_109_code 38 = some (.goto 4, 3) := by decide +kernel
theorem dm_X12_folded_42 : mj_dec prog_14_method_109_code 42 = some (.istore 8, 2) := by decide +kernel
theorem dm_X12_folded_44 : mj_dec prog_14_method_109_code 44 = some (.iload 5, 2) := by decide +kernel
theorem dm_X12_folded_46 : mj_dec prog_14_method_109_code 46 = some (.ifCond .eq 9, 3) := by decide +kernel
theorem dm_X12_folded_55 : mj_dec prog_14_method_109_code 55 = some (.iload_n 3, 1) := by decide +kernel
theorem dm_X12_folded_56 : mj_dec prog_14_method_109_code 56 = some (.ifCond .ge 7, 3) := by decide +kernel
theorem dm_X12_folded_59 : mj_dec prog_14_method_109_code 59 = some (.iconst 1, 1) := by decide +kernel
theorem dm_X12_folded_60 : mj_dec prog_14_method_109_code 60 = some (.goto 4, 3) := by decide +kernel
theorem dm_X12_folded_64 : mj_dec prog_14_method_109_code 64 = some (.istore 9, 2) := by decide +kernel
theorem f_startA0 {xt : mj_X} {d : Nat} {pre post : mj_H} {t : RS} (hm : pre.length = 102) (hd1 : 1 ≤ d) {a wq : Nat} {rs p : Int} {w : VV} {Q : RS → Int → Prop} (hd2 : 3 ≤ d) (hLw : wq < 310000) (hvw : rv t 7 wq w) (hmw : vm w ≤ 120) (h0 : vm w ≠ 0) {Q1 : RS → Int → Prop} (hc : pgV xt (d - 1) 261 [.ref 102, ii (wq : Int), ii 0] (rS pre post t) (RA pre post Q1)) (k : ∀ u y, Q1 u y → HF xt (d - 1) pre post u a wq 1 rs 0 p (t.1 13) y (fun r h' => ∃ x, r = some x ∧ RA pre post Q x h')) : pgV xt d 299 [.ref 102, ii (a : Int), ii rs, ii (-1), ii (wq : Int), ii 0, ii p] (rS pre post t) (RA pre post Q) := by
  refine x_enter pm_X12_folded (L0 := [(0, .ref 102), (1, ii (a : Int)), (2, ii rs), (3, ii (-1)), (4, ii (wq : Int)), (5, ii 0), (6, ii p)]) rfl (Nat.le_of_ble_eq_true rfl) (by omega) ?_
  refine me1 (pc' := 1) (L' := [(0, .ref 102), (1, ii (a : Int)), (2, ii rs), (3, ii (-1)), (4, ii (wq : Int)), (5, ii 0), (6, ii p)]) (S' := [ii (-1)]) dm_X12_folded_0 rfl rfl rfl rfl ?_
  refine me_1f (pc' := 4) dm_X12_folded_1 rfl (by decide) rfl ?_
  refine me1 (pc' := 5) (L' := [(0, .ref 102), (1, ii (a : Int)), (2, ii rs), (3, ii (-1)), (4, ii (wq : Int)), (5, ii 0), (6, ii p)]) (S' := [.ref 102]) dm_X12_folded_4 rfl rfl rfl rfl ?_
  refine me1 (pc' := 7) (L' := [(0, .ref 102), (1, ii (a : Int)), (2, ii rs), (3, ii (-1)), (4, ii (wq : Int)), (5, ii 0), (6, ii p)]) (S' := [ii (wq : Int), .ref 102]) dm_X12_folded_5 rfl rfl rfl rfl ?_
  refine x_cp (pc' := 10) (v := ii (vm w : Int)) (rest := []) dm_X12_folded_7 rfl (q_inv (As := [ii (wq : Int)]) (S := []) hm rfl rfl rfl) rfl rfl rfl (r_manyL (e := 6) hm (by omega) hLw hvw) ?_
  refine y_1ne (a := (vm w : Int)) (t := 21) (pc' := 13) dm_X12_folded_10 rfl rfl (by omega) (fun hb1 => ?_) (fun hb1 => ?_)
  · refine me1 (pc' := 22) (L' := [(0, .ref 102), (1, ii (a : Int)), (2, ii rs), (3, ii (-1)), (4, ii (wq : Int)), (5, ii 0), (6, ii p)]) (S' := [.ref 102]) dm_X12_folded_21 rfl rfl rfl rfl ?_
    refine me3 (pc' := 25) (S' := [ii (t.1 13)]) dm_X12_folded_22 (q_geti (v := t.1 13) hm rfl (fun m i l => rg_13 m i l) rfl) rfl rfl rfl ?_
    refine me1 (pc' := 27) (L' := [(7, ii (t.1 13)), (0, .ref 102), (1, ii (a : Int)), (2, ii rs), (3, ii (-1)), (4, ii (wq : Int)), (5, ii 0), (6, ii p)]) (S' := []) dm_X12_folded_25 rfl rfl rfl rfl ?_
    refine me1 (pc' := 28) (L' := [(7, ii (t.1 13)), (0, .ref 102), (1, ii (a : Int)), (2, ii rs), (3, ii (-1)), (4, ii (wq : Int)), (5, ii 0), (6, ii p)]) (S' := [ii (-1)]) dm_X12_folded_27 rfl rfl rfl rfl ?_
    refine me_1f (pc' := 31) dm_X12_folded_28 rfl (by decide) rfl ?_
    refine me1 (pc' := 32) (L' := [(7, ii (t.1 13)), (0, .ref 102), (1, ii (a : Int)), (2, ii rs), (3, ii (-1)), (4, ii (wq : Int)), (5, ii 0), (6, ii p)]) (S' := [.ref 102]) dm_X12_folded_31 rfl rfl rfl rfl ?_
    refine me1 (pc' := 34) (L' := [(7, ii (t.1 13)), (0, .ref 102), (1, ii (a : Int)), (2, ii rs), (3, ii (-1)), (4, ii (wq : Int)), (5, ii 0), (6, ii p)]) (S' := [ii (wq : Int), .ref 102]) dm_X12_folded_32 rfl rfl rfl rfl ?_
    refine me0 (pc' := 35) (S' := [ii 0, ii (wq : Int), .ref 102]) dm_X12_folded_34 rfl rfl rfl rfl ?_
    refine x_cv (pc' := 38) (rest := []) dm_X12_folded_35 rfl (q_inv (As := [ii (wq : Int), ii 0]) (S := []) hm rfl rfl rfl) rfl rfl rfl (hc) ?_
    rintro x1 g1 f1
    obtain ⟨t1, z1, rfl, rfl, hE1, hZ1, hQ1⟩ := f1
    refine me2 (pc' := 42) (S' := [ii z1]) dm_X12_folded_38 rfl rfl rfl ?_
    refine me1 (pc' := 44) (L' := [(8, ii z1), (7, ii (t.1 13)), (0, .ref 102), (1, ii (a : Int)), (2, ii rs), (3, ii (-1)), (4, ii (wq : Int)), (5, ii 0), (6, ii p)]) (S' := []) dm_X12_folded_42 rfl rfl rfl rfl ?_
    refine me1 (pc' := 46) (L' := [(8, ii z1), (7, ii (t.1 13)), (0, .ref 102), (1, ii (a : Int)), (2, ii rs), (3, ii (-1)), (4, ii (wq : Int)), (5, ii 0), (6, ii p)]) (S' := [ii 0]) dm_X12_folded_44 rfl rfl rfl rfl ?_
    refine me_1t (pc' := 55) dm_X12_folded_46 rfl (by decide) ?_
    refine me1 (pc' := 56) (L' := [(8, ii z1), (7, ii (t.1 13)), (0, .ref 102), (1, ii (a : Int)), (2, ii rs), (3, ii (-1)), (4, ii (wq : Int)), (5, ii 0), (6, ii p)]) (S' := [ii (-1)]) dm_X12_folded_55 rfl rfl rfl rfl ?_
    refine me_1f (pc' := 59) dm_X12_folded_56 rfl (by decide) rfl ?_
    refine me0 (pc' := 60) (S' := [ii 1]) dm_X12_folded_59 rfl rfl rfl rfl ?_
    refine me2 (pc' := 64) (S' := [ii 1]) dm_X12_folded_60 rfl rfl rfl ?_
    refine me1 (pc' := 66) (L' := [(9, ii 1), (8, ii z1), (7, ii (t.1 13)), (0, .ref 102), (1, ii (a : Int)), (2, ii rs), (3, ii (-1)), (4, ii (wq : Int)), (5, ii 0), (6, ii p)]) (S' := []) dm_X12_folded_64 rfl rfl rfl rfl ?_
    exact pg_sub (L := [(0, .ref 102), (1, ii (a : Int)), (2, ii rs), (4, ii (wq : Int)), (5, ii 0), (6, ii p), (7, ii (t.1 13)), (8, ii z1), (9, ii ((1 : Nat) : Int))]) rfl rfl rfl (k t1 z1 hQ1)
  · exfalso; omega
theorem dm_X12_folded_41 : mj_dec prog_14_method_109_code 41 = some (.iload_n 3, 1) := by decide +kernel
theorem dm_X12_folded_63 : mj_dec prog_14_method_109_code 63 = some (.iconst 0, 1) := by decide +kernel
theorem f_startB0 {xt : mj_X} {d : Nat} {pre post : mj_H} {t : RS} (hm : pre.length = 102) (hd1 : 1 ≤ d) {a wq : Nat} {rs p : Int} {w : VV} {Q : RS → Int → Prop} (hd2 : 3 ≤ d) (hLw : wq < 310000) (hvw : rv t 7 wq w) (hmw : vm w ≤ 120) {lq w1 : Nat} (hLq : lq < 310000) (hw1 : t.1 13 = (w1 : Int)) (hw1b : w1 < 8192) (k : HF xt (d - 1) pre post t a wq 0 rs 0 p (t.1 13) (lq : Int) (fun r h' => ∃ x, r = some x ∧ RA pre post Q x h')) : pgV xt d 299 [.ref 102, ii (a : Int), ii rs, ii (lq : Int), ii (wq : Int), ii 0, ii p] (rS pre post t) (RA pre post Q) := by
  refine x_enter pm_X12_folded (L0 := [(0, .ref 102), (1, ii (a : Int)), (2, ii rs), (3, ii (lq : Int)), (4, ii (wq : Int)), (5, ii 0), (6, ii p)]) rfl (Nat.le_of_ble_eq_true rfl) (by omega) ?_
  refine me1 (pc' := 1) (L' := [(0, .ref 102), (1, ii (a : Int)), (2, ii rs), (3, ii (lq : Int)), (4, ii (wq : Int)), (5, ii 0), (6, ii p)]) (S' := [ii (lq : Int)]) dm_X12_folded_0 rfl rfl rfl rfl ?_
  refine y_1ge (a := (lq : Int)) (t := 21) (pc' := 4) dm_X12_folded_1 rfl rfl (by omega) (fun hb1 => ?_) (fun hb1 => ?_)
  · refine me1 (pc' := 22) (L' := [(0, .ref 102), (1, ii (a : Int)), (2, ii rs), (3, ii (lq : Int)), (4, ii (wq : Int)), (5, ii 0), (6, ii p)]) (S' := [.ref 102]) dm_X12_folded_21 rfl rfl rfl rfl ?_
    refine me3 (pc' := 25) (S' := [ii (t.1 13)]) dm_X12_folded_22 (q_geti (v := t.1 13) hm rfl (fun m i l => rg_13 m i l) rfl) rfl rfl rfl ?_
    refine me1 (pc' := 27) (L' := [(7, ii (t.1 13)), (0, .ref 102), (1, ii (a : Int)), (2, ii rs), (3, ii (lq : Int)), (4, ii (wq : Int)), (5, ii 0), (6, ii p)]) (S' := []) dm_X12_folded_25 rfl rfl rfl rfl ?_
    refine me1 (pc' := 28) (L' := [(7, ii (t.1 13)), (0, .ref 102), (1, ii (a : Int)), (2, ii rs), (3, ii (lq : Int)), (4, ii (wq : Int)), (5, ii 0), (6, ii p)]) (S' := [ii (lq : Int)]) dm_X12_folded_27 rfl rfl rfl rfl ?_
    refine y_1ge (a := (lq : Int)) (t := 41) (pc' := 31) dm_X12_folded_28 rfl rfl (by omega) (fun hb2 => ?_) (fun hb2 => ?_)
    · refine me1 (pc' := 42) (L' := [(7, ii (t.1 13)), (0, .ref 102), (1, ii (a : Int)), (2, ii rs), (3, ii (lq : Int)), (4, ii (wq : Int)), (5, ii 0), (6, ii p)]) (S' := [ii (lq : Int)]) dm_X12_folded_41 rfl rfl rfl rfl ?_
      refine me1 (pc' := 44) (L' := [(8, ii (lq : Int)), (7, ii (t.1 13)), (0, .ref 102), (1, ii (a : Int)), (2, ii rs), (3, ii (lq : Int)), (4, ii (wq : Int)), (5, ii 0), (6, ii p)]) (S' := []) dm_X12_folded_42 rfl rfl rfl rfl ?_
      refine me1 (pc' := 46) (L' := [(8, ii (lq : Int)), (7, ii (t.1 13)), (0, .ref 102), (1, ii (a : Int)), (2, ii rs), (3, ii (lq : Int)), (4, ii (wq : Int)), (5, ii 0), (6, ii p)]) (S' := [ii 0]) dm_X12_folded_44 rfl rfl rfl rfl ?_
      refine me_1t (pc' := 55) dm_X12_folded_46 rfl (by decide) ?_
      refine me1 (pc' := 56) (L' := [(8, ii (lq : Int)), (7, ii (t.1 13)), (0, .ref 102), (1, ii (a : Int)), (2, ii rs), (3, ii (lq : Int)), (4, ii (wq : Int)), (5, ii 0), (6, ii p)]) (S' := [ii (lq : Int)]) dm_X12_folded_55 rfl rfl rfl rfl ?_
      refine y_1ge (a := (lq : Int)) (t := 63) (pc' := 59) dm_X12_folded_56 rfl rfl (by omega) (fun hb3 => ?_) (fun hb3 => ?_)
      · refine me0 (pc' := 64) (S' := [ii 0]) dm_X12_folded_63 rfl rfl rfl rfl ?_
        refine me1 (pc' := 66) (L' := [(9, ii 0), (8, ii (lq : Int)), (7, ii (t.1 13)), (0, .ref 102), (1, ii (a : Int)), (2, ii rs), (3, ii (lq : Int)), (4, ii (wq : Int)), (5, ii 0), (6, ii p)]) (S' := []) dm_X12_folded_64 rfl rfl rfl rfl ?_
        exact pg_sub (L := [(0, .ref 102), (1, ii (a : Int)), (2, ii rs), (4, ii (wq : Int)), (5, ii 0), (6, ii p), (7, ii (t.1 13)), (8, ii (lq : Int)), (9, ii ((0 : Nat) : Int))]) rfl rfl rfl (k)
      · exfalso; omega
    · exfalso; omega
  · exfalso; omega
theorem dm_X12_folded_66 : mj_dec prog_14_method_109_code 66 = some (.iload 9, 2) := by decide +kernel
theorem dm_X12_folded_68 : mj_dec prog_14_method_109_code 68 = some (.aload_n 0, 1) := by decide +kernel
theorem dm_X12_folded_69 : mj_dec prog_14_method_109_code 69 = some (.iload 4, 2) := by decide +kernel
theorem dm_X12_folded_71 : mj_dec prog_14_method_109_code 71 = some (.invokevirtual 134, 3) := by decide +kernel
theorem dm_X12_folded_74 : mj_dec prog_14_method_109_code 74 = some (.if_icmp .ge 45, 3) := by decide +kernel
theorem dm_X12_folded_77 : mj_dec prog_14_method_109_code 77 = some (.aload_n 0, 1) := by decide +kernel
theorem dm_X12_folded_78 : mj_dec prog_14_method_109_code 78 = some (.getfield 181, 3) := by decide +kernel
theorem dm_X12_folded_81 : mj_dec prog_14_method_109_code 81 = some (.ifCond .ne 38, 3) := by decide +kernel
theorem dm_X12_folded_84 : mj_dec prog_14_method_109_code 84 = some (.aload_n 0, 1) := by decide +kernel
theorem dm_X12_folded_85 : mj_dec prog_14_method_109_code 85 = some (.iload_n 1, 1) := by decide +kernel
theorem dm_X12_folded_86 : mj_dec prog_14_method_109_code 86 = some (.iload_n 2, 1) := by decide +kernel
theorem dm_X12_folded_87 : mj_dec prog_14_method_109_code 87 = some (.iload 8, 2) := by decide +kernel
theorem dm_X12_folded_89 : mj_dec prog_14_method_109_code 89 = some (.aload_n 0, 1) := by decide +kernel
theorem dm_X12_folded_90 : mj_dec prog_14_method_109_code 90 = some (.iload 4, 2) := by decide +kernel
theorem dm_X12_folded_92 : mj_dec prog_14_method_109_code 92 = some (.iload 9, 2) := by decide +kernel
theorem dm_X12_folded_94 : mj_dec prog_14_method_109_code 94 = some (.invokevirtual 217, 3) := by decide +kernel
theorem dm_X12_folded_97 : mj_dec prog_14_method_109_code 97 = some (.invokevirtual 544, 3) := by decide +kernel
theorem dm_X12_folded_100 : mj_dec prog_14_method_109_code 100 = some (.istore 8, 2) := by decide +kernel
theorem dm_X12_folded_102 : mj_dec prog_14_method_109_code 102 = some (.iload 5, 2) := by decide +kernel
theorem dm_X12_folded_104 : mj_dec prog_14_method_109_code 104 = some (.ifCond .eq 9, 3) := by decide +kernel
theorem dm_X12_folded_113 : mj_dec prog_14_method_109_code 113 = some (.iinc 9 1, 3) := by decide +kernel
theorem dm_X12_folded_116 : mj_dec prog_14_method_109_code 116 = some (.goto (-50), 3) := by decide +kernel
theorem f_turn0 {xt : mj_X} {d : Nat} {pre post : mj_H} {t : RS} {P : Option Value → mj_H → Prop} (hm : pre.length = 102) {a wq k : Nat} {rs p b v : Int} {w : VV} (hd2 : 3 ≤ d) (hLw : wq < 310000) (hvw : rv t 7 wq w) (hmw : vm w ≤ 120) (h5 : t.1 5 = 0) (hkn : k < vm w) {Q1 Q2 : RS → Int → Prop} (hc1 : pgV xt d 261 [.ref 102, ii (wq : Int), ii ((k : Nat) : Int)] (rS pre post t) (RA pre post Q1)) (hc2 : ∀ u y, Q1 u y → pgV xt d 279 [.ref 102, ii (a : Int), ii rs, ii v, ii y] (rS pre post u) (RA pre post Q2)) (kk : ∀ u y, Q2 u y → HF xt d pre post u a wq (k + 1) rs 0 p b y P) : HF xt d pre post t a wq k rs 0 p b v P := by
  refine me1 (pc' := 68) (L' := [(0, .ref 102), (1, ii (a : Int)), (2, ii rs), (4, ii (wq : Int)), (5, ii 0), (6, ii p), (7, ii b), (8, ii v), (9, ii ((k : Nat) : Int))]) (S' := [ii ((k : Nat) : Int)]) dm_X12_folded_66 rfl rfl rfl rfl ?_
  refine me1 (pc' := 69) (L' := [(0, .ref 102), (1, ii (a : Int)), (2, ii rs), (4, ii (wq : Int)), (5, ii 0), (6, ii p), (7, ii b), (8, ii v), (9, ii ((k : Nat) : Int))]) (S' := [.ref 102, ii ((k : Nat) : Int)]) dm_X12_folded_68 rfl rfl rfl rfl ?_
  refine me1 (pc' := 71) (L' := [(0, .ref 102), (1, ii (a : Int)), (2, ii rs), (4, ii (wq : Int)), (5, ii 0), (6, ii p), (7, ii b), (8, ii v), (9, ii ((k : Nat) : Int))]) (S' := [ii (wq : Int), .ref 102, ii ((k : Nat) : Int)]) dm_X12_folded_69 rfl rfl rfl rfl ?_
  refine x_cp (pc' := 74) (v := ii (vm w : Int)) (rest := [ii ((k : Nat) : Int)]) dm_X12_folded_71 rfl (q_inv (As := [ii (wq : Int)]) (S := [ii ((k : Nat) : Int)]) hm rfl rfl rfl) rfl rfl rfl (r_manyL (e := 6) hm (by omega) hLw hvw) ?_
  refine y_2ge (a := ((k : Nat) : Int)) (b := (vm w : Int)) (t := 119) (pc' := 77) dm_X12_folded_74 rfl rfl (by omega) (fun hb1 => ?_) (fun hb1 => ?_)
  · exfalso; omega
  · refine me1 (pc' := 78) (L' := [(0, .ref 102), (1, ii (a : Int)), (2, ii rs), (4, ii (wq : Int)), (5, ii 0), (6, ii p), (7, ii b), (8, ii v), (9, ii ((k : Nat) : Int))]) (S' := [.ref 102]) dm_X12_folded_77 rfl rfl rfl rfl ?_
    refine me3 (pc' := 81) (S' := [ii (t.1 5)]) dm_X12_folded_78 (q_geti (v := t.1 5) hm rfl (fun m i l => rg_5 m i l) rfl) rfl rfl rfl ?_
    refine y_1ne (a := t.1 5) (t := 119) (pc' := 84) dm_X12_folded_81 rfl rfl (by omega) (fun hb2 => ?_) (fun hb2 => ?_)
    · exfalso; omega
    · refine me1 (pc' := 85) (L' := [(0, .ref 102), (1, ii (a : Int)), (2, ii rs), (4, ii (wq : Int)), (5, ii 0), (6, ii p), (7, ii b), (8, ii v), (9, ii ((k : Nat) : Int))]) (S' := [.ref 102]) dm_X12_folded_84 rfl rfl rfl rfl ?_
      refine me1 (pc' := 86) (L' := [(0, .ref 102), (1, ii (a : Int)), (2, ii rs), (4, ii (wq : Int)), (5, ii 0), (6, ii p), (7, ii b), (8, ii v), (9, ii ((k : Nat) : Int))]) (S' := [ii (a : Int), .ref 102]) dm_X12_folded_85 rfl rfl rfl rfl ?_
      refine me1 (pc' := 87) (L' := [(0, .ref 102), (1, ii (a : Int)), (2, ii rs), (4, ii (wq : Int)), (5, ii 0), (6, ii p), (7, ii b), (8, ii v), (9, ii ((k : Nat) : Int))]) (S' := [ii rs, ii (a : Int), .ref 102]) dm_X12_folded_86 rfl rfl rfl rfl ?_
      refine me1 (pc' := 89) (L' := [(0, .ref 102), (1, ii (a : Int)), (2, ii rs), (4, ii (wq : Int)), (5, ii 0), (6, ii p), (7, ii b), (8, ii v), (9, ii ((k : Nat) : Int))]) (S' := [ii v, ii rs, ii (a : Int), .ref 102]) dm_X12_folded_87 rfl rfl rfl rfl ?_
      refine me1 (pc' := 90) (L' := [(0, .ref 102), (1, ii (a : Int)), (2, ii rs), (4, ii (wq : Int)), (5, ii 0), (6, ii p), (7, ii b), (8, ii v), (9, ii ((k : Nat) : Int))]) (S' := [.ref 102, ii v, ii rs, ii (a : Int), .ref 102]) dm_X12_folded_89 rfl rfl rfl rfl ?_
      refine me1 (pc' := 92) (L' := [(0, .ref 102), (1, ii (a : Int)), (2, ii rs), (4, ii (wq : Int)), (5, ii 0), (6, ii p), (7, ii b), (8, ii v), (9, ii ((k : Nat) : Int))]) (S' := [ii (wq : Int), .ref 102, ii v, ii rs, ii (a : Int), .ref 102]) dm_X12_folded_90 rfl rfl rfl rfl ?_
      refine me1 (pc' := 94) (L' := [(0, .ref 102), (1, ii (a : Int)), (2, ii rs), (4, ii (wq : Int)), (5, ii 0), (6, ii p), (7, ii b), (8, ii v), (9, ii ((k : Nat) : Int))]) (S' := [ii ((k : Nat) : Int), ii (wq : Int), .ref 102, ii v, ii rs, ii (a : Int), .ref 102]) dm_X12_folded_92 rfl rfl rfl rfl ?_
      refine x_cv (pc' := 97) (rest := [ii v, ii rs, ii (a : Int), .ref 102]) dm_X12_folded_94 rfl (q_inv (As := [ii (wq : Int), ii ((k : Nat) : Int)]) (S := [ii v, ii rs, ii (a : Int), .ref 102]) hm rfl rfl rfl) rfl rfl rfl (hc1) ?_
      rintro x1 g1 f1
      obtain ⟨t1, z1, rfl, rfl, hE1, hZ1, hQ1⟩ := f1
      refine x_cv (pc' := 100) (rest := []) dm_X12_folded_97 rfl (q_inv (As := [ii (a : Int), ii rs, ii v, ii z1]) (S := []) hm rfl rfl rfl) rfl rfl rfl (hc2 t1 z1 hQ1) ?_
      rintro x2 g2 f2
      obtain ⟨t2, z2, rfl, rfl, hE2, hZ2, hQ2⟩ := f2
      refine me1 (pc' := 102) (L' := [(8, ii z2), (0, .ref 102), (1, ii (a : Int)), (2, ii rs), (4, ii (wq : Int)), (5, ii 0), (6, ii p), (7, ii b), (9, ii ((k : Nat) : Int))]) (S' := []) dm_X12_folded_100 rfl rfl rfl rfl ?_
      refine me1 (pc' := 104) (L' := [(8, ii z2), (0, .ref 102), (1, ii (a : Int)), (2, ii rs), (4, ii (wq : Int)), (5, ii 0), (6, ii p), (7, ii b), (9, ii ((k : Nat) : Int))]) (S' := [ii 0]) dm_X12_folded_102 rfl rfl rfl rfl ?_
      refine me_1t (pc' := 113) dm_X12_folded_104 rfl (by decide) ?_
      refine y_iinc (pc' := 116) (L' := [(9, ii (((k : Nat) : Int) + 1)), (8, ii z2), (0, .ref 102), (1, ii (a : Int)), (2, ii rs), (4, ii (wq : Int)), (5, ii 0), (6, ii p), (7, ii b)]) dm_X12_folded_113 (y_incp (a := ((k : Nat) : Int)) (c := 1) rfl rfl (by decide)) rfl ?_
      refine me2 (pc' := 66) (S' := []) dm_X12_folded_116 rfl rfl rfl ?_
      exact pg_sub (L := [(0, .ref 102), (1, ii (a : Int)), (2, ii rs), (4, ii (wq : Int)), (5, ii 0), (6, ii p), (7, ii b), (8, ii z2), (9, ii (((k + 1) : Nat) : Int))]) rfl rfl rfl (kk t2 z2 hQ2)
theorem dm_X12_folded_119 : mj_dec prog_14_method_109_code 119 = some (.aload_n 0, 1) := by decide +kernel
theorem dm_X12_folded_120 : mj_dec prog_14_method_109_code 120 = some (.getfield 181, 3) := by decide +kernel
theorem dm_X12_folded_123 : mj_dec prog_14_method_109_code 123 = some (.ifCond .le 7, 3) := by decide +kernel
theorem dm_X12_folded_126 : mj_dec prog_14_method_109_code 126 = some (.iconst (-1), 1) := by decide +kernel
theorem dm_X12_folded_127 : mj_dec prog_14_method_109_code 127 = some (.goto 21, 3) := by decide +kernel
theorem dm_X12_folded_148 : mj_dec prog_14_method_109_code 148 = some (.ireturn, 1) := by decide +kernel
theorem f_err0 {xt : mj_X} {d : Nat} {pre post : mj_H} {t : RS} {P : Option Value → mj_H → Prop} (hm : pre.length = 102) {a wq k : Nat} {rs p b v : Int} {w : VV} (hd2 : 3 ≤ d) (hLw : wq < 310000) (hvw : rv t 7 wq w) (hmw : vm w ≤ 120) (h5 : 0 < t.1 5 ∧ t.1 5 ≤ 100) (hk2 : k ≤ 1000) (kk : P (some (ii (-1))) (rS pre post t)) : HF xt d pre post t a wq k rs 0 p b v P := by
  refine me1 (pc' := 68) (L' := [(0, .ref 102), (1, ii (a : Int)), (2, ii rs), (4, ii (wq : Int)), (5, ii 0), (6, ii p), (7, ii b), (8, ii v), (9, ii ((k : Nat) : Int))]) (S' := [ii ((k : Nat) : Int)]) dm_X12_folded_66 rfl rfl rfl rfl ?_
  refine me1 (pc' := 69) (L' := [(0, .ref 102), (1, ii (a : Int)), (2, ii rs), (4, ii (wq : Int)), (5, ii 0), (6, ii p), (7, ii b), (8, ii v), (9, ii ((k : Nat) : Int))]) (S' := [.ref 102, ii ((k : Nat) : Int)]) dm_X12_folded_68 rfl rfl rfl rfl ?_
  refine me1 (pc' := 71) (L' := [(0, .ref 102), (1, ii (a : Int)), (2, ii rs), (4, ii (wq : Int)), (5, ii 0), (6, ii p), (7, ii b), (8, ii v), (9, ii ((k : Nat) : Int))]) (S' := [ii (wq : Int), .ref 102, ii ((k : Nat) : Int)]) dm_X12_folded_69 rfl rfl rfl rfl ?_
  refine x_cp (pc' := 74) (v := ii (vm w : Int)) (rest := [ii ((k : Nat) : Int)]) dm_X12_folded_71 rfl (q_inv (As := [ii (wq : Int)]) (S := [ii ((k : Nat) : Int)]) hm rfl rfl rfl) rfl rfl rfl (r_manyL (e := 6) hm (by omega) hLw hvw) ?_
  refine y_2ge (a := ((k : Nat) : Int)) (b := (vm w : Int)) (t := 119) (pc' := 77) dm_X12_folded_74 rfl rfl (by omega) (fun hb1 => ?_) (fun hb1 => ?_)
  · refine me1 (pc' := 120) (L' := [(0, .ref 102), (1, ii (a : Int)), (2, ii rs), (4, ii (wq : Int)), (5, ii 0), (6, ii p), (7, ii b), (8, ii v), (9, ii ((k : Nat) : Int))]) (S' := [.ref 102]) dm_X12_folded_119 rfl rfl rfl rfl ?_
    refine me3 (pc' := 123) (S' := [ii (t.1 5)]) dm_X12_folded_120 (q_geti (v := t.1 5) hm rfl (fun m i l => rg_5 m i l) rfl) rfl rfl rfl ?_
    refine y_1le (a := t.1 5) (t := 130) (pc' := 126) dm_X12_folded_123 rfl rfl (by omega) (fun hb2 => ?_) (fun hb2 => ?_)
    · exfalso; omega
    · refine me0 (pc' := 127) (S' := [ii (-1)]) dm_X12_folded_126 rfl rfl rfl rfl ?_
      refine me2 (pc' := 148) (S' := [ii (-1)]) dm_X12_folded_127 rfl rfl rfl ?_
      refine y_ret (r := some (ii (-1))) dm_X12_folded_148 rfl rfl rfl ?_
      exact kk
  · refine me1 (pc' := 78) (L' := [(0, .ref 102), (1, ii (a : Int)), (2, ii rs), (4, ii (wq : Int)), (5, ii 0), (6, ii p), (7, ii b), (8, ii v), (9, ii ((k : Nat) : Int))]) (S' := [.ref 102]) dm_X12_folded_77 rfl rfl rfl rfl ?_
    refine me3 (pc' := 81) (S' := [ii (t.1 5)]) dm_X12_folded_78 (q_geti (v := t.1 5) hm rfl (fun m i l => rg_5 m i l) rfl) rfl rfl rfl ?_
    refine y_1ne (a := t.1 5) (t := 119) (pc' := 84) dm_X12_folded_81 rfl rfl (by omega) (fun hb3 => ?_) (fun hb3 => ?_)
    · refine me1 (pc' := 120) (L' := [(0, .ref 102), (1, ii (a : Int)), (2, ii rs), (4, ii (wq : Int)), (5, ii 0), (6, ii p), (7, ii b), (8, ii v), (9, ii ((k : Nat) : Int))]) (S' := [.ref 102]) dm_X12_folded_119 rfl rfl rfl rfl ?_
      refine me3 (pc' := 123) (S' := [ii (t.1 5)]) dm_X12_folded_120 (q_geti (v := t.1 5) hm rfl (fun m i l => rg_5 m i l) rfl) rfl rfl rfl ?_
      refine y_1le (a := t.1 5) (t := 130) (pc' := 126) dm_X12_folded_123 rfl rfl (by omega) (fun hb4 => ?_) (fun hb4 => ?_)
      · exfalso; omega
      · refine me0 (pc' := 127) (S' := [ii (-1)]) dm_X12_folded_126 rfl rfl rfl rfl ?_
        refine me2 (pc' := 148) (S' := [ii (-1)]) dm_X12_folded_127 rfl rfl rfl ?_
        refine y_ret (r := some (ii (-1))) dm_X12_folded_148 rfl rfl rfl ?_
        exact kk
    · exfalso; omega
theorem dm_X12_folded_130 : mj_dec prog_14_method_109_code 130 = some (.iload 5, 2) := by decide +kernel
theorem dm_X12_folded_132 : mj_dec prog_14_method_109_code 132 = some (.ifCond .eq 14, 3) := by decide +kernel
theorem dm_X12_folded_146 : mj_dec prog_14_method_109_code 146 = some (.iload 8, 2) := by decide +kernel
theorem f_end0 {xt : mj_X} {d : Nat} {pre post : mj_H} {t : RS} {P : Option Value → mj_H → Prop} (hm : pre.length = 102) {a wq k : Nat} {rs p b v : Int} {w : VV} (hd2 : 3 ≤ d) (hLw : wq < 310000) (hvw : rv t 7 wq w) (hmw : vm w ≤ 120) (h5 : t.1 5 = 0) (hk2 : k ≤ 1000 ∧ vm w ≤ k) (kk : P (some (ii v)) (rS pre post t)) : HF xt d pre post t a wq k rs 0 p b v P := by
  refine me1 (pc' := 68) (L' := [(0, .ref 102), (1, ii (a : Int)), (2, ii rs), (4, ii (wq : Int)), (5, ii 0), (6, ii p), (7, ii b), (8, ii v), (9, ii ((k : Nat) : Int))]) (S' := [ii ((k : Nat) : Int)]) dm_X12_folded_66 rfl rfl rfl rfl ?_
  refine me1 (pc' := 69) (L' := [(0, .ref 102), (1, ii (a : Int)), (2, ii rs), (4, ii (wq : Int)), (5, ii 0), (6, ii p), (7, ii b), (8, ii v), (9, ii ((k : Nat) : Int))]) (S' := [.ref 102, ii ((k : Nat) : Int)]) dm_X12_folded_68 rfl rfl rfl rfl ?_
  refine me1 (pc' := 71) (L' := [(0, .ref 102), (1, ii (a : Int)), (2, ii rs), (4, ii (wq : Int)), (5, ii 0), (6, ii p), (7, ii b), (8, ii v), (9, ii ((k : Nat) : Int))]) (S' := [ii (wq : Int), .ref 102, ii ((k : Nat) : Int)]) dm_X12_folded_69 rfl rfl rfl rfl ?_
  refine x_cp (pc' := 74) (v := ii (vm w : Int)) (rest := [ii ((k : Nat) : Int)]) dm_X12_folded_71 rfl (q_inv (As := [ii (wq : Int)]) (S := [ii ((k : Nat) : Int)]) hm rfl rfl rfl) rfl rfl rfl (r_manyL (e := 6) hm (by omega) hLw hvw) ?_
  refine y_2ge (a := ((k : Nat) : Int)) (b := (vm w : Int)) (t := 119) (pc' := 77) dm_X12_folded_74 rfl rfl (by omega) (fun hb1 => ?_) (fun hb1 => ?_)
  · refine me1 (pc' := 120) (L' := [(0, .ref 102), (1, ii (a : Int)), (2, ii rs), (4, ii (wq : Int)), (5, ii 0), (6, ii p), (7, ii b), (8, ii v), (9, ii ((k : Nat) : Int))]) (S' := [.ref 102]) dm_X12_folded_119 rfl rfl rfl rfl ?_
    refine me3 (pc' := 123) (S' := [ii (t.1 5)]) dm_X12_folded_120 (q_geti (v := t.1 5) hm rfl (fun m i l => rg_5 m i l) rfl) rfl rfl rfl ?_
    refine y_1le (a := t.1 5) (t := 130) (pc' := 126) dm_X12_folded_123 rfl rfl (by omega) (fun hb2 => ?_) (fun hb2 => ?_)
    · refine me1 (pc' := 132) (L' := [(0, .ref 102), (1, ii (a : Int)), (2, ii rs), (4, ii (wq : Int)), (5, ii 0), (6, ii p), (7, ii b), (8, ii v), (9, ii ((k : Nat) : Int))]) (S' := [ii 0]) dm_X12_folded_130 rfl rfl rfl rfl ?_
      refine me_1t (pc' := 146) dm_X12_folded_132 rfl (by decide) ?_
      refine me1 (pc' := 148) (L' := [(0, .ref 102), (1, ii (a : Int)), (2, ii rs), (4, ii (wq : Int)), (5, ii 0), (6, ii p), (7, ii b), (8, ii v), (9, ii ((k : Nat) : Int))]) (S' := [ii v]) dm_X12_folded_146 rfl rfl rfl rfl ?_
      refine y_ret (r := some (ii v)) dm_X12_folded_148 rfl rfl rfl ?_
      exact kk
    · exfalso; omega
  · exfalso; omega
theorem dm_X12_folded_49 : mj_dec prog_14_method_109_code 49 = some (.aload_n 0, 1) := by decide +kernel
theorem dm_X12_folded_50 : mj_dec prog_14_method_109_code 50 = some (.iload 8, 2) := by decide +kernel
theorem dm_X12_folded_52 : mj_dec prog_14_method_109_code 52 = some (.invokevirtual 264, 3) := by decide +kernel
theorem f_startA1 {xt : mj_X} {d : Nat} {pre post : mj_H} {t : RS} (hm : pre.length = 102) (hd1 : 1 ≤ d) {a wq : Nat} {rs p : Int} {w : VV} {Q : RS → Int → Prop} (hd2 : 3 ≤ d) (hLw : wq < 310000) (hvw : rv t 7 wq w) (hmw : vm w ≤ 120) (h0 : vm w ≠ 0) {Q1 : RS → Int → Prop} (hc : pgV xt (d - 1) 261 [.ref 102, ii (wq : Int), ii 0] (rS pre post t) (RA pre post Q1)) (hw2 : ∀ u y, Q1 u y → ∃ w1 : Nat, u.1 13 = (w1 : Int) ∧ w1 < 8192) (k : ∀ u y (w1 : Nat), Q1 u y → u.1 13 = (w1 : Int) → HF xt (d - 1) pre post (pshS u w1 y) a wq 1 rs 1 p (t.1 13) y (fun r h' => ∃ x, r = some x ∧ RA pre post Q x h')) : pgV xt d 299 [.ref 102, ii (a : Int), ii rs, ii (-1), ii (wq : Int), ii 1, ii p] (rS pre post t) (RA pre post Q) := by
  refine x_enter pm_X12_folded (L0 := [(0, .ref 102), (1, ii (a : Int)), (2, ii rs), (3, ii (-1)), (4, ii (wq : Int)), (5, ii 1), (6, ii p)]) rfl (Nat.le_of_ble_eq_true rfl) (by omega) ?_
  refine me1 (pc' := 1) (L' := [(0, .ref 102), (1, ii (a : Int)), (2, ii rs), (3, ii (-1)), (4, ii (wq : Int)), (5, ii 1), (6, ii p)]) (S' := [ii (-1)]) dm_X12_folded_0 rfl rfl rfl rfl ?_
  refine me_1f (pc' := 4) dm_X12_folded_1 rfl (by decide) rfl ?_
  refine me1 (pc' := 5) (L' := [(0, .ref 102), (1, ii (a : Int)), (2, ii rs), (3, ii (-1)), (4, ii (wq : Int)), (5, ii 1), (6, ii p)]) (S' := [.ref 102]) dm_X12_folded_4 rfl rfl rfl rfl ?_
  refine me1 (pc' := 7) (L' := [(0, .ref 102), (1, ii (a : Int)), (2, ii rs), (3, ii (-1)), (4, ii (wq : Int)), (5, ii 1), (6, ii p)]) (S' := [ii (wq : Int), .ref 102]) dm_X12_folded_5 rfl rfl rfl rfl ?_
  refine x_cp (pc' := 10) (v := ii (vm w : Int)) (rest := []) dm_X12_folded_7 rfl (q_inv (As := [ii (wq : Int)]) (S := []) hm rfl rfl rfl) rfl rfl rfl (r_manyL (e := 6) hm (by omega) hLw hvw) ?_
  refine y_1ne (a := (vm w : Int)) (t := 21) (pc' := 13) dm_X12_folded_10 rfl rfl (by omega) (fun hb1 => ?_) (fun hb1 => ?_)
  · refine me1 (pc' := 22) (L' := [(0, .ref 102), (1, ii (a : Int)), (2, ii rs), (3, ii (-1)), (4, ii (wq : Int)), (5, ii 1), (6, ii p)]) (S' := [.ref 102]) dm_X12_folded_21 rfl rfl rfl rfl ?_
    refine me3 (pc' := 25) (S' := [ii (t.1 13)]) dm_X12_folded_22 (q_geti (v := t.1 13) hm rfl (fun m i l => rg_13 m i l) rfl) rfl rfl rfl ?_
    refine me1 (pc' := 27) (L' := [(7, ii (t.1 13)), (0, .ref 102), (1, ii (a : Int)), (2, ii rs), (3, ii (-1)), (4, ii (wq : Int)), (5, ii 1), (6, ii p)]) (S' := []) dm_X12_folded_25 rfl rfl rfl rfl ?_
    refine me1 (pc' := 28) (L' := [(7, ii (t.1 13)), (0, .ref 102), (1, ii (a : Int)), (2, ii rs), (3, ii (-1)), (4, ii (wq : Int)), (5, ii 1), (6, ii p)]) (S' := [ii (-1)]) dm_X12_folded_27 rfl rfl rfl rfl ?_
    refine me_1f (pc' := 31) dm_X12_folded_28 rfl (by decide) rfl ?_
    refine me1 (pc' := 32) (L' := [(7, ii (t.1 13)), (0, .ref 102), (1, ii (a : Int)), (2, ii rs), (3, ii (-1)), (4, ii (wq : Int)), (5, ii 1), (6, ii p)]) (S' := [.ref 102]) dm_X12_folded_31 rfl rfl rfl rfl ?_
    refine me1 (pc' := 34) (L' := [(7, ii (t.1 13)), (0, .ref 102), (1, ii (a : Int)), (2, ii rs), (3, ii (-1)), (4, ii (wq : Int)), (5, ii 1), (6, ii p)]) (S' := [ii (wq : Int), .ref 102]) dm_X12_folded_32 rfl rfl rfl rfl ?_
    refine me0 (pc' := 35) (S' := [ii 0, ii (wq : Int), .ref 102]) dm_X12_folded_34 rfl rfl rfl rfl ?_
    refine x_cv (pc' := 38) (rest := []) dm_X12_folded_35 rfl (q_inv (As := [ii (wq : Int), ii 0]) (S := []) hm rfl rfl rfl) rfl rfl rfl (hc) ?_
    rintro x1 g1 f1
    obtain ⟨t1, z1, rfl, rfl, hE1, hZ1, hQ1⟩ := f1
    obtain ⟨w1, hw1, hw1b⟩ := hw2 t1 z1 hQ1
    refine me2 (pc' := 42) (S' := [ii z1]) dm_X12_folded_38 rfl rfl rfl ?_
    refine me1 (pc' := 44) (L' := [(8, ii z1), (7, ii (t.1 13)), (0, .ref 102), (1, ii (a : Int)), (2, ii rs), (3, ii (-1)), (4, ii (wq : Int)), (5, ii 1), (6, ii p)]) (S' := []) dm_X12_folded_42 rfl rfl rfl rfl ?_
    refine me1 (pc' := 46) (L' := [(8, ii z1), (7, ii (t.1 13)), (0, .ref 102), (1, ii (a : Int)), (2, ii rs), (3, ii (-1)), (4, ii (wq : Int)), (5, ii 1), (6, ii p)]) (S' := [ii 1]) dm_X12_folded_44 rfl rfl rfl rfl ?_
    refine me_1f (pc' := 49) dm_X12_folded_46 rfl (by decide) rfl ?_
    refine me1 (pc' := 50) (L' := [(8, ii z1), (7, ii (t.1 13)), (0, .ref 102), (1, ii (a : Int)), (2, ii rs), (3, ii (-1)), (4, ii (wq : Int)), (5, ii 1), (6, ii p)]) (S' := [.ref 102]) dm_X12_folded_49 rfl rfl rfl rfl ?_
    refine me1 (pc' := 52) (L' := [(8, ii z1), (7, ii (t.1 13)), (0, .ref 102), (1, ii (a : Int)), (2, ii rs), (3, ii (-1)), (4, ii (wq : Int)), (5, ii 1), (6, ii p)]) (S' := [ii z1, .ref 102]) dm_X12_folded_50 rfl rfl rfl rfl ?_
    refine x_cn (pc' := 55) (rest := []) dm_X12_folded_52 rfl (q_inv (As := [ii z1]) (S := []) hm rfl rfl rfl) rfl rfl rfl (r_push_ (s := t1) (n := w1) hm (by omega) hw1 (by omega)) ?_
    rintro _ rfl
    refine me1 (pc' := 56) (L' := [(8, ii z1), (7, ii (t.1 13)), (0, .ref 102), (1, ii (a : Int)), (2, ii rs), (3, ii (-1)), (4, ii (wq : Int)), (5, ii 1), (6, ii p)]) (S' := [ii (-1)]) dm_X12_folded_55 rfl rfl rfl rfl ?_
    refine me_1f (pc' := 59) dm_X12_folded_56 rfl (by decide) rfl ?_
    refine me0 (pc' := 60) (S' := [ii 1]) dm_X12_folded_59 rfl rfl rfl rfl ?_
    refine me2 (pc' := 64) (S' := [ii 1]) dm_X12_folded_60 rfl rfl rfl ?_
    refine me1 (pc' := 66) (L' := [(9, ii 1), (8, ii z1), (7, ii (t.1 13)), (0, .ref 102), (1, ii (a : Int)), (2, ii rs), (3, ii (-1)), (4, ii (wq : Int)), (5, ii 1), (6, ii p)]) (S' := []) dm_X12_folded_64 rfl rfl rfl rfl ?_
    exact pg_sub (L := [(0, .ref 102), (1, ii (a : Int)), (2, ii rs), (4, ii (wq : Int)), (5, ii 1), (6, ii p), (7, ii (t.1 13)), (8, ii z1), (9, ii ((1 : Nat) : Int))]) rfl rfl rfl (k t1 z1 w1 hQ1 hw1)
  · exfalso; omega
theorem f_startB1 {xt : mj_X} {d : Nat} {pre post : mj_H} {t : RS} (hm : pre.length = 102) (hd1 : 1 ≤ d) {a wq : Nat} {rs p : Int} {w : VV} {Q : RS → Int → Prop} (hd2 : 3 ≤ d) (hLw : wq < 310000) (hvw : rv t 7 wq w) (hmw : vm w ≤ 120) {lq w1 : Nat} (hLq : lq < 310000) (hw1 : t.1 13 = (w1 : Int)) (hw1b : w1 < 8192) (k : HF xt (d - 1) pre post (pshS t w1 (lq : Int)) a wq 0 rs 1 p (t.1 13) (lq : Int) (fun r h' => ∃ x, r = some x ∧ RA pre post Q x h')) : pgV xt d 299 [.ref 102, ii (a : Int), ii rs, ii (lq : Int), ii (wq : Int), ii 1, ii p] (rS pre post t) (RA pre post Q) := by
  refine x_enter pm_X12_folded (L0 := [(0, .ref 102), (1, ii (a : Int)), (2, ii rs), (3, ii (lq : Int)), (4, ii (wq : Int)), (5, ii 1), (6, ii p)]) rfl (Nat.le_of_ble_eq_true rfl) (by omega) ?_
  refine me1 (pc' := 1) (L' := [(0, .ref 102), (1, ii (a : Int)), (2, ii rs), (3, ii (lq : Int)), (4, ii (wq : Int)), (5, ii 1), (6, ii p)]) (S' := [ii (lq : Int)]) dm_X12_folded_0 rfl rfl rfl rfl ?_
  refine y_1ge (a := (lq : Int)) (t := 21) (pc' := 4) dm_X12_folded_1 rfl rfl (by omega) (fun hb1 => ?_) (fun hb1 => ?_)
  · refine me1 (pc' := 22) (L' := [(0, .ref 102), (1, ii (a : Int)), (2, ii rs), (3, ii (lq : Int)), (4, ii (wq : Int)), (5, ii 1), (6, ii p)]) (S' := [.ref 102]) dm_X12_folded_21 rfl rfl rfl rfl ?_
    refine me3 (pc' := 25) (S' := [ii (t.1 13)]) dm_X12_folded_22 (q_geti (v := t.1 13) hm rfl (fun m i l => rg_13 m i l) rfl) rfl rfl rfl ?_
    refine me1 (pc' := 27) (L' := [(7, ii (t.1 13)), (0, .ref 102), (1, ii (a : Int)), (2, ii rs), (3, ii (lq : Int)), (4, ii (wq : Int)), (5, ii 1), (6, ii p)]) (S' := []) dm_X12_folded_25 rfl rfl rfl rfl ?_
    refine me1 (pc' := 28) (L' := [(7, ii (t.1 13)), (0, .ref 102), (1, ii (a : Int)), (2, ii rs), (3, ii (lq : Int)), (4, ii (wq : Int)), (5, ii 1), (6, ii p)]) (S' := [ii (lq : Int)]) dm_X12_folded_27 rfl rfl rfl rfl ?_
    refine y_1ge (a := (lq : Int)) (t := 41) (pc' := 31) dm_X12_folded_28 rfl rfl (by omega) (fun hb2 => ?_) (fun hb2 => ?_)
    · refine me1 (pc' := 42) (L' := [(7, ii (t.1 13)), (0, .ref 102), (1, ii (a : Int)), (2, ii rs), (3, ii (lq : Int)), (4, ii (wq : Int)), (5, ii 1), (6, ii p)]) (S' := [ii (lq : Int)]) dm_X12_folded_41 rfl rfl rfl rfl ?_
      refine me1 (pc' := 44) (L' := [(8, ii (lq : Int)), (7, ii (t.1 13)), (0, .ref 102), (1, ii (a : Int)), (2, ii rs), (3, ii (lq : Int)), (4, ii (wq : Int)), (5, ii 1), (6, ii p)]) (S' := []) dm_X12_folded_42 rfl rfl rfl rfl ?_
      refine me1 (pc' := 46) (L' := [(8, ii (lq : Int)), (7, ii (t.1 13)), (0, .ref 102), (1, ii (a : Int)), (2, ii rs), (3, ii (lq : Int)), (4, ii (wq : Int)), (5, ii 1), (6, ii p)]) (S' := [ii 1]) dm_X12_folded_44 rfl rfl rfl rfl ?_
      refine me_1f (pc' := 49) dm_X12_folded_46 rfl (by decide) rfl ?_
      refine me1 (pc' := 50) (L' := [(8, ii (lq : Int)), (7, ii (t.1 13)), (0, .ref 102), (1, ii (a : Int)), (2, ii rs), (3, ii (lq : Int)), (4, ii (wq : Int)), (5, ii 1), (6, ii p)]) (S' := [.ref 102]) dm_X12_folded_49 rfl rfl rfl rfl ?_
      refine me1 (pc' := 52) (L' := [(8, ii (lq : Int)), (7, ii (t.1 13)), (0, .ref 102), (1, ii (a : Int)), (2, ii rs), (3, ii (lq : Int)), (4, ii (wq : Int)), (5, ii 1), (6, ii p)]) (S' := [ii (lq : Int), .ref 102]) dm_X12_folded_50 rfl rfl rfl rfl ?_
      refine x_cn (pc' := 55) (rest := []) dm_X12_folded_52 rfl (q_inv (As := [ii (lq : Int)]) (S := []) hm rfl rfl rfl) rfl rfl rfl (r_push_ (s := t) (n := w1) hm (by omega) hw1 (by omega)) ?_
      rintro _ rfl
      refine me1 (pc' := 56) (L' := [(8, ii (lq : Int)), (7, ii (t.1 13)), (0, .ref 102), (1, ii (a : Int)), (2, ii rs), (3, ii (lq : Int)), (4, ii (wq : Int)), (5, ii 1), (6, ii p)]) (S' := [ii (lq : Int)]) dm_X12_folded_55 rfl rfl rfl rfl ?_
      refine y_1ge (a := (lq : Int)) (t := 63) (pc' := 59) dm_X12_folded_56 rfl rfl (by omega) (fun hb3 => ?_) (fun hb3 => ?_)
      · refine me0 (pc' := 64) (S' := [ii 0]) dm_X12_folded_63 rfl rfl rfl rfl ?_
        refine me1 (pc' := 66) (L' := [(9, ii 0), (8, ii (lq : Int)), (7, ii (t.1 13)), (0, .ref 102), (1, ii (a : Int)), (2, ii rs), (3, ii (lq : Int)), (4, ii (wq : Int)), (5, ii 1), (6, ii p)]) (S' := []) dm_X12_folded_64 rfl rfl rfl rfl ?_
        exact pg_sub (L := [(0, .ref 102), (1, ii (a : Int)), (2, ii rs), (4, ii (wq : Int)), (5, ii 1), (6, ii p), (7, ii (t.1 13)), (8, ii (lq : Int)), (9, ii ((0 : Nat) : Int))]) rfl rfl rfl (k)
      · exfalso; omega
    · exfalso; omega
  · exfalso; omega
theorem dm_X12_folded_107 : mj_dec prog_14_method_109_code 107 = some (.aload_n 0, 1) := by decide +kernel
theorem dm_X12_folded_108 : mj_dec prog_14_method_109_code 108 = some (.iload 8, 2) := by decide +kernel
theorem dm_X12_folded_110 : mj_dec prog_14_method_109_code 110 = some (.invokevirtual 264, 3) := by decide +kernel
theorem f_turn1 {xt : mj_X} {d : Nat} {pre post : mj_H} {t : RS} {P : Option Value → mj_H → Prop} (hm : pre.length = 102) {a wq k : Nat} {rs p b v : Int} {w : VV} (hd2 : 3 ≤ d) (hLw : wq < 310000) (hvw : rv t 7 wq w) (hmw : vm w ≤ 120) (h5 : t.1 5 = 0) (hkn : k < vm w) {Q1 Q2 : RS → Int → Prop} (hc1 : pgV xt d 261 [.ref 102, ii (wq : Int), ii ((k : Nat) : Int)] (rS pre post t) (RA pre post Q1)) (hc2 : ∀ u y, Q1 u y → pgV xt d 279 [.ref 102, ii (a : Int), ii rs, ii v, ii y] (rS pre post u) (RA pre post Q2)) (hw2 : ∀ u y, Q2 u y → ∃ w1 : Nat, u.1 13 = (w1 : Int) ∧ w1 < 8192) (kk : ∀ u y (w1 : Nat), Q2 u y → u.1 13 = (w1 : Int) → HF xt d pre post (pshS u w1 y) a wq (k + 1) rs 1 p b y P) : HF xt d pre post t a wq k rs 1 p b v P := by
  refine me1 (pc' := 68) (L' := [(0, .ref 102), (1, ii (a : Int)), (2, ii rs), (4, ii (wq : Int)), (5, ii 1), (6, ii p), (7, ii b), (8, ii v), (9, ii ((k : Nat) : Int))]) (S' := [ii ((k : Nat) : Int)]) dm_X12_folded_66 rfl rfl rfl rfl ?_
  refine me1 (pc' := 69) (L' := [(0, .ref 102), (1, ii (a : Int)), (2, ii rs), (4, ii (wq : Int)), (5, ii 1), (6, ii p), (7, ii b), (8, ii v), (9, ii ((k : Nat) : Int))]) (S' := [.ref 102, ii ((k : Nat) : Int)]) dm_X12_folded_68 rfl rfl rfl rfl ?_
  refine me1 (pc' := 71) (L' := [(0, .ref 102), (1, ii (a : Int)), (2, ii rs), (4, ii (wq : Int)), (5, ii 1), (6, ii p), (7, ii b), (8, ii v), (9, ii ((k : Nat) : Int))]) (S' := [ii (wq : Int), .ref 102, ii ((k : Nat) : Int)]) dm_X12_folded_69 rfl rfl rfl rfl ?_
  refine x_cp (pc' := 74) (v := ii (vm w : Int)) (rest := [ii ((k : Nat) : Int)]) dm_X12_folded_71 rfl (q_inv (As := [ii (wq : Int)]) (S := [ii ((k : Nat) : Int)]) hm rfl rfl rfl) rfl rfl rfl (r_manyL (e := 6) hm (by omega) hLw hvw) ?_
  refine y_2ge (a := ((k : Nat) : Int)) (b := (vm w : Int)) (t := 119) (pc' := 77) dm_X12_folded_74 rfl rfl (by omega) (fun hb1 => ?_) (fun hb1 => ?_)
  · exfalso; omega
  · refine me1 (pc' := 78) (L' := [(0, .ref 102), (1, ii (a : Int)), (2, ii rs), (4, ii (wq : Int)), (5, ii 1), (6, ii p), (7, ii b), (8, ii v), (9, ii ((k : Nat) : Int))]) (S' := [.ref 102]) dm_X12_folded_77 rfl rfl rfl rfl ?_
    refine me3 (pc' := 81) (S' := [ii (t.1 5)]) dm_X12_folded_78 (q_geti (v := t.1 5) hm rfl (fun m i l => rg_5 m i l) rfl) rfl rfl rfl ?_
    refine y_1ne (a := t.1 5) (t := 119) (pc' := 84) dm_X12_folded_81 rfl rfl (by omega) (fun hb2 => ?_) (fun hb2 => ?_)
    · exfalso; omega
    · refine me1 (pc' := 85) (L' := [(0, .ref 102), (1, ii (a : Int)), (2, ii rs), (4, ii (wq : Int)), (5, ii 1), (6, ii p), (7, ii b), (8, ii v), (9, ii ((k : Nat) : Int))]) (S' := [.ref 102]) dm_X12_folded_84 rfl rfl rfl rfl ?_
      refine me1 (pc' := 86) (L' := [(0, .ref 102), (1, ii (a : Int)), (2, ii rs), (4, ii (wq : Int)), (5, ii 1), (6, ii p), (7, ii b), (8, ii v), (9, ii ((k : Nat) : Int))]) (S' := [ii (a : Int), .ref 102]) dm_X12_folded_85 rfl rfl rfl rfl ?_
      refine me1 (pc' := 87) (L' := [(0, .ref 102), (1, ii (a : Int)), (2, ii rs), (4, ii (wq : Int)), (5, ii 1), (6, ii p), (7, ii b), (8, ii v), (9, ii ((k : Nat) : Int))]) (S' := [ii rs, ii (a : Int), .ref 102]) dm_X12_folded_86 rfl rfl rfl rfl ?_
      refine me1 (pc' := 89) (L' := [(0, .ref 102), (1, ii (a : Int)), (2, ii rs), (4, ii (wq : Int)), (5, ii 1), (6, ii p), (7, ii b), (8, ii v), (9, ii ((k : Nat) : Int))]) (S' := [ii v, ii rs, ii (a : Int), .ref 102]) dm_X12_folded_87 rfl rfl rfl rfl ?_
      refine me1 (pc' := 90) (L' := [(0, .ref 102), (1, ii (a : Int)), (2, ii rs), (4, ii (wq : Int)), (5, ii 1), (6, ii p), (7, ii b), (8, ii v), (9, ii ((k : Nat) : Int))]) (S' := [.ref 102, ii v, ii rs, ii (a : Int), .ref 102]) dm_X12_folded_89 rfl rfl rfl rfl ?_
      refine me1 (pc' := 92) (L' := [(0, .ref 102), (1, ii (a : Int)), (2, ii rs), (4, ii (wq : Int)), (5, ii 1), (6, ii p), (7, ii b), (8, ii v), (9, ii ((k : Nat) : Int))]) (S' := [ii (wq : Int), .ref 102, ii v, ii rs, ii (a : Int), .ref 102]) dm_X12_folded_90 rfl rfl rfl rfl ?_
      refine me1 (pc' := 94) (L' := [(0, .ref 102), (1, ii (a : Int)), (2, ii rs), (4, ii (wq : Int)), (5, ii 1), (6, ii p), (7, ii b), (8, ii v), (9, ii ((k : Nat) : Int))]) (S' := [ii ((k : Nat) : Int), ii (wq : Int), .ref 102, ii v, ii rs, ii (a : Int), .ref 102]) dm_X12_folded_92 rfl rfl rfl rfl ?_
      refine x_cv (pc' := 97) (rest := [ii v, ii rs, ii (a : Int), .ref 102]) dm_X12_folded_94 rfl (q_inv (As := [ii (wq : Int), ii ((k : Nat) : Int)]) (S := [ii v, ii rs, ii (a : Int), .ref 102]) hm rfl rfl rfl) rfl rfl rfl (hc1) ?_
      rintro x1 g1 f1
      obtain ⟨t1, z1, rfl, rfl, hE1, hZ1, hQ1⟩ := f1
      refine x_cv (pc' := 100) (rest := []) dm_X12_folded_97 rfl (q_inv (As := [ii (a : Int), ii rs, ii v, ii z1]) (S := []) hm rfl rfl rfl) rfl rfl rfl (hc2 t1 z1 hQ1) ?_
      rintro x2 g2 f2
      obtain ⟨t2, z2, rfl, rfl, hE2, hZ2, hQ2⟩ := f2
      obtain ⟨w1, hw1, hw1b⟩ := hw2 t2 z2 hQ2
      refine me1 (pc' := 102) (L' := [(8, ii z2), (0, .ref 102), (1, ii (a : Int)), (2, ii rs), (4, ii (wq : Int)), (5, ii 1), (6, ii p), (7, ii b), (9, ii ((k : Nat) : Int))]) (S' := []) dm_X12_folded_100 rfl rfl rfl rfl ?_
      refine me1 (pc' := 104) (L' := [(8, ii z2), (0, .ref 102), (1, ii (a : Int)), (2, ii rs), (4, ii (wq : Int)), (5, ii 1), (6, ii p), (7, ii b), (9, ii ((k : Nat) : Int))]) (S' := [ii 1]) dm_X12_folded_102 rfl rfl rfl rfl ?_
      refine me_1f (pc' := 107) dm_X12_folded_104 rfl (by decide) rfl ?_
      refine me1 (pc' := 108) (L' := [(8, ii z2), (0, .ref 102), (1, ii (a : Int)), (2, ii rs), (4, ii (wq : Int)), (5, ii 1), (6, ii p), (7, ii b), (9, ii ((k : Nat) : Int))]) (S' := [.ref 102]) dm_X12_folded_107 rfl rfl rfl rfl ?_
      refine me1 (pc' := 110) (L' := [(8, ii z2), (0, .ref 102), (1, ii (a : Int)), (2, ii rs), (4, ii (wq : Int)), (5, ii 1), (6, ii p), (7, ii b), (9, ii ((k : Nat) : Int))]) (S' := [ii z2, .ref 102]) dm_X12_folded_108 rfl rfl rfl rfl ?_
      refine x_cn (pc' := 113) (rest := []) dm_X12_folded_110 rfl (q_inv (As := [ii z2]) (S := []) hm rfl rfl rfl) rfl rfl rfl (r_push_ (s := t2) (n := w1) hm (by omega) hw1 (by omega)) ?_
      rintro _ rfl
      refine y_iinc (pc' := 116) (L' := [(9, ii (((k : Nat) : Int) + 1)), (8, ii z2), (0, .ref 102), (1, ii (a : Int)), (2, ii rs), (4, ii (wq : Int)), (5, ii 1), (6, ii p), (7, ii b)]) dm_X12_folded_113 (y_incp (a := ((k : Nat) : Int)) (c := 1) rfl rfl (by decide)) rfl ?_
      refine me2 (pc' := 66) (S' := []) dm_X12_folded_116 rfl rfl rfl ?_
      exact pg_sub (L := [(0, .ref 102), (1, ii (a : Int)), (2, ii rs), (4, ii (wq : Int)), (5, ii 1), (6, ii p), (7, ii b), (8, ii z2), (9, ii (((k + 1) : Nat) : Int))]) rfl rfl rfl (kk t2 z2 w1 hQ2 hw1)
theorem f_err1 {xt : mj_X} {d : Nat} {pre post : mj_H} {t : RS} {P : Option Value → mj_H → Prop} (hm : pre.length = 102) {a wq k : Nat} {rs p b v : Int} {w : VV} (hd2 : 3 ≤ d) (hLw : wq < 310000) (hvw : rv t 7 wq w) (hmw : vm w ≤ 120) (h5 : 0 < t.1 5 ∧ t.1 5 ≤ 100) (hk2 : k ≤ 1000) (kk : P (some (ii (-1))) (rS pre post t)) : HF xt d pre post t a wq k rs 1 p b v P := by
  refine me1 (pc' := 68) (L' := [(0, .ref 102), (1, ii (a : Int)), (2, ii rs), (4, ii (wq : Int)), (5, ii 1), (6, ii p), (7, ii b), (8, ii v), (9, ii ((k : Nat) : Int))]) (S' := [ii ((k : Nat) : Int)]) dm_X12_folded_66 rfl rfl rfl rfl ?_
  refine me1 (pc' := 69) (L' := [(0, .ref 102), (1, ii (a : Int)), (2, ii rs), (4, ii (wq : Int)), (5, ii 1), (6, ii p), (7, ii b), (8, ii v), (9, ii ((k : Nat) : Int))]) (S' := [.ref 102, ii ((k : Nat) : Int)]) dm_X12_folded_68 rfl rfl rfl rfl ?_
  refine me1 (pc' := 71) (L' := [(0, .ref 102), (1, ii (a : Int)), (2, ii rs), (4, ii (wq : Int)), (5, ii 1), (6, ii p), (7, ii b), (8, ii v), (9, ii ((k : Nat) : Int))]) (S' := [ii (wq : Int), .ref 102, ii ((k : Nat) : Int)]) dm_X12_folded_69 rfl rfl rfl rfl ?_
  refine x_cp (pc' := 74) (v := ii (vm w : Int)) (rest := [ii ((k : Nat) : Int)]) dm_X12_folded_71 rfl (q_inv (As := [ii (wq : Int)]) (S := [ii ((k : Nat) : Int)]) hm rfl rfl rfl) rfl rfl rfl (r_manyL (e := 6) hm (by omega) hLw hvw) ?_
  refine y_2ge (a := ((k : Nat) : Int)) (b := (vm w : Int)) (t := 119) (pc' := 77) dm_X12_folded_74 rfl rfl (by omega) (fun hb1 => ?_) (fun hb1 => ?_)
  · refine me1 (pc' := 120) (L' := [(0, .ref 102), (1, ii (a : Int)), (2, ii rs), (4, ii (wq : Int)), (5, ii 1), (6, ii p), (7, ii b), (8, ii v), (9, ii ((k : Nat) : Int))]) (S' := [.ref 102]) dm_X12_folded_119 rfl rfl rfl rfl ?_
    refine me3 (pc' := 123) (S' := [ii (t.1 5)]) dm_X12_folded_120 (q_geti (v := t.1 5) hm rfl (fun m i l => rg_5 m i l) rfl) rfl rfl rfl ?_
    refine y_1le (a := t.1 5) (t := 130) (pc' := 126) dm_X12_folded_123 rfl rfl (by omega) (fun hb2 => ?_) (fun hb2 => ?_)
    · exfalso; omega
    · refine me0 (pc' := 127) (S' := [ii (-1)]) dm_X12_folded_126 rfl rfl rfl rfl ?_
      refine me2 (pc' := 148) (S' := [ii (-1)]) dm_X12_folded_127 rfl rfl rfl ?_
      refine y_ret (r := some (ii (-1))) dm_X12_folded_148 rfl rfl rfl ?_
      exact kk
  · refine me1 (pc' := 78) (L' := [(0, .ref 102), (1, ii (a : Int)), (2, ii rs), (4, ii (wq : Int)), (5, ii 1), (6, ii p), (7, ii b), (8, ii v), (9, ii ((k : Nat) : Int))]) (S' := [.ref 102]) dm_X12_folded_77 rfl rfl rfl rfl ?_
    refine me3 (pc' := 81) (S' := [ii (t.1 5)]) dm_X12_folded_78 (q_geti (v := t.1 5) hm rfl (fun m i l => rg_5 m i l) rfl) rfl rfl rfl ?_
    refine y_1ne (a := t.1 5) (t := 119) (pc' := 84) dm_X12_folded_81 rfl rfl (by omega) (fun hb3 => ?_) (fun hb3 => ?_)
    · refine me1 (pc' := 120) (L' := [(0, .ref 102), (1, ii (a : Int)), (2, ii rs), (4, ii (wq : Int)), (5, ii 1), (6, ii p), (7, ii b), (8, ii v), (9, ii ((k : Nat) : Int))]) (S' := [.ref 102]) dm_X12_folded_119 rfl rfl rfl rfl ?_
      refine me3 (pc' := 123) (S' := [ii (t.1 5)]) dm_X12_folded_120 (q_geti (v := t.1 5) hm rfl (fun m i l => rg_5 m i l) rfl) rfl rfl rfl ?_
      refine y_1le (a := t.1 5) (t := 130) (pc' := 126) dm_X12_folded_123 rfl rfl (by omega) (fun hb4 => ?_) (fun hb4 => ?_)
      · exfalso; omega
      · refine me0 (pc' := 127) (S' := [ii (-1)]) dm_X12_folded_126 rfl rfl rfl rfl ?_
        refine me2 (pc' := 148) (S' := [ii (-1)]) dm_X12_folded_127 rfl rfl rfl ?_
        refine y_ret (r := some (ii (-1))) dm_X12_folded_148 rfl rfl rfl ?_
        exact kk
    · exfalso; omega
theorem dm_X12_folded_135 : mj_dec prog_14_method_109_code 135 = some (.aload_n 0, 1) := by decide +kernel
theorem dm_X12_folded_136 : mj_dec prog_14_method_109_code 136 = some (.iload 7, 2) := by decide +kernel
theorem dm_X12_folded_138 : mj_dec prog_14_method_109_code 138 = some (.iload 6, 2) := by decide +kernel
theorem dm_X12_folded_140 : mj_dec prog_14_method_109_code 140 = some (.invokevirtual 560, 3) := by decide +kernel
theorem dm_X12_folded_143 : mj_dec prog_14_method_109_code 143 = some (.goto 5, 3) := by decide +kernel
theorem f_end1 {xt : mj_X} {d : Nat} {pre post : mj_H} {t : RS} {P : Option Value → mj_H → Prop} (hm : pre.length = 102) {a wq k : Nat} {rs p b v : Int} {w : VV} (hd2 : 3 ≤ d) (hLw : wq < 310000) (hvw : rv t 7 wq w) (hmw : vm w ≤ 120) (h5 : t.1 5 = 0) (hk2 : k ≤ 1000 ∧ vm w ≤ k) {Q1 : RS → Int → Prop} (hc : pgV xt d 244 [.ref 102, ii b, ii p] (rS pre post t) (RA pre post Q1)) (kk : ∀ u y, Q1 u y → P (some (ii y)) (rS pre post u)) : HF xt d pre post t a wq k rs 1 p b v P := by
  refine me1 (pc' := 68) (L' := [(0, .ref 102), (1, ii (a : Int)), (2, ii rs), (4, ii (wq : Int)), (5, ii 1), (6, ii p), (7, ii b), (8, ii v), (9, ii ((k : Nat) : Int))]) (S' := [ii ((k : Nat) : Int)]) dm_X12_folded_66 rfl rfl rfl rfl ?_
  refine me1 (pc' := 69) (L' := [(0, .ref 102), (1, ii (a : Int)), (2, ii rs), (4, ii (wq : Int)), (5, ii 1), (6, ii p), (7, ii b), (8, ii v), (9, ii ((k : Nat) : Int))]) (S' := [.ref 102, ii ((k : Nat) : Int)]) dm_X12_folded_68 rfl rfl rfl rfl ?_
  refine me1 (pc' := 71) (L' := [(0, .ref 102), (1, ii (a : Int)), (2, ii rs), (4, ii (wq : Int)), (5, ii 1), (6, ii p), (7, ii b), (8, ii v), (9, ii ((k : Nat) : Int))]) (S' := [ii (wq : Int), .ref 102, ii ((k : Nat) : Int)]) dm_X12_folded_69 rfl rfl rfl rfl ?_
  refine x_cp (pc' := 74) (v := ii (vm w : Int)) (rest := [ii ((k : Nat) : Int)]) dm_X12_folded_71 rfl (q_inv (As := [ii (wq : Int)]) (S := [ii ((k : Nat) : Int)]) hm rfl rfl rfl) rfl rfl rfl (r_manyL (e := 6) hm (by omega) hLw hvw) ?_
  refine y_2ge (a := ((k : Nat) : Int)) (b := (vm w : Int)) (t := 119) (pc' := 77) dm_X12_folded_74 rfl rfl (by omega) (fun hb1 => ?_) (fun hb1 => ?_)
  · refine me1 (pc' := 120) (L' := [(0, .ref 102), (1, ii (a : Int)), (2, ii rs), (4, ii (wq : Int)), (5, ii 1), (6, ii p), (7, ii b), (8, ii v), (9, ii ((k : Nat) : Int))]) (S' := [.ref 102]) dm_X12_folded_119 rfl rfl rfl rfl ?_
    refine me3 (pc' := 123) (S' := [ii (t.1 5)]) dm_X12_folded_120 (q_geti (v := t.1 5) hm rfl (fun m i l => rg_5 m i l) rfl) rfl rfl rfl ?_
    refine y_1le (a := t.1 5) (t := 130) (pc' := 126) dm_X12_folded_123 rfl rfl (by omega) (fun hb2 => ?_) (fun hb2 => ?_)
    · refine me1 (pc' := 132) (L' := [(0, .ref 102), (1, ii (a : Int)), (2, ii rs), (4, ii (wq : Int)), (5, ii 1), (6, ii p), (7, ii b), (8, ii v), (9, ii ((k : Nat) : Int))]) (S' := [ii 1]) dm_X12_folded_130 rfl rfl rfl rfl ?_
      refine me_1f (pc' := 135) dm_X12_folded_132 rfl (by decide) rfl ?_
      refine me1 (pc' := 136) (L' := [(0, .ref 102), (1, ii (a : Int)), (2, ii rs), (4, ii (wq : Int)), (5, ii 1), (6, ii p), (7, ii b), (8, ii v), (9, ii ((k : Nat) : Int))]) (S' := [.ref 102]) dm_X12_folded_135 rfl rfl rfl rfl ?_
      refine me1 (pc' := 138) (L' := [(0, .ref 102), (1, ii (a : Int)), (2, ii rs), (4, ii (wq : Int)), (5, ii 1), (6, ii p), (7, ii b), (8, ii v), (9, ii ((k : Nat) : Int))]) (S' := [ii b, .ref 102]) dm_X12_folded_136 rfl rfl rfl rfl ?_
      refine me1 (pc' := 140) (L' := [(0, .ref 102), (1, ii (a : Int)), (2, ii rs), (4, ii (wq : Int)), (5, ii 1), (6, ii p), (7, ii b), (8, ii v), (9, ii ((k : Nat) : Int))]) (S' := [ii p, ii b, .ref 102]) dm_X12_folded_138 rfl rfl rfl rfl ?_
      refine x_cv (pc' := 143) (rest := []) dm_X12_folded_140 rfl (q_inv (As := [ii b, ii p]) (S := []) hm rfl rfl rfl) rfl rfl rfl (hc) ?_
      rintro x1 g1 f1
      obtain ⟨t1, z1, rfl, rfl, hE1, hZ1, hQ1⟩ := f1
      refine me2 (pc' := 148) (S' := [ii z1]) dm_X12_folded_143 rfl rfl rfl ?_
      refine y_ret (r := some (ii z1)) dm_X12_folded_148 rfl rfl rfl ?_
      exact kk _ _ hQ1
    · exfalso; omega
  · exfalso; omega
set_option maxRecDepth 20000 in
theorem pm_X12_called : mj_mmof pg_ms 280 = some ((⟨"ArrayCalculatorModel", "called", "(JIII)I"⟩, prog_14_method_111_code, 10, (Option.some Jvm.ClassFile.FieldType.int)), 12, false, mj_dec prog_14_method_111_code) := rfl
theorem dm_X12_called_0 : mj_dec prog_14_method_111_code 0 = some (.aload_n 0, 1) := by decide +kernel
theorem dm_X12_called_1 : mj_dec prog_14_method_111_code 1 = some (.lload_n 1, 1) := by decide +kernel
theorem dm_X12_called_2 : mj_dec prog_14_method_111_code 2 = some (.invokevirtual 363, 3) := by decide +kernel
theorem dm_X12_called_5 : mj_dec prog_14_method_111_code 5 = some (.istore 6, 2) := by decide +kernel
theorem dm_X12_called_7 : mj_dec prog_14_method_111_code 7 = some (.iload 6, 2) := by decide +kernel
theorem dm_X12_called_9 : mj_dec prog_14_method_111_code 9 = some (.ifCond .ge 11, 3) := by decide +kernel
theorem dm_X12_called_12 : mj_dec prog_14_method_111_code 12 = some (.aload_n 0, 1) := by decide +kernel
theorem dm_X12_called_13 : mj_dec prog_14_method_111_code 13 = some (.iconst 2, 1) := by decide +kernel
theorem dm_X12_called_14 : mj_dec prog_14_method_111_code 14 = some (.iload 5, 2) := by decide +kernel
theorem dm_X12_called_16 : mj_dec prog_14_method_111_code 16 = some (.invokevirtual 190, 3) := by decide +kernel
theorem dm_X12_called_19 : mj_dec prog_14_method_111_code 19 = some (.ireturn, 1) := by decide +kernel
theorem c_no {xt : mj_X} {d : Nat} {pre post : mj_H} {t : RS} (hm : pre.length = 102) (hd1 : 1 ≤ d) {key : Int64} {wz p : Int} {Q : RS → Int → Prop} (hd2 : 3 ≤ d) (h5 : t.1 5 = 0) (hca : 0 ≤ t.1 10 ∧ t.1 10 ≤ 10) (h8 : 0 ≤ t.1 8 ∧ t.1 8 ≤ 500000) {n m : Nat} (hn : t.1 23 = (n : Int)) (hmn : t.1 24 = (m : Int)) (hn4 : n ≤ 40) (hm4 : m ≤ 40) {lz : Int} (hf : ¬ fndK (t.2.2.2 20) m key < m) (k : Q (failS t 2 p) (-1)) : pgV xt d 280 [.ref 102, .long key, ii lz, ii wz, ii p] (rS pre post t) (RA pre post Q) := by
  refine x_enter pm_X12_called (L0 := [(0, .ref 102), (1, .long key), (3, ii lz), (4, ii wz), (5, ii p)]) rfl (Nat.le_of_ble_eq_true rfl) (by omega) ?_
  refine me1 (pc' := 1) (L' := [(0, .ref 102), (1, .long key), (3, ii lz), (4, ii wz), (5, ii p)]) (S' := [.ref 102]) dm_X12_called_0 rfl rfl rfl rfl ?_
  refine me1 (pc' := 2) (L' := [(0, .ref 102), (1, .long key), (3, ii lz), (4, ii wz), (5, ii p)]) (S' := [.long key, .ref 102]) dm_X12_called_1 rfl rfl rfl rfl ?_
  refine x_cp (pc' := 5) (v := ii (fndR (t.2.2.2 20) m key)) (rest := []) dm_X12_called_2 rfl (q_inv (As := [.long key]) (S := []) hm rfl rfl rfl) rfl rfl rfl (r_functionNamed_ (n := n) (m := m) hm (by omega) hn hmn hn4 hm4) ?_
  refine pg_st (S' := [ii (-1)]) (congrArg (fun z => ii z :: []) (fndR_n hf)) ?_
  refine me1 (pc' := 7) (L' := [(6, ii (-1)), (0, .ref 102), (1, .long key), (3, ii lz), (4, ii wz), (5, ii p)]) (S' := []) dm_X12_called_5 rfl rfl rfl rfl ?_
  refine me1 (pc' := 9) (L' := [(6, ii (-1)), (0, .ref 102), (1, .long key), (3, ii lz), (4, ii wz), (5, ii p)]) (S' := [ii (-1)]) dm_X12_called_7 rfl rfl rfl rfl ?_
  refine me_1f (pc' := 12) dm_X12_called_9 rfl (by decide) rfl ?_
  refine me1 (pc' := 13) (L' := [(6, ii (-1)), (0, .ref 102), (1, .long key), (3, ii lz), (4, ii wz), (5, ii p)]) (S' := [.ref 102]) dm_X12_called_12 rfl rfl rfl rfl ?_
  refine me0 (pc' := 14) (S' := [ii 2, .ref 102]) dm_X12_called_13 rfl rfl rfl rfl ?_
  refine me1 (pc' := 16) (L' := [(6, ii (-1)), (0, .ref 102), (1, .long key), (3, ii lz), (4, ii wz), (5, ii p)]) (S' := [ii p, ii 2, .ref 102]) dm_X12_called_14 rfl rfl rfl rfl ?_
  refine x_cv (pc' := 19) (rest := []) dm_X12_called_16 rfl (q_inv (As := [ii 2, ii p]) (S := []) hm rfl rfl rfl) rfl rfl rfl (r_fail_ (s := t) hm (by omega) h5 (by omega) (by omega)) ?_
  rintro _ _ ⟨rfl, rfl⟩
  refine y_ret (r := some (ii (-1))) dm_X12_called_19 rfl rfl rfl ?_
  exact ⟨_, rfl, _, _, rfl, rfl, by rw [failS_5]; decide, by omega, k⟩
theorem dm_X12_called_20 : mj_dec prog_14_method_111_code 20 = some (.aload_n 0, 1) := by decide +kernel
theorem dm_X12_called_21 : mj_dec prog_14_method_111_code 21 = some (.getfield 184, 3) := by decide +kernel
theorem dm_X12_called_24 : mj_dec prog_14_method_111_code 24 = some (.bipush 10, 2) := by decide +kernel
theorem dm_X12_called_26 : mj_dec prog_14_method_111_code 26 = some (.if_icmp .ne 12, 3) := by decide +kernel
theorem dm_X12_called_29 : mj_dec prog_14_method_111_code 29 = some (.aload_n 0, 1) := by decide +kernel
theorem dm_X12_called_30 : mj_dec prog_14_method_111_code 30 = some (.bipush 9, 2) := by decide +kernel
theorem dm_X12_called_32 : mj_dec prog_14_method_111_code 32 = some (.iload 5, 2) := by decide +kernel
theorem dm_X12_called_34 : mj_dec prog_14_method_111_code 34 = some (.invokevirtual 190, 3) := by decide +kernel
theorem dm_X12_called_37 : mj_dec prog_14_method_111_code 37 = some (.ireturn, 1) := by decide +kernel
theorem c_ten {xt : mj_X} {d : Nat} {pre post : mj_H} {t : RS} (hm : pre.length = 102) (hd1 : 1 ≤ d) {key : Int64} {wz p : Int} {Q : RS → Int → Prop} (hd2 : 3 ≤ d) (h5 : t.1 5 = 0) (hca : 0 ≤ t.1 10 ∧ t.1 10 ≤ 10) (h8 : 0 ≤ t.1 8 ∧ t.1 8 ≤ 500000) {n m : Nat} (hn : t.1 23 = (n : Int)) (hmn : t.1 24 = (m : Int)) (hn4 : n ≤ 40) (hm4 : m ≤ 40) {j : Nat} (hf : fndK (t.2.2.2 20) m key = j) (hj : j < m) {lz : Int} (h10 : t.1 10 = 10) (k : Q (failS t 9 p) (-1)) : pgV xt d 280 [.ref 102, .long key, ii lz, ii wz, ii p] (rS pre post t) (RA pre post Q) := by
  refine x_enter pm_X12_called (L0 := [(0, .ref 102), (1, .long key), (3, ii lz), (4, ii wz), (5, ii p)]) rfl (Nat.le_of_ble_eq_true rfl) (by omega) ?_
  refine me1 (pc' := 1) (L' := [(0, .ref 102), (1, .long key), (3, ii lz), (4, ii wz), (5, ii p)]) (S' := [.ref 102]) dm_X12_called_0 rfl rfl rfl rfl ?_
  refine me1 (pc' := 2) (L' := [(0, .ref 102), (1, .long key), (3, ii lz), (4, ii wz), (5, ii p)]) (S' := [.long key, .ref 102]) dm_X12_called_1 rfl rfl rfl rfl ?_
  refine x_cp (pc' := 5) (v := ii (fndR (t.2.2.2 20) m key)) (rest := []) dm_X12_called_2 rfl (q_inv (As := [.long key]) (S := []) hm rfl rfl rfl) rfl rfl rfl (r_functionNamed_ (n := n) (m := m) hm (by omega) hn hmn hn4 hm4) ?_
  refine pg_st (S' := [ii ((j : Nat) : Int)]) (congrArg (fun z => ii z :: []) (by rw [fndR_y (by omega), hf])) ?_
  refine me1 (pc' := 7) (L' := [(6, ii ((j : Nat) : Int)), (0, .ref 102), (1, .long key), (3, ii lz), (4, ii wz), (5, ii p)]) (S' := []) dm_X12_called_5 rfl rfl rfl rfl ?_
  refine me1 (pc' := 9) (L' := [(6, ii ((j : Nat) : Int)), (0, .ref 102), (1, .long key), (3, ii lz), (4, ii wz), (5, ii p)]) (S' := [ii ((j : Nat) : Int)]) dm_X12_called_7 rfl rfl rfl rfl ?_
  refine y_1ge (a := ((j : Nat) : Int)) (t := 20) (pc' := 12) dm_X12_called_9 rfl rfl (by omega) (fun hb1 => ?_) (fun hb1 => ?_)
  · refine me1 (pc' := 21) (L' := [(6, ii ((j : Nat) : Int)), (0, .ref 102), (1, .long key), (3, ii lz), (4, ii wz), (5, ii p)]) (S' := [.ref 102]) dm_X12_called_20 rfl rfl rfl rfl ?_
    refine me3 (pc' := 24) (S' := [ii (t.1 10)]) dm_X12_called_21 (q_geti (v := t.1 10) hm rfl (fun m i l => rg_10 m i l) rfl) rfl rfl rfl ?_
    refine me0 (pc' := 26) (S' := [ii 10, ii (t.1 10)]) dm_X12_called_24 rfl rfl rfl rfl ?_
    refine y_2ne (a := t.1 10) (b := 10) (t := 38) (pc' := 29) dm_X12_called_26 rfl rfl (by omega) (fun hb2 => ?_) (fun hb2 => ?_)
    · exfalso; omega
    · refine me1 (pc' := 30) (L' := [(6, ii ((j : Nat) : Int)), (0, .ref 102), (1, .long key), (3, ii lz), (4, ii wz), (5, ii p)]) (S' := [.ref 102]) dm_X12_called_29 rfl rfl rfl rfl ?_
      refine me0 (pc' := 32) (S' := [ii 9, .ref 102]) dm_X12_called_30 rfl rfl rfl rfl ?_
      refine me1 (pc' := 34) (L' := [(6, ii ((j : Nat) : Int)), (0, .ref 102), (1, .long key), (3, ii lz), (4, ii wz), (5, ii p)]) (S' := [ii p, ii 9, .ref 102]) dm_X12_called_32 rfl rfl rfl rfl ?_
      refine x_cv (pc' := 37) (rest := []) dm_X12_called_34 rfl (q_inv (As := [ii 9, ii p]) (S := []) hm rfl rfl rfl) rfl rfl rfl (r_fail_ (s := t) hm (by omega) h5 (by omega) (by omega)) ?_
      rintro _ _ ⟨rfl, rfl⟩
      refine y_ret (r := some (ii (-1))) dm_X12_called_37 rfl rfl rfl ?_
      exact ⟨_, rfl, _, _, rfl, rfl, by rw [failS_5]; decide, by omega, k⟩
  · exfalso; omega
theorem dm_X12_called_38 : mj_dec prog_14_method_111_code 38 = some (.aload_n 0, 1) := by decide +kernel
theorem dm_X12_called_39 : mj_dec prog_14_method_111_code 39 = some (.iconst 5, 1) := by decide +kernel
theorem dm_X12_called_40 : mj_dec prog_14_method_111_code 40 = some (.iload 5, 2) := by decide +kernel
theorem dm_X12_called_42 : mj_dec prog_14_method_111_code 42 = some (.invokevirtual 199, 3) := by decide +kernel
theorem dm_X12_called_45 : mj_dec prog_14_method_111_code 45 = some (.ifCond .ne 5, 3) := by decide +kernel
theorem dm_X12_called_48 : mj_dec prog_14_method_111_code 48 = some (.iconst (-1), 1) := by decide +kernel
theorem dm_X12_called_49 : mj_dec prog_14_method_111_code 49 = some (.ireturn, 1) := by decide +kernel
theorem c_wk {xt : mj_X} {d : Nat} {pre post : mj_H} {t : RS} (hm : pre.length = 102) (hd1 : 1 ≤ d) {key : Int64} {wz p : Int} {Q : RS → Int → Prop} (hd2 : 3 ≤ d) (h5 : t.1 5 = 0) (hca : 0 ≤ t.1 10 ∧ t.1 10 ≤ 10) (h8 : 0 ≤ t.1 8 ∧ t.1 8 ≤ 500000) {n m : Nat} (hn : t.1 23 = (n : Int)) (hmn : t.1 24 = (m : Int)) (hn4 : n ≤ 40) (hm4 : m ≤ 40) {j : Nat} (hf : fndK (t.2.2.2 20) m key = j) (hj : j < m) {lz : Int} (h10 : t.1 10 ≠ 10) (hW : t.1 8 < 5) (k : Q (failS t 10 p) (-1)) : pgV xt d 280 [.ref 102, .long key, ii lz, ii wz, ii p] (rS pre post t) (RA pre post Q) := by
  refine x_enter pm_X12_called (L0 := [(0, .ref 102), (1, .long key), (3, ii lz), (4, ii wz), (5, ii p)]) rfl (Nat.le_of_ble_eq_true rfl) (by omega) ?_
  refine me1 (pc' := 1) (L' := [(0, .ref 102), (1, .long key), (3, ii lz), (4, ii wz), (5, ii p)]) (S' := [.ref 102]) dm_X12_called_0 rfl rfl rfl rfl ?_
  refine me1 (pc' := 2) (L' := [(0, .ref 102), (1, .long key), (3, ii lz), (4, ii wz), (5, ii p)]) (S' := [.long key, .ref 102]) dm_X12_called_1 rfl rfl rfl rfl ?_
  refine x_cp (pc' := 5) (v := ii (fndR (t.2.2.2 20) m key)) (rest := []) dm_X12_called_2 rfl (q_inv (As := [.long key]) (S := []) hm rfl rfl rfl) rfl rfl rfl (r_functionNamed_ (n := n) (m := m) hm (by omega) hn hmn hn4 hm4) ?_
  refine pg_st (S' := [ii ((j : Nat) : Int)]) (congrArg (fun z => ii z :: []) (by rw [fndR_y (by omega), hf])) ?_
  refine me1 (pc' := 7) (L' := [(6, ii ((j : Nat) : Int)), (0, .ref 102), (1, .long key), (3, ii lz), (4, ii wz), (5, ii p)]) (S' := []) dm_X12_called_5 rfl rfl rfl rfl ?_
  refine me1 (pc' := 9) (L' := [(6, ii ((j : Nat) : Int)), (0, .ref 102), (1, .long key), (3, ii lz), (4, ii wz), (5, ii p)]) (S' := [ii ((j : Nat) : Int)]) dm_X12_called_7 rfl rfl rfl rfl ?_
  refine y_1ge (a := ((j : Nat) : Int)) (t := 20) (pc' := 12) dm_X12_called_9 rfl rfl (by omega) (fun hb1 => ?_) (fun hb1 => ?_)
  · refine me1 (pc' := 21) (L' := [(6, ii ((j : Nat) : Int)), (0, .ref 102), (1, .long key), (3, ii lz), (4, ii wz), (5, ii p)]) (S' := [.ref 102]) dm_X12_called_20 rfl rfl rfl rfl ?_
    refine me3 (pc' := 24) (S' := [ii (t.1 10)]) dm_X12_called_21 (q_geti (v := t.1 10) hm rfl (fun m i l => rg_10 m i l) rfl) rfl rfl rfl ?_
    refine me0 (pc' := 26) (S' := [ii 10, ii (t.1 10)]) dm_X12_called_24 rfl rfl rfl rfl ?_
    refine y_2ne (a := t.1 10) (b := 10) (t := 38) (pc' := 29) dm_X12_called_26 rfl rfl (by omega) (fun hb2 => ?_) (fun hb2 => ?_)
    · refine me1 (pc' := 39) (L' := [(6, ii ((j : Nat) : Int)), (0, .ref 102), (1, .long key), (3, ii lz), (4, ii wz), (5, ii p)]) (S' := [.ref 102]) dm_X12_called_38 rfl rfl rfl rfl ?_
      refine me0 (pc' := 40) (S' := [ii 5, .ref 102]) dm_X12_called_39 rfl rfl rfl rfl ?_
      refine me1 (pc' := 42) (L' := [(6, ii ((j : Nat) : Int)), (0, .ref 102), (1, .long key), (3, ii lz), (4, ii wz), (5, ii p)]) (S' := [ii p, ii 5, .ref 102]) dm_X12_called_40 rfl rfl rfl rfl ?_
      refine x_cv (pc' := 45) (rest := []) dm_X12_called_42 rfl (q_inv (As := [ii 5, ii p]) (S := []) hm rfl rfl rfl) rfl rfl rfl (r_takes_ (s := t) (n := 5) hm (by omega) h5 (by omega) (by omega) h8.1 h8.2 (by omega)) ?_
      rintro _ _ ⟨rfl, rfl⟩
      refine y_zne (c := decide ((5 : Int) ≤ t.1 8)) (t := 50) (pc' := 48) dm_X12_called_45 rfl rfl (fun hb3 => ?_) (fun hb3 => ?_)
      · replace hb3 := dT hb3; exfalso; omega
      · replace hb3 := dF hb3
        refine me0 (pc' := 49) (S' := [ii (-1)]) dm_X12_called_48 rfl rfl rfl rfl ?_
        refine y_ret (r := some (ii (-1))) dm_X12_called_49 rfl rfl rfl ?_
        rw [tkS_f hW]
        exact ⟨_, rfl, _, _, rfl, rfl, by rw [failS_5]; decide, by omega, k⟩
    · exfalso; omega
  · exfalso; omega
theorem dm_X12_called_50 : mj_dec prog_14_method_111_code 50 = some (.aload_n 0, 1) := by decide +kernel
theorem dm_X12_called_51 : mj_dec prog_14_method_111_code 51 = some (.getfield 96, 3) := by decide +kernel
theorem dm_X12_called_54 : mj_dec prog_14_method_111_code 54 = some (.istore 7, 2) := by decide +kernel
theorem dm_X12_called_56 : mj_dec prog_14_method_111_code 56 = some (.aload_n 0, 1) := by decide +kernel
theorem dm_X12_called_57 : mj_dec prog_14_method_111_code 57 = some (.getfield 99, 3) := by decide +kernel
theorem dm_X12_called_60 : mj_dec prog_14_method_111_code 60 = some (.istore 8, 2) := by decide +kernel
theorem dm_X12_called_62 : mj_dec prog_14_method_111_code 62 = some (.aload_n 0, 1) := by decide +kernel
theorem dm_X12_called_63 : mj_dec prog_14_method_111_code 63 = some (.getfield 184, 3) := by decide +kernel
theorem dm_X12_called_66 : mj_dec prog_14_method_111_code 66 = some (.ifCond .ne 9, 3) := by decide +kernel
theorem dm_X12_called_69 : mj_dec prog_14_method_111_code 69 = some (.aload_n 0, 1) := by decide +kernel
theorem dm_X12_called_70 : mj_dec prog_14_method_111_code 70 = some (.iload 5, 2) := by decide +kernel
theorem dm_X12_called_72 : mj_dec prog_14_method_111_code 72 = some (.putfield 187, 3) := by decide +kernel
theorem dm_X12_called_75 : mj_dec prog_14_method_111_code 75 = some (.aload_n 0, 1) := by decide +kernel
theorem dm_X12_called_76 : mj_dec prog_14_method_111_code 76 = some (.dup, 1) := by decide +kernel
theorem dm_X12_called_77 : mj_dec prog_14_method_111_code 77 = some (.getfield 184, 3) := by decide +kernel
theorem dm_X12_called_80 : mj_dec prog_14_method_111_code 80 = some (.iconst 1, 1) := by decide +kernel
theorem dm_X12_called_81 : mj_dec prog_14_method_111_code 81 = some (.iadd, 1) := by decide +kernel
theorem dm_X12_called_82 : mj_dec prog_14_method_111_code 82 = some (.putfield 184, 3) := by decide +kernel
theorem dm_X12_called_85 : mj_dec prog_14_method_111_code 85 = some (.aload_n 0, 1) := by decide +kernel
theorem dm_X12_called_86 : mj_dec prog_14_method_111_code 86 = some (.iload_n 3, 1) := by decide +kernel
theorem dm_X12_called_87 : mj_dec prog_14_method_111_code 87 = some (.ifCond .ge 8, 3) := by decide +kernel
theorem dm_X12_called_90 : mj_dec prog_14_method_111_code 90 = some (.iload 4, 2) := by decide +kernel
theorem dm_X12_called_92 : mj_dec prog_14_method_111_code 92 = some (.goto 4, 3) := by decide +kernel
theorem dm_X12_called_96 : mj_dec prog_14_method_111_code 96 = some (.putfield 96, 3) := by decide +kernel
theorem dm_X12_called_99 : mj_dec prog_14_method_111_code 99 = some (.aload_n 0, 1) := by decide +kernel
theorem dm_X12_called_100 : mj_dec prog_14_method_111_code 100 = some (.iload_n 3, 1) := by decide +kernel
theorem dm_X12_called_101 : mj_dec prog_14_method_111_code 101 = some (.ifCond .ge 7, 3) := by decide +kernel
theorem dm_X12_called_104 : mj_dec prog_14_method_111_code 104 = some (.iconst (-1), 1) := by decide +kernel
theorem dm_X12_called_105 : mj_dec prog_14_method_111_code 105 = some (.goto 5, 3) := by decide +kernel
theorem dm_X12_called_110 : mj_dec prog_14_method_111_code 110 = some (.putfield 99, 3) := by decide +kernel
theorem dm_X12_called_113 : mj_dec prog_14_method_111_code 113 = some (.aload_n 0, 1) := by decide +kernel
theorem dm_X12_called_114 : mj_dec prog_14_method_111_code 114 = some (.aload_n 0, 1) := by decide +kernel
theorem dm_X12_called_115 : mj_dec prog_14_method_111_code 115 = some (.getfield 52, 3) := by decide +kernel
theorem dm_X12_called_118 : mj_dec prog_14_method_111_code 118 = some (.iload 6, 2) := by decide +kernel
theorem dm_X12_called_120 : mj_dec prog_14_method_111_code 120 = some (.iaload, 1) := by decide +kernel
theorem dm_X12_called_121 : mj_dec prog_14_method_111_code 121 = some (.invokevirtual 523, 3) := by decide +kernel
theorem dm_X12_called_124 : mj_dec prog_14_method_111_code 124 = some (.istore 9, 2) := by decide +kernel
theorem dm_X12_called_126 : mj_dec prog_14_method_111_code 126 = some (.aload_n 0, 1) := by decide +kernel
theorem dm_X12_called_127 : mj_dec prog_14_method_111_code 127 = some (.iload 7, 2) := by decide +kernel
theorem dm_X12_called_129 : mj_dec prog_14_method_111_code 129 = some (.putfield 96, 3) := by decide +kernel
theorem dm_X12_called_132 : mj_dec prog_14_method_111_code 132 = some (.aload_n 0, 1) := by decide +kernel
theorem dm_X12_called_133 : mj_dec prog_14_method_111_code 133 = some (.iload 8, 2) := by decide +kernel
theorem dm_X12_called_135 : mj_dec prog_14_method_111_code 135 = some (.putfield 99, 3) := by decide +kernel
theorem dm_X12_called_138 : mj_dec prog_14_method_111_code 138 = some (.aload_n 0, 1) := by decide +kernel
theorem dm_X12_called_139 : mj_dec prog_14_method_111_code 139 = some (.dup, 1) := by decide +kernel
theorem dm_X12_called_140 : mj_dec prog_14_method_111_code 140 = some (.getfield 184, 3) := by decide +kernel
theorem dm_X12_called_143 : mj_dec prog_14_method_111_code 143 = some (.iconst 1, 1) := by decide +kernel
theorem dm_X12_called_144 : mj_dec prog_14_method_111_code 144 = some (.isub, 1) := by decide +kernel
theorem dm_X12_called_145 : mj_dec prog_14_method_111_code 145 = some (.putfield 184, 3) := by decide +kernel
theorem dm_X12_called_148 : mj_dec prog_14_method_111_code 148 = some (.iload 9, 2) := by decide +kernel
theorem dm_X12_called_150 : mj_dec prog_14_method_111_code 150 = some (.ireturn, 1) := by decide +kernel
theorem c_goA {xt : mj_X} {d : Nat} {pre post : mj_H} {t : RS} (hm : pre.length = 102) (hd1 : 1 ≤ d) {key : Int64} {wz p : Int} {Q : RS → Int → Prop} (hd2 : 3 ≤ d) (h5 : t.1 5 = 0) (hca : 0 ≤ t.1 10 ∧ t.1 10 ≤ 10) (h8 : 0 ≤ t.1 8 ∧ t.1 8 ≤ 500000) {n m : Nat} (hn : t.1 23 = (n : Int)) (hmn : t.1 24 = (m : Int)) (hn4 : n ≤ 40) (hm4 : m ≤ 40) {j : Nat} (hf : fndK (t.2.2.2 20) m key = j) (hj : j < m) (h10 : t.1 10 ≠ 10) (hW : 5 ≤ t.1 8) {Q1 : RS → Int → Prop} (hc : pgV xt (d - 1) 239 [.ref 102, ii (t.2.2.1 22 j)] (rS pre post (caS t p wz (-1))) (RA pre post Q1)) (k : ∀ u y, Q1 u y → Q (coS t u) y) : pgV xt d 280 [.ref 102, .long key, ii (-1), ii wz, ii p] (rS pre post t) (RA pre post Q) := by
  refine x_enter pm_X12_called (L0 := [(0, .ref 102), (1, .long key), (3, ii (-1)), (4, ii wz), (5, ii p)]) rfl (Nat.le_of_ble_eq_true rfl) (by omega) ?_
  refine me1 (pc' := 1) (L' := [(0, .ref 102), (1, .long key), (3, ii (-1)), (4, ii wz), (5, ii p)]) (S' := [.ref 102]) dm_X12_called_0 rfl rfl rfl rfl ?_
  refine me1 (pc' := 2) (L' := [(0, .ref 102), (1, .long key), (3, ii (-1)), (4, ii wz), (5, ii p)]) (S' := [.long key, .ref 102]) dm_X12_called_1 rfl rfl rfl rfl ?_
  refine x_cp (pc' := 5) (v := ii (fndR (t.2.2.2 20) m key)) (rest := []) dm_X12_called_2 rfl (q_inv (As := [.long key]) (S := []) hm rfl rfl rfl) rfl rfl rfl (r_functionNamed_ (n := n) (m := m) hm (by omega) hn hmn hn4 hm4) ?_
  refine pg_st (S' := [ii ((j : Nat) : Int)]) (congrArg (fun z => ii z :: []) (by rw [fndR_y (by omega), hf])) ?_
  refine me1 (pc' := 7) (L' := [(6, ii ((j : Nat) : Int)), (0, .ref 102), (1, .long key), (3, ii (-1)), (4, ii wz), (5, ii p)]) (S' := []) dm_X12_called_5 rfl rfl rfl rfl ?_
  refine me1 (pc' := 9) (L' := [(6, ii ((j : Nat) : Int)), (0, .ref 102), (1, .long key), (3, ii (-1)), (4, ii wz), (5, ii p)]) (S' := [ii ((j : Nat) : Int)]) dm_X12_called_7 rfl rfl rfl rfl ?_
  refine y_1ge (a := ((j : Nat) : Int)) (t := 20) (pc' := 12) dm_X12_called_9 rfl rfl (by omega) (fun hb1 => ?_) (fun hb1 => ?_)
  · refine me1 (pc' := 21) (L' := [(6, ii ((j : Nat) : Int)), (0, .ref 102), (1, .long key), (3, ii (-1)), (4, ii wz), (5, ii p)]) (S' := [.ref 102]) dm_X12_called_20 rfl rfl rfl rfl ?_
    refine me3 (pc' := 24) (S' := [ii (t.1 10)]) dm_X12_called_21 (q_geti (v := t.1 10) hm rfl (fun m i l => rg_10 m i l) rfl) rfl rfl rfl ?_
    refine me0 (pc' := 26) (S' := [ii 10, ii (t.1 10)]) dm_X12_called_24 rfl rfl rfl rfl ?_
    refine y_2ne (a := t.1 10) (b := 10) (t := 38) (pc' := 29) dm_X12_called_26 rfl rfl (by omega) (fun hb2 => ?_) (fun hb2 => ?_)
    · refine me1 (pc' := 39) (L' := [(6, ii ((j : Nat) : Int)), (0, .ref 102), (1, .long key), (3, ii (-1)), (4, ii wz), (5, ii p)]) (S' := [.ref 102]) dm_X12_called_38 rfl rfl rfl rfl ?_
      refine me0 (pc' := 40) (S' := [ii 5, .ref 102]) dm_X12_called_39 rfl rfl rfl rfl ?_
      refine me1 (pc' := 42) (L' := [(6, ii ((j : Nat) : Int)), (0, .ref 102), (1, .long key), (3, ii (-1)), (4, ii wz), (5, ii p)]) (S' := [ii p, ii 5, .ref 102]) dm_X12_called_40 rfl rfl rfl rfl ?_
      refine x_cv (pc' := 45) (rest := []) dm_X12_called_42 rfl (q_inv (As := [ii 5, ii p]) (S := []) hm rfl rfl rfl) rfl rfl rfl (r_takes_ (s := t) (n := 5) hm (by omega) h5 (by omega) (by omega) h8.1 h8.2 (by omega)) ?_
      rintro _ _ ⟨rfl, rfl⟩
      refine y_zne (c := decide ((5 : Int) ≤ t.1 8)) (t := 50) (pc' := 48) dm_X12_called_45 rfl rfl (fun hb3 => ?_) (fun hb3 => ?_)
      · replace hb3 := dT hb3
        refine pg_cast (h2 := rI pre post ((takeS t 5).1) ((takeS t 5).2.1) ((takeS t 5).2.2.1) ((takeS t 5).2.2.2)) (by rw [tkS_t (by omega)]) ?_
        refine me1 (pc' := 51) (L' := [(6, ii ((j : Nat) : Int)), (0, .ref 102), (1, .long key), (3, ii (-1)), (4, ii wz), (5, ii p)]) (S' := [.ref 102]) dm_X12_called_50 rfl rfl rfl rfl ?_
        refine me3 (pc' := 54) (S' := [ii (((takeS t 5).1) 58)]) dm_X12_called_51 (q_geti (v := ((takeS t 5).1) 58) hm rfl (fun m i l => rg_58 m i l) rfl) rfl rfl rfl ?_
        refine me1 (pc' := 56) (L' := [(7, ii (((takeS t 5).1) 58)), (6, ii ((j : Nat) : Int)), (0, .ref 102), (1, .long key), (3, ii (-1)), (4, ii wz), (5, ii p)]) (S' := []) dm_X12_called_54 rfl rfl rfl rfl ?_
        refine me1 (pc' := 57) (L' := [(7, ii (((takeS t 5).1) 58)), (6, ii ((j : Nat) : Int)), (0, .ref 102), (1, .long key), (3, ii (-1)), (4, ii wz), (5, ii p)]) (S' := [.ref 102]) dm_X12_called_56 rfl rfl rfl rfl ?_
        refine me3 (pc' := 60) (S' := [ii (((takeS t 5).1) 59)]) dm_X12_called_57 (q_geti (v := ((takeS t 5).1) 59) hm rfl (fun m i l => rg_59 m i l) rfl) rfl rfl rfl ?_
        refine me1 (pc' := 62) (L' := [(8, ii (((takeS t 5).1) 59)), (7, ii (((takeS t 5).1) 58)), (6, ii ((j : Nat) : Int)), (0, .ref 102), (1, .long key), (3, ii (-1)), (4, ii wz), (5, ii p)]) (S' := []) dm_X12_called_60 rfl rfl rfl rfl ?_
        refine me1 (pc' := 63) (L' := [(8, ii (((takeS t 5).1) 59)), (7, ii (((takeS t 5).1) 58)), (6, ii ((j : Nat) : Int)), (0, .ref 102), (1, .long key), (3, ii (-1)), (4, ii wz), (5, ii p)]) (S' := [.ref 102]) dm_X12_called_62 rfl rfl rfl rfl ?_
        refine me3 (pc' := 66) (S' := [ii (((takeS t 5).1) 10)]) dm_X12_called_63 (q_geti (v := ((takeS t 5).1) 10) hm rfl (fun m i l => rg_10 m i l) rfl) rfl rfl rfl ?_
        refine pg_st (S' := [ii (t.1 10)]) (congrArg (fun z => ii z :: []) (takeS_k (by decide) (by decide))) ?_
        refine y_1ne (a := t.1 10) (t := 75) (pc' := 69) dm_X12_called_66 rfl rfl (by omega) (fun hb4 => ?_) (fun hb4 => ?_)
        · refine pg_cast (h2 := rI pre post ((c11 t p).1) ((c11 t p).2.1) ((c11 t p).2.2.1) ((c11 t p).2.2.2)) (by first | exact congrArg (rS pre post) (c11_0 (by omega)) | exact congrArg (rS pre post) (c11_1 (by omega))) ?_
          refine me1 (pc' := 76) (L' := [(8, ii (((takeS t 5).1) 59)), (7, ii (((takeS t 5).1) 58)), (6, ii ((j : Nat) : Int)), (0, .ref 102), (1, .long key), (3, ii (-1)), (4, ii wz), (5, ii p)]) (S' := [.ref 102]) dm_X12_called_75 rfl rfl rfl rfl ?_
          refine me0 (pc' := 77) (S' := [.ref 102, .ref 102]) dm_X12_called_76 rfl rfl rfl rfl ?_
          refine me3 (pc' := 80) (S' := [ii (((c11 t p).1) 10), .ref 102]) dm_X12_called_77 (q_geti (v := ((c11 t p).1) 10) hm rfl (fun m i l => rg_10 m i l) rfl) rfl rfl rfl ?_
          refine me0 (pc' := 81) (S' := [ii 1, ii (((c11 t p).1) 10), .ref 102]) dm_X12_called_80 rfl rfl rfl rfl ?_
          refine y_iadd (a := ((c11 t p).1) 10) (b := 1) dm_X12_called_81 (pc' := 82) rfl ?_
          refine me3 (pc' := 85) (S' := []) (h1 := rI pre post (va_up ((c11 t p).1) 10 ((((c11 t p).1) 10) + 1)) ((c11 t p).2.1) ((c11 t p).2.2.1) ((c11 t p).2.2.2)) dm_X12_called_82 (q_puti hm rfl rfl (fun m i l v => rf_10 m i l v)) rfl rfl rfl ?_
          refine me1 (pc' := 86) (L' := [(8, ii (((takeS t 5).1) 59)), (7, ii (((takeS t 5).1) 58)), (6, ii ((j : Nat) : Int)), (0, .ref 102), (1, .long key), (3, ii (-1)), (4, ii wz), (5, ii p)]) (S' := [.ref 102]) dm_X12_called_85 rfl rfl rfl rfl ?_
          refine me1 (pc' := 87) (L' := [(8, ii (((takeS t 5).1) 59)), (7, ii (((takeS t 5).1) 58)), (6, ii ((j : Nat) : Int)), (0, .ref 102), (1, .long key), (3, ii (-1)), (4, ii wz), (5, ii p)]) (S' := [ii (-1), .ref 102]) dm_X12_called_86 rfl rfl rfl rfl ?_
          refine me_1f (pc' := 90) dm_X12_called_87 rfl (by decide) rfl ?_
          refine me1 (pc' := 92) (L' := [(8, ii (((takeS t 5).1) 59)), (7, ii (((takeS t 5).1) 58)), (6, ii ((j : Nat) : Int)), (0, .ref 102), (1, .long key), (3, ii (-1)), (4, ii wz), (5, ii p)]) (S' := [ii wz, .ref 102]) dm_X12_called_90 rfl rfl rfl rfl ?_
          refine me2 (pc' := 96) (S' := [ii wz, .ref 102]) dm_X12_called_92 rfl rfl rfl ?_
          refine me3 (pc' := 99) (S' := []) (h1 := rI pre post (va_up (va_up ((c11 t p).1) 10 ((((c11 t p).1) 10) + 1)) 58 wz) ((c11 t p).2.1) ((c11 t p).2.2.1) ((c11 t p).2.2.2)) dm_X12_called_96 (q_puti hm rfl rfl (fun m i l v => rf_58 m i l v)) rfl rfl rfl ?_
          refine me1 (pc' := 100) (L' := [(8, ii (((takeS t 5).1) 59)), (7, ii (((takeS t 5).1) 58)), (6, ii ((j : Nat) : Int)), (0, .ref 102), (1, .long key), (3, ii (-1)), (4, ii wz), (5, ii p)]) (S' := [.ref 102]) dm_X12_called_99 rfl rfl rfl rfl ?_
          refine me1 (pc' := 101) (L' := [(8, ii (((takeS t 5).1) 59)), (7, ii (((takeS t 5).1) 58)), (6, ii ((j : Nat) : Int)), (0, .ref 102), (1, .long key), (3, ii (-1)), (4, ii wz), (5, ii p)]) (S' := [ii (-1), .ref 102]) dm_X12_called_100 rfl rfl rfl rfl ?_
          refine me_1f (pc' := 104) dm_X12_called_101 rfl (by decide) rfl ?_
          refine me0 (pc' := 105) (S' := [ii (-1), .ref 102]) dm_X12_called_104 rfl rfl rfl rfl ?_
          refine me2 (pc' := 110) (S' := [ii (-1), .ref 102]) dm_X12_called_105 rfl rfl rfl ?_
          refine me3 (pc' := 113) (S' := []) (h1 := rI pre post (va_up (va_up (va_up ((c11 t p).1) 10 ((((c11 t p).1) 10) + 1)) 58 wz) 59 (-1)) ((c11 t p).2.1) ((c11 t p).2.2.1) ((c11 t p).2.2.2)) dm_X12_called_110 (q_puti hm rfl rfl (fun m i l v => rf_59 m i l v)) rfl rfl rfl ?_
          refine pg_cast (h2 := rI pre post ((caS t p wz (-1)).1) ((caS t p wz (-1)).2.1) ((caS t p wz (-1)).2.2.1) ((caS t p wz (-1)).2.2.2)) (by first | rfl | exact congrArg (rS pre post) rfl) ?_
          refine me1 (pc' := 114) (L' := [(8, ii (((takeS t 5).1) 59)), (7, ii (((takeS t 5).1) 58)), (6, ii ((j : Nat) : Int)), (0, .ref 102), (1, .long key), (3, ii (-1)), (4, ii wz), (5, ii p)]) (S' := [.ref 102]) dm_X12_called_113 rfl rfl rfl rfl ?_
          refine me1 (pc' := 115) (L' := [(8, ii (((takeS t 5).1) 59)), (7, ii (((takeS t 5).1) 58)), (6, ii ((j : Nat) : Int)), (0, .ref 102), (1, .long key), (3, ii (-1)), (4, ii wz), (5, ii p)]) (S' := [.ref 102, .ref 102]) dm_X12_called_114 rfl rfl rfl rfl ?_
          refine me3 (pc' := 118) (S' := [.ref (102 + 11), .ref 102]) dm_X12_called_115 (q_getr hm rfl (fun m i l => rg_22 m i l)) rfl rfl rfl ?_
          refine me1 (pc' := 120) (L' := [(8, ii (((takeS t 5).1) 59)), (7, ii (((takeS t 5).1) 58)), (6, ii ((j : Nat) : Int)), (0, .ref 102), (1, .long key), (3, ii (-1)), (4, ii wz), (5, ii p)]) (S' := [ii ((j : Nat) : Int), .ref (102 + 11), .ref 102]) dm_X12_called_118 rfl rfl rfl rfl ?_
          refine me3 (pc' := 121) (S' := [ii ((((caS t p wz (-1)).2.2.1) 22) j), .ref 102]) dm_X12_called_120 (q_iald (v := (((caS t p wz (-1)).2.2.1) 22) j) (k := 22) (n := 40) hm (fun m i l I J => rc_22 m i l I J) (by omega) (by omega) (by decide) rfl) rfl rfl rfl ?_
          refine x_cv (pc' := 124) (rest := []) dm_X12_called_121 rfl (q_inv (As := [ii ((((caS t p wz (-1)).2.2.1) 22) j)]) (S := []) hm rfl rfl rfl) rfl rfl rfl (hc) ?_
          rintro x1 g1 f1
          obtain ⟨t1, z1, rfl, rfl, hE1, hZ1, hQ1⟩ := f1
          refine me1 (pc' := 126) (L' := [(9, ii z1), (8, ii (((takeS t 5).1) 59)), (7, ii (((takeS t 5).1) 58)), (6, ii ((j : Nat) : Int)), (0, .ref 102), (1, .long key), (3, ii (-1)), (4, ii wz), (5, ii p)]) (S' := []) dm_X12_called_124 rfl rfl rfl rfl ?_
          refine me1 (pc' := 127) (L' := [(9, ii z1), (8, ii (((takeS t 5).1) 59)), (7, ii (((takeS t 5).1) 58)), (6, ii ((j : Nat) : Int)), (0, .ref 102), (1, .long key), (3, ii (-1)), (4, ii wz), (5, ii p)]) (S' := [.ref 102]) dm_X12_called_126 rfl rfl rfl rfl ?_
          refine me1 (pc' := 129) (L' := [(9, ii z1), (8, ii (((takeS t 5).1) 59)), (7, ii (((takeS t 5).1) 58)), (6, ii ((j : Nat) : Int)), (0, .ref 102), (1, .long key), (3, ii (-1)), (4, ii wz), (5, ii p)]) (S' := [ii (((takeS t 5).1) 58), .ref 102]) dm_X12_called_127 rfl rfl rfl rfl ?_
          refine me3 (pc' := 132) (S' := []) (h1 := rI pre post (va_up t1.1 58 (((takeS t 5).1) 58)) t1.2.1 t1.2.2.1 t1.2.2.2) dm_X12_called_129 (q_puti hm rfl rfl (fun m i l v => rf_58 m i l v)) rfl rfl rfl ?_
          refine me1 (pc' := 133) (L' := [(9, ii z1), (8, ii (((takeS t 5).1) 59)), (7, ii (((takeS t 5).1) 58)), (6, ii ((j : Nat) : Int)), (0, .ref 102), (1, .long key), (3, ii (-1)), (4, ii wz), (5, ii p)]) (S' := [.ref 102]) dm_X12_called_132 rfl rfl rfl rfl ?_
          refine me1 (pc' := 135) (L' := [(9, ii z1), (8, ii (((takeS t 5).1) 59)), (7, ii (((takeS t 5).1) 58)), (6, ii ((j : Nat) : Int)), (0, .ref 102), (1, .long key), (3, ii (-1)), (4, ii wz), (5, ii p)]) (S' := [ii (((takeS t 5).1) 59), .ref 102]) dm_X12_called_133 rfl rfl rfl rfl ?_
          refine me3 (pc' := 138) (S' := []) (h1 := rI pre post (va_up (va_up t1.1 58 (((takeS t 5).1) 58)) 59 (((takeS t 5).1) 59)) t1.2.1 t1.2.2.1 t1.2.2.2) dm_X12_called_135 (q_puti hm rfl rfl (fun m i l v => rf_59 m i l v)) rfl rfl rfl ?_
          refine me1 (pc' := 139) (L' := [(9, ii z1), (8, ii (((takeS t 5).1) 59)), (7, ii (((takeS t 5).1) 58)), (6, ii ((j : Nat) : Int)), (0, .ref 102), (1, .long key), (3, ii (-1)), (4, ii wz), (5, ii p)]) (S' := [.ref 102]) dm_X12_called_138 rfl rfl rfl rfl ?_
          refine me0 (pc' := 140) (S' := [.ref 102, .ref 102]) dm_X12_called_139 rfl rfl rfl rfl ?_
          refine me3 (pc' := 143) (S' := [ii (t1.1 10), .ref 102]) dm_X12_called_140 (q_geti (v := t1.1 10) hm rfl (fun m i l => rg_10 m i l) rfl) rfl rfl rfl ?_
          refine me0 (pc' := 144) (S' := [ii 1, ii (t1.1 10), .ref 102]) dm_X12_called_143 rfl rfl rfl rfl ?_
          refine y_isub (a := t1.1 10) (b := 1) dm_X12_called_144 (pc' := 145) rfl ?_
          refine me3 (pc' := 148) (S' := []) (h1 := rI pre post (va_up (va_up (va_up t1.1 58 (((takeS t 5).1) 58)) 59 (((takeS t 5).1) 59)) 10 ((t1.1 10) - 1)) t1.2.1 t1.2.2.1 t1.2.2.2) dm_X12_called_145 (q_puti hm rfl rfl (fun m i l v => rf_10 m i l v)) rfl rfl rfl ?_
          refine me1 (pc' := 150) (L' := [(9, ii z1), (8, ii (((takeS t 5).1) 59)), (7, ii (((takeS t 5).1) 58)), (6, ii ((j : Nat) : Int)), (0, .ref 102), (1, .long key), (3, ii (-1)), (4, ii wz), (5, ii p)]) (S' := [ii z1]) dm_X12_called_148 rfl rfl rfl rfl ?_
          refine y_ret (r := some (ii z1)) dm_X12_called_150 rfl rfl rfl ?_
          have eF : rI pre post (va_up (va_up (va_up t1.1 58 (((takeS t 5).1) 58)) 59 (((takeS t 5).1) 59)) 10 ((t1.1 10) - 1)) t1.2.1 t1.2.2.1 t1.2.2.2 = rS pre post (coS t t1) := by first | rfl | exact congrArg (rS pre post) (coS_e _ _)
          rw [eF]
          exact ⟨_, rfl, _, _, rfl, rfl, hE1, hZ1, k t1 z1 hQ1⟩
        · refine me1 (pc' := 70) (L' := [(8, ii (((takeS t 5).1) 59)), (7, ii (((takeS t 5).1) 58)), (6, ii ((j : Nat) : Int)), (0, .ref 102), (1, .long key), (3, ii (-1)), (4, ii wz), (5, ii p)]) (S' := [.ref 102]) dm_X12_called_69 rfl rfl rfl rfl ?_
          refine me1 (pc' := 72) (L' := [(8, ii (((takeS t 5).1) 59)), (7, ii (((takeS t 5).1) 58)), (6, ii ((j : Nat) : Int)), (0, .ref 102), (1, .long key), (3, ii (-1)), (4, ii wz), (5, ii p)]) (S' := [ii p, .ref 102]) dm_X12_called_70 rfl rfl rfl rfl ?_
          refine me3 (pc' := 75) (S' := []) (h1 := rI pre post (va_up ((takeS t 5).1) 11 p) ((takeS t 5).2.1) ((takeS t 5).2.2.1) ((takeS t 5).2.2.2)) dm_X12_called_72 (q_puti hm rfl rfl (fun m i l v => rf_11 m i l v)) rfl rfl rfl ?_
          refine pg_cast (h2 := rI pre post ((c11 t p).1) ((c11 t p).2.1) ((c11 t p).2.2.1) ((c11 t p).2.2.2)) (by first | exact congrArg (rS pre post) (c11_0 (by omega)) | exact congrArg (rS pre post) (c11_1 (by omega))) ?_
          refine me1 (pc' := 76) (L' := [(8, ii (((takeS t 5).1) 59)), (7, ii (((takeS t 5).1) 58)), (6, ii ((j : Nat) : Int)), (0, .ref 102), (1, .long key), (3, ii (-1)), (4, ii wz), (5, ii p)]) (S' := [.ref 102]) dm_X12_called_75 rfl rfl rfl rfl ?_
          refine me0 (pc' := 77) (S' := [.ref 102, .ref 102]) dm_X12_called_76 rfl rfl rfl rfl ?_
          refine me3 (pc' := 80) (S' := [ii (((c11 t p).1) 10), .ref 102]) dm_X12_called_77 (q_geti (v := ((c11 t p).1) 10) hm rfl (fun m i l => rg_10 m i l) rfl) rfl rfl rfl ?_
          refine me0 (pc' := 81) (S' := [ii 1, ii (((c11 t p).1) 10), .ref 102]) dm_X12_called_80 rfl rfl rfl rfl ?_
          refine y_iadd (a := ((c11 t p).1) 10) (b := 1) dm_X12_called_81 (pc' := 82) rfl ?_
          refine me3 (pc' := 85) (S' := []) (h1 := rI pre post (va_up ((c11 t p).1) 10 ((((c11 t p).1) 10) + 1)) ((c11 t p).2.1) ((c11 t p).2.2.1) ((c11 t p).2.2.2)) dm_X12_called_82 (q_puti hm rfl rfl (fun m i l v => rf_10 m i l v)) rfl rfl rfl ?_
          refine me1 (pc' := 86) (L' := [(8, ii (((takeS t 5).1) 59)), (7, ii (((takeS t 5).1) 58)), (6, ii ((j : Nat) : Int)), (0, .ref 102), (1, .long key), (3, ii (-1)), (4, ii wz), (5, ii p)]) (S' := [.ref 102]) dm_X12_called_85 rfl rfl rfl rfl ?_
          refine me1 (pc' := 87) (L' := [(8, ii (((takeS t 5).1) 59)), (7, ii (((takeS t 5).1) 58)), (6, ii ((j : Nat) : Int)), (0, .ref 102), (1, .long key), (3, ii (-1)), (4, ii wz), (5, ii p)]) (S' := [ii (-1), .ref 102]) dm_X12_called_86 rfl rfl rfl rfl ?_
          refine me_1f (pc' := 90) dm_X12_called_87 rfl (by decide) rfl ?_
          refine me1 (pc' := 92) (L' := [(8, ii (((takeS t 5).1) 59)), (7, ii (((takeS t 5).1) 58)), (6, ii ((j : Nat) : Int)), (0, .ref 102), (1, .long key), (3, ii (-1)), (4, ii wz), (5, ii p)]) (S' := [ii wz, .ref 102]) dm_X12_called_90 rfl rfl rfl rfl ?_
          refine me2 (pc' := 96) (S' := [ii wz, .ref 102]) dm_X12_called_92 rfl rfl rfl ?_
          refine me3 (pc' := 99) (S' := []) (h1 := rI pre post (va_up (va_up ((c11 t p).1) 10 ((((c11 t p).1) 10) + 1)) 58 wz) ((c11 t p).2.1) ((c11 t p).2.2.1) ((c11 t p).2.2.2)) dm_X12_called_96 (q_puti hm rfl rfl (fun m i l v => rf_58 m i l v)) rfl rfl rfl ?_
          refine me1 (pc' := 100) (L' := [(8, ii (((takeS t 5).1) 59)), (7, ii (((takeS t 5).1) 58)), (6, ii ((j : Nat) : Int)), (0, .ref 102), (1, .long key), (3, ii (-1)), (4, ii wz), (5, ii p)]) (S' := [.ref 102]) dm_X12_called_99 rfl rfl rfl rfl ?_
          refine me1 (pc' := 101) (L' := [(8, ii (((takeS t 5).1) 59)), (7, ii (((takeS t 5).1) 58)), (6, ii ((j : Nat) : Int)), (0, .ref 102), (1, .long key), (3, ii (-1)), (4, ii wz), (5, ii p)]) (S' := [ii (-1), .ref 102]) dm_X12_called_100 rfl rfl rfl rfl ?_
          refine me_1f (pc' := 104) dm_X12_called_101 rfl (by decide) rfl ?_
          refine me0 (pc' := 105) (S' := [ii (-1), .ref 102]) dm_X12_called_104 rfl rfl rfl rfl ?_
          refine me2 (pc' := 110) (S' := [ii (-1), .ref 102]) dm_X12_called_105 rfl rfl rfl ?_
          refine me3 (pc' := 113) (S' := []) (h1 := rI pre post (va_up (va_up (va_up ((c11 t p).1) 10 ((((c11 t p).1) 10) + 1)) 58 wz) 59 (-1)) ((c11 t p).2.1) ((c11 t p).2.2.1) ((c11 t p).2.2.2)) dm_X12_called_110 (q_puti hm rfl rfl (fun m i l v => rf_59 m i l v)) rfl rfl rfl ?_
          refine pg_cast (h2 := rI pre post ((caS t p wz (-1)).1) ((caS t p wz (-1)).2.1) ((caS t p wz (-1)).2.2.1) ((caS t p wz (-1)).2.2.2)) (by first | rfl | exact congrArg (rS pre post) rfl) ?_
          refine me1 (pc' := 114) (L' := [(8, ii (((takeS t 5).1) 59)), (7, ii (((takeS t 5).1) 58)), (6, ii ((j : Nat) : Int)), (0, .ref 102), (1, .long key), (3, ii (-1)), (4, ii wz), (5, ii p)]) (S' := [.ref 102]) dm_X12_called_113 rfl rfl rfl rfl ?_
          refine me1 (pc' := 115) (L' := [(8, ii (((takeS t 5).1) 59)), (7, ii (((takeS t 5).1) 58)), (6, ii ((j : Nat) : Int)), (0, .ref 102), (1, .long key), (3, ii (-1)), (4, ii wz), (5, ii p)]) (S' := [.ref 102, .ref 102]) dm_X12_called_114 rfl rfl rfl rfl ?_
          refine me3 (pc' := 118) (S' := [.ref (102 + 11), .ref 102]) dm_X12_called_115 (q_getr hm rfl (fun m i l => rg_22 m i l)) rfl rfl rfl ?_
          refine me1 (pc' := 120) (L' := [(8, ii (((takeS t 5).1) 59)), (7, ii (((takeS t 5).1) 58)), (6, ii ((j : Nat) : Int)), (0, .ref 102), (1, .long key), (3, ii (-1)), (4, ii wz), (5, ii p)]) (S' := [ii ((j : Nat) : Int), .ref (102 + 11), .ref 102]) dm_X12_called_118 rfl rfl rfl rfl ?_
          refine me3 (pc' := 121) (S' := [ii ((((caS t p wz (-1)).2.2.1) 22) j), .ref 102]) dm_X12_called_120 (q_iald (v := (((caS t p wz (-1)).2.2.1) 22) j) (k := 22) (n := 40) hm (fun m i l I J => rc_22 m i l I J) (by omega) (by omega) (by decide) rfl) rfl rfl rfl ?_
          refine x_cv (pc' := 124) (rest := []) dm_X12_called_121 rfl (q_inv (As := [ii ((((caS t p wz (-1)).2.2.1) 22) j)]) (S := []) hm rfl rfl rfl) rfl rfl rfl (hc) ?_
          rintro x1 g1 f1
          obtain ⟨t1, z1, rfl, rfl, hE1, hZ1, hQ1⟩ := f1
          refine me1 (pc' := 126) (L' := [(9, ii z1), (8, ii (((takeS t 5).1) 59)), (7, ii (((takeS t 5).1) 58)), (6, ii ((j : Nat) : Int)), (0, .ref 102), (1, .long key), (3, ii (-1)), (4, ii wz), (5, ii p)]) (S' := []) dm_X12_called_124 rfl rfl rfl rfl ?_
          refine me1 (pc' := 127) (L' := [(9, ii z1), (8, ii (((takeS t 5).1) 59)), (7, ii (((takeS t 5).1) 58)), (6, ii ((j : Nat) : Int)), (0, .ref 102), (1, .long key), (3, ii (-1)), (4, ii wz), (5, ii p)]) (S' := [.ref 102]) dm_X12_called_126 rfl rfl rfl rfl ?_
          refine me1 (pc' := 129) (L' := [(9, ii z1), (8, ii (((takeS t 5).1) 59)), (7, ii (((takeS t 5).1) 58)), (6, ii ((j : Nat) : Int)), (0, .ref 102), (1, .long key), (3, ii (-1)), (4, ii wz), (5, ii p)]) (S' := [ii (((takeS t 5).1) 58), .ref 102]) dm_X12_called_127 rfl rfl rfl rfl ?_
          refine me3 (pc' := 132) (S' := []) (h1 := rI pre post (va_up t1.1 58 (((takeS t 5).1) 58)) t1.2.1 t1.2.2.1 t1.2.2.2) dm_X12_called_129 (q_puti hm rfl rfl (fun m i l v => rf_58 m i l v)) rfl rfl rfl ?_
          refine me1 (pc' := 133) (L' := [(9, ii z1), (8, ii (((takeS t 5).1) 59)), (7, ii (((takeS t 5).1) 58)), (6, ii ((j : Nat) : Int)), (0, .ref 102), (1, .long key), (3, ii (-1)), (4, ii wz), (5, ii p)]) (S' := [.ref 102]) dm_X12_called_132 rfl rfl rfl rfl ?_
          refine me1 (pc' := 135) (L' := [(9, ii z1), (8, ii (((takeS t 5).1) 59)), (7, ii (((takeS t 5).1) 58)), (6, ii ((j : Nat) : Int)), (0, .ref 102), (1, .long key), (3, ii (-1)), (4, ii wz), (5, ii p)]) (S' := [ii (((takeS t 5).1) 59), .ref 102]) dm_X12_called_133 rfl rfl rfl rfl ?_
          refine me3 (pc' := 138) (S' := []) (h1 := rI pre post (va_up (va_up t1.1 58 (((takeS t 5).1) 58)) 59 (((takeS t 5).1) 59)) t1.2.1 t1.2.2.1 t1.2.2.2) dm_X12_called_135 (q_puti hm rfl rfl (fun m i l v => rf_59 m i l v)) rfl rfl rfl ?_
          refine me1 (pc' := 139) (L' := [(9, ii z1), (8, ii (((takeS t 5).1) 59)), (7, ii (((takeS t 5).1) 58)), (6, ii ((j : Nat) : Int)), (0, .ref 102), (1, .long key), (3, ii (-1)), (4, ii wz), (5, ii p)]) (S' := [.ref 102]) dm_X12_called_138 rfl rfl rfl rfl ?_
          refine me0 (pc' := 140) (S' := [.ref 102, .ref 102]) dm_X12_called_139 rfl rfl rfl rfl ?_
          refine me3 (pc' := 143) (S' := [ii (t1.1 10), .ref 102]) dm_X12_called_140 (q_geti (v := t1.1 10) hm rfl (fun m i l => rg_10 m i l) rfl) rfl rfl rfl ?_
          refine me0 (pc' := 144) (S' := [ii 1, ii (t1.1 10), .ref 102]) dm_X12_called_143 rfl rfl rfl rfl ?_
          refine y_isub (a := t1.1 10) (b := 1) dm_X12_called_144 (pc' := 145) rfl ?_
          refine me3 (pc' := 148) (S' := []) (h1 := rI pre post (va_up (va_up (va_up t1.1 58 (((takeS t 5).1) 58)) 59 (((takeS t 5).1) 59)) 10 ((t1.1 10) - 1)) t1.2.1 t1.2.2.1 t1.2.2.2) dm_X12_called_145 (q_puti hm rfl rfl (fun m i l v => rf_10 m i l v)) rfl rfl rfl ?_
          refine me1 (pc' := 150) (L' := [(9, ii z1), (8, ii (((takeS t 5).1) 59)), (7, ii (((takeS t 5).1) 58)), (6, ii ((j : Nat) : Int)), (0, .ref 102), (1, .long key), (3, ii (-1)), (4, ii wz), (5, ii p)]) (S' := [ii z1]) dm_X12_called_148 rfl rfl rfl rfl ?_
          refine y_ret (r := some (ii z1)) dm_X12_called_150 rfl rfl rfl ?_
          have eF : rI pre post (va_up (va_up (va_up t1.1 58 (((takeS t 5).1) 58)) 59 (((takeS t 5).1) 59)) 10 ((t1.1 10) - 1)) t1.2.1 t1.2.2.1 t1.2.2.2 = rS pre post (coS t t1) := by first | rfl | exact congrArg (rS pre post) (coS_e _ _)
          rw [eF]
          exact ⟨_, rfl, _, _, rfl, rfl, hE1, hZ1, k t1 z1 hQ1⟩
      · replace hb3 := dF hb3; exfalso; omega
    · exfalso; omega
  · exfalso; omega
theorem dm_X12_called_95 : mj_dec prog_14_method_111_code 95 = some (.iload_n 3, 1) := by decide +kernel
theorem dm_X12_called_108 : mj_dec prog_14_method_111_code 108 = some (.iload 4, 2) := by decide +kernel
theorem c_goB {xt : mj_X} {d : Nat} {pre post : mj_H} {t : RS} (hm : pre.length = 102) (hd1 : 1 ≤ d) {key : Int64} {wz p : Int} {Q : RS → Int → Prop} (hd2 : 3 ≤ d) (h5 : t.1 5 = 0) (hca : 0 ≤ t.1 10 ∧ t.1 10 ≤ 10) (h8 : 0 ≤ t.1 8 ∧ t.1 8 ≤ 500000) {n m : Nat} (hn : t.1 23 = (n : Int)) (hmn : t.1 24 = (m : Int)) (hn4 : n ≤ 40) (hm4 : m ≤ 40) {j : Nat} (hf : fndK (t.2.2.2 20) m key = j) (hj : j < m) {lq : Nat} (hLq : lq < 310000) (h10 : t.1 10 ≠ 10) (hW : 5 ≤ t.1 8) {Q1 : RS → Int → Prop} (hc : pgV xt (d - 1) 239 [.ref 102, ii (t.2.2.1 22 j)] (rS pre post (caS t p (lq : Int) wz)) (RA pre post Q1)) (k : ∀ u y, Q1 u y → Q (coS t u) y) : pgV xt d 280 [.ref 102, .long key, ii (lq : Int), ii wz, ii p] (rS pre post t) (RA pre post Q) := by
  refine x_enter pm_X12_called (L0 := [(0, .ref 102), (1, .long key), (3, ii (lq : Int)), (4, ii wz), (5, ii p)]) rfl (Nat.le_of_ble_eq_true rfl) (by omega) ?_
  refine me1 (pc' := 1) (L' := [(0, .ref 102), (1, .long key), (3, ii (lq : Int)), (4, ii wz), (5, ii p)]) (S' := [.ref 102]) dm_X12_called_0 rfl rfl rfl rfl ?_
  refine me1 (pc' := 2) (L' := [(0, .ref 102), (1, .long key), (3, ii (lq : Int)), (4, ii wz), (5, ii p)]) (S' := [.long key, .ref 102]) dm_X12_called_1 rfl rfl rfl rfl ?_
  refine x_cp (pc' := 5) (v := ii (fndR (t.2.2.2 20) m key)) (rest := []) dm_X12_called_2 rfl (q_inv (As := [.long key]) (S := []) hm rfl rfl rfl) rfl rfl rfl (r_functionNamed_ (n := n) (m := m) hm (by omega) hn hmn hn4 hm4) ?_
  refine pg_st (S' := [ii ((j : Nat) : Int)]) (congrArg (fun z => ii z :: []) (by rw [fndR_y (by omega), hf])) ?_
  refine me1 (pc' := 7) (L' := [(6, ii ((j : Nat) : Int)), (0, .ref 102), (1, .long key), (3, ii (lq : Int)), (4, ii wz), (5, ii p)]) (S' := []) dm_X12_called_5 rfl rfl rfl rfl ?_
  refine me1 (pc' := 9) (L' := [(6, ii ((j : Nat) : Int)), (0, .ref 102), (1, .long key), (3, ii (lq : Int)), (4, ii wz), (5, ii p)]) (S' := [ii ((j : Nat) : Int)]) dm_X12_called_7 rfl rfl rfl rfl ?_
  refine y_1ge (a := ((j : Nat) : Int)) (t := 20) (pc' := 12) dm_X12_called_9 rfl rfl (by omega) (fun hb1 => ?_) (fun hb1 => ?_)
  · refine me1 (pc' := 21) (L' := [(6, ii ((j : Nat) : Int)), (0, .ref 102), (1, .long key), (3, ii (lq : Int)), (4, ii wz), (5, ii p)]) (S' := [.ref 102]) dm_X12_called_20 rfl rfl rfl rfl ?_
    refine me3 (pc' := 24) (S' := [ii (t.1 10)]) dm_X12_called_21 (q_geti (v := t.1 10) hm rfl (fun m i l => rg_10 m i l) rfl) rfl rfl rfl ?_
    refine me0 (pc' := 26) (S' := [ii 10, ii (t.1 10)]) dm_X12_called_24 rfl rfl rfl rfl ?_
    refine y_2ne (a := t.1 10) (b := 10) (t := 38) (pc' := 29) dm_X12_called_26 rfl rfl (by omega) (fun hb2 => ?_) (fun hb2 => ?_)
    · refine me1 (pc' := 39) (L' := [(6, ii ((j : Nat) : Int)), (0, .ref 102), (1, .long key), (3, ii (lq : Int)), (4, ii wz), (5, ii p)]) (S' := [.ref 102]) dm_X12_called_38 rfl rfl rfl rfl ?_
      refine me0 (pc' := 40) (S' := [ii 5, .ref 102]) dm_X12_called_39 rfl rfl rfl rfl ?_
      refine me1 (pc' := 42) (L' := [(6, ii ((j : Nat) : Int)), (0, .ref 102), (1, .long key), (3, ii (lq : Int)), (4, ii wz), (5, ii p)]) (S' := [ii p, ii 5, .ref 102]) dm_X12_called_40 rfl rfl rfl rfl ?_
      refine x_cv (pc' := 45) (rest := []) dm_X12_called_42 rfl (q_inv (As := [ii 5, ii p]) (S := []) hm rfl rfl rfl) rfl rfl rfl (r_takes_ (s := t) (n := 5) hm (by omega) h5 (by omega) (by omega) h8.1 h8.2 (by omega)) ?_
      rintro _ _ ⟨rfl, rfl⟩
      refine y_zne (c := decide ((5 : Int) ≤ t.1 8)) (t := 50) (pc' := 48) dm_X12_called_45 rfl rfl (fun hb3 => ?_) (fun hb3 => ?_)
      · replace hb3 := dT hb3
        refine pg_cast (h2 := rI pre post ((takeS t 5).1) ((takeS t 5).2.1) ((takeS t 5).2.2.1) ((takeS t 5).2.2.2)) (by rw [tkS_t (by omega)]) ?_
        refine me1 (pc' := 51) (L' := [(6, ii ((j : Nat) : Int)), (0, .ref 102), (1, .long key), (3, ii (lq : Int)), (4, ii wz), (5, ii p)]) (S' := [.ref 102]) dm_X12_called_50 rfl rfl rfl rfl ?_
        refine me3 (pc' := 54) (S' := [ii (((takeS t 5).1) 58)]) dm_X12_called_51 (q_geti (v := ((takeS t 5).1) 58) hm rfl (fun m i l => rg_58 m i l) rfl) rfl rfl rfl ?_
        refine me1 (pc' := 56) (L' := [(7, ii (((takeS t 5).1) 58)), (6, ii ((j : Nat) : Int)), (0, .ref 102), (1, .long key), (3, ii (lq : Int)), (4, ii wz), (5, ii p)]) (S' := []) dm_X12_called_54 rfl rfl rfl rfl ?_
        refine me1 (pc' := 57) (L' := [(7, ii (((takeS t 5).1) 58)), (6, ii ((j : Nat) : Int)), (0, .ref 102), (1, .long key), (3, ii (lq : Int)), (4, ii wz), (5, ii p)]) (S' := [.ref 102]) dm_X12_called_56 rfl rfl rfl rfl ?_
        refine me3 (pc' := 60) (S' := [ii (((takeS t 5).1) 59)]) dm_X12_called_57 (q_geti (v := ((takeS t 5).1) 59) hm rfl (fun m i l => rg_59 m i l) rfl) rfl rfl rfl ?_
        refine me1 (pc' := 62) (L' := [(8, ii (((takeS t 5).1) 59)), (7, ii (((takeS t 5).1) 58)), (6, ii ((j : Nat) : Int)), (0, .ref 102), (1, .long key), (3, ii (lq : Int)), (4, ii wz), (5, ii p)]) (S' := []) dm_X12_called_60 rfl rfl rfl rfl ?_
        refine me1 (pc' := 63) (L' := [(8, ii (((takeS t 5).1) 59)), (7, ii (((takeS t 5).1) 58)), (6, ii ((j : Nat) : Int)), (0, .ref 102), (1, .long key), (3, ii (lq : Int)), (4, ii wz), (5, ii p)]) (S' := [.ref 102]) dm_X12_called_62 rfl rfl rfl rfl ?_
        refine me3 (pc' := 66) (S' := [ii (((takeS t 5).1) 10)]) dm_X12_called_63 (q_geti (v := ((takeS t 5).1) 10) hm rfl (fun m i l => rg_10 m i l) rfl) rfl rfl rfl ?_
        refine pg_st (S' := [ii (t.1 10)]) (congrArg (fun z => ii z :: []) (takeS_k (by decide) (by decide))) ?_
        refine y_1ne (a := t.1 10) (t := 75) (pc' := 69) dm_X12_called_66 rfl rfl (by omega) (fun hb4 => ?_) (fun hb4 => ?_)
        · refine pg_cast (h2 := rI pre post ((c11 t p).1) ((c11 t p).2.1) ((c11 t p).2.2.1) ((c11 t p).2.2.2)) (by first | exact congrArg (rS pre post) (c11_0 (by omega)) | exact congrArg (rS pre post) (c11_1 (by omega))) ?_
          refine me1 (pc' := 76) (L' := [(8, ii (((takeS t 5).1) 59)), (7, ii (((takeS t 5).1) 58)), (6, ii ((j : Nat) : Int)), (0, .ref 102), (1, .long key), (3, ii (lq : Int)), (4, ii wz), (5, ii p)]) (S' := [.ref 102]) dm_X12_called_75 rfl rfl rfl rfl ?_
          refine me0 (pc' := 77) (S' := [.ref 102, .ref 102]) dm_X12_called_76 rfl rfl rfl rfl ?_
          refine me3 (pc' := 80) (S' := [ii (((c11 t p).1) 10), .ref 102]) dm_X12_called_77 (q_geti (v := ((c11 t p).1) 10) hm rfl (fun m i l => rg_10 m i l) rfl) rfl rfl rfl ?_
          refine me0 (pc' := 81) (S' := [ii 1, ii (((c11 t p).1) 10), .ref 102]) dm_X12_called_80 rfl rfl rfl rfl ?_
          refine y_iadd (a := ((c11 t p).1) 10) (b := 1) dm_X12_called_81 (pc' := 82) rfl ?_
          refine me3 (pc' := 85) (S' := []) (h1 := rI pre post (va_up ((c11 t p).1) 10 ((((c11 t p).1) 10) + 1)) ((c11 t p).2.1) ((c11 t p).2.2.1) ((c11 t p).2.2.2)) dm_X12_called_82 (q_puti hm rfl rfl (fun m i l v => rf_10 m i l v)) rfl rfl rfl ?_
          refine me1 (pc' := 86) (L' := [(8, ii (((takeS t 5).1) 59)), (7, ii (((takeS t 5).1) 58)), (6, ii ((j : Nat) : Int)), (0, .ref 102), (1, .long key), (3, ii (lq : Int)), (4, ii wz), (5, ii p)]) (S' := [.ref 102]) dm_X12_called_85 rfl rfl rfl rfl ?_
          refine me1 (pc' := 87) (L' := [(8, ii (((takeS t 5).1) 59)), (7, ii (((takeS t 5).1) 58)), (6, ii ((j : Nat) : Int)), (0, .ref 102), (1, .long key), (3, ii (lq : Int)), (4, ii wz), (5, ii p)]) (S' := [ii (lq : Int), .ref 102]) dm_X12_called_86 rfl rfl rfl rfl ?_
          refine y_1ge (a := (lq : Int)) (t := 95) (pc' := 90) dm_X12_called_87 rfl rfl (by omega) (fun hb5 => ?_) (fun hb5 => ?_)
          · refine me1 (pc' := 96) (L' := [(8, ii (((takeS t 5).1) 59)), (7, ii (((takeS t 5).1) 58)), (6, ii ((j : Nat) : Int)), (0, .ref 102), (1, .long key), (3, ii (lq : Int)), (4, ii wz), (5, ii p)]) (S' := [ii (lq : Int), .ref 102]) dm_X12_called_95 rfl rfl rfl rfl ?_
            refine me3 (pc' := 99) (S' := []) (h1 := rI pre post (va_up (va_up ((c11 t p).1) 10 ((((c11 t p).1) 10) + 1)) 58 (lq : Int)) ((c11 t p).2.1) ((c11 t p).2.2.1) ((c11 t p).2.2.2)) dm_X12_called_96 (q_puti hm rfl rfl (fun m i l v => rf_58 m i l v)) rfl rfl rfl ?_
            refine me1 (pc' := 100) (L' := [(8, ii (((takeS t 5).1) 59)), (7, ii (((takeS t 5).1) 58)), (6, ii ((j : Nat) : Int)), (0, .ref 102), (1, .long key), (3, ii (lq : Int)), (4, ii wz), (5, ii p)]) (S' := [.ref 102]) dm_X12_called_99 rfl rfl rfl rfl ?_
            refine me1 (pc' := 101) (L' := [(8, ii (((takeS t 5).1) 59)), (7, ii (((takeS t 5).1) 58)), (6, ii ((j : Nat) : Int)), (0, .ref 102), (1, .long key), (3, ii (lq : Int)), (4, ii wz), (5, ii p)]) (S' := [ii (lq : Int), .ref 102]) dm_X12_called_100 rfl rfl rfl rfl ?_
            refine y_1ge (a := (lq : Int)) (t := 108) (pc' := 104) dm_X12_called_101 rfl rfl (by omega) (fun hb6 => ?_) (fun hb6 => ?_)
            · refine me1 (pc' := 110) (L' := [(8, ii (((takeS t 5).1) 59)), (7, ii (((takeS t 5).1) 58)), (6, ii ((j : Nat) : Int)), (0, .ref 102), (1, .long key), (3, ii (lq : Int)), (4, ii wz), (5, ii p)]) (S' := [ii wz, .ref 102]) dm_X12_called_108 rfl rfl rfl rfl ?_
              refine me3 (pc' := 113) (S' := []) (h1 := rI pre post (va_up (va_up (va_up ((c11 t p).1) 10 ((((c11 t p).1) 10) + 1)) 58 (lq : Int)) 59 wz) ((c11 t p).2.1) ((c11 t p).2.2.1) ((c11 t p).2.2.2)) dm_X12_called_110 (q_puti hm rfl rfl (fun m i l v => rf_59 m i l v)) rfl rfl rfl ?_
              refine pg_cast (h2 := rI pre post ((caS t p (lq : Int) wz).1) ((caS t p (lq : Int) wz).2.1) ((caS t p (lq : Int) wz).2.2.1) ((caS t p (lq : Int) wz).2.2.2)) (by first | rfl | exact congrArg (rS pre post) rfl) ?_
              refine me1 (pc' := 114) (L' := [(8, ii (((takeS t 5).1) 59)), (7, ii (((takeS t 5).1) 58)), (6, ii ((j : Nat) : Int)), (0, .ref 102), (1, .long key), (3, ii (lq : Int)), (4, ii wz), (5, ii p)]) (S' := [.ref 102]) dm_X12_called_113 rfl rfl rfl rfl ?_
              refine me1 (pc' := 115) (L' := [(8, ii (((takeS t 5).1) 59)), (7, ii (((takeS t 5).1) 58)), (6, ii ((j : Nat) : Int)), (0, .ref 102), (1, .long key), (3, ii (lq : Int)), (4, ii wz), (5, ii p)]) (S' := [.ref 102, .ref 102]) dm_X12_called_114 rfl rfl rfl rfl ?_
              refine me3 (pc' := 118) (S' := [.ref (102 + 11), .ref 102]) dm_X12_called_115 (q_getr hm rfl (fun m i l => rg_22 m i l)) rfl rfl rfl ?_
              refine me1 (pc' := 120) (L' := [(8, ii (((takeS t 5).1) 59)), (7, ii (((takeS t 5).1) 58)), (6, ii ((j : Nat) : Int)), (0, .ref 102), (1, .long key), (3, ii (lq : Int)), (4, ii wz), (5, ii p)]) (S' := [ii ((j : Nat) : Int), .ref (102 + 11), .ref 102]) dm_X12_called_118 rfl rfl rfl rfl ?_
              refine me3 (pc' := 121) (S' := [ii ((((caS t p (lq : Int) wz).2.2.1) 22) j), .ref 102]) dm_X12_called_120 (q_iald (v := (((caS t p (lq : Int) wz).2.2.1) 22) j) (k := 22) (n := 40) hm (fun m i l I J => rc_22 m i l I J) (by omega) (by omega) (by decide) rfl) rfl rfl rfl ?_
              refine x_cv (pc' := 124) (rest := []) dm_X12_called_121 rfl (q_inv (As := [ii ((((caS t p (lq : Int) wz).2.2.1) 22) j)]) (S := []) hm rfl rfl rfl) rfl rfl rfl (hc) ?_
              rintro x1 g1 f1
              obtain ⟨t1, z1, rfl, rfl, hE1, hZ1, hQ1⟩ := f1
              refine me1 (pc' := 126) (L' := [(9, ii z1), (8, ii (((takeS t 5).1) 59)), (7, ii (((takeS t 5).1) 58)), (6, ii ((j : Nat) : Int)), (0, .ref 102), (1, .long key), (3, ii (lq : Int)), (4, ii wz), (5, ii p)]) (S' := []) dm_X12_called_124 rfl rfl rfl rfl ?_
              refine me1 (pc' := 127) (L' := [(9, ii z1), (8, ii (((takeS t 5).1) 59)), (7, ii (((takeS t 5).1) 58)), (6, ii ((j : Nat) : Int)), (0, .ref 102), (1, .long key), (3, ii (lq : Int)), (4, ii wz), (5, ii p)]) (S' := [.ref 102]) dm_X12_called_126 rfl rfl rfl rfl ?_
              refine me1 (pc' := 129) (L' := [(9, ii z1), (8, ii (((takeS t 5).1) 59)), (7, ii (((takeS t 5).1) 58)), (6, ii ((j : Nat) : Int)), (0, .ref 102), (1, .long key), (3, ii (lq : Int)), (4, ii wz), (5, ii p)]) (S' := [ii (((takeS t 5).1) 58), .ref 102]) dm_X12_called_127 rfl rfl rfl rfl ?_
              refine me3 (pc' := 132) (S' := []) (h1 := rI pre post (va_up t1.1 58 (((takeS t 5).1) 58)) t1.2.1 t1.2.2.1 t1.2.2.2) dm_X12_called_129 (q_puti hm rfl rfl (fun m i l v => rf_58 m i l v)) rfl rfl rfl ?_
              refine me1 (pc' := 133) (L' := [(9, ii z1), (8, ii (((takeS t 5).1) 59)), (7, ii (((takeS t 5).1) 58)), (6, ii ((j : Nat) : Int)), (0, .ref 102), (1, .long key), (3, ii (lq : Int)), (4, ii wz), (5, ii p)]) (S' := [.ref 102]) dm_X12_called_132 rfl rfl rfl rfl ?_
              refine me1 (pc' := 135) (L' := [(9, ii z1), (8, ii (((takeS t 5).1) 59)), (7, ii (((takeS t 5).1) 58)), (6, ii ((j : Nat) : Int)), (0, .ref 102), (1, .long key), (3, ii (lq : Int)), (4, ii wz), (5, ii p)]) (S' := [ii (((takeS t 5).1) 59), .ref 102]) dm_X12_called_133 rfl rfl rfl rfl ?_
              refine me3 (pc' := 138) (S' := []) (h1 := rI pre post (va_up (va_up t1.1 58 (((takeS t 5).1) 58)) 59 (((takeS t 5).1) 59)) t1.2.1 t1.2.2.1 t1.2.2.2) dm_X12_called_135 (q_puti hm rfl rfl (fun m i l v => rf_59 m i l v)) rfl rfl rfl ?_
              refine me1 (pc' := 139) (L' := [(9, ii z1), (8, ii (((takeS t 5).1) 59)), (7, ii (((takeS t 5).1) 58)), (6, ii ((j : Nat) : Int)), (0, .ref 102), (1, .long key), (3, ii (lq : Int)), (4, ii wz), (5, ii p)]) (S' := [.ref 102]) dm_X12_called_138 rfl rfl rfl rfl ?_
              refine me0 (pc' := 140) (S' := [.ref 102, .ref 102]) dm_X12_called_139 rfl rfl rfl rfl ?_
              refine me3 (pc' := 143) (S' := [ii (t1.1 10), .ref 102]) dm_X12_called_140 (q_geti (v := t1.1 10) hm rfl (fun m i l => rg_10 m i l) rfl) rfl rfl rfl ?_
              refine me0 (pc' := 144) (S' := [ii 1, ii (t1.1 10), .ref 102]) dm_X12_called_143 rfl rfl rfl rfl ?_
              refine y_isub (a := t1.1 10) (b := 1) dm_X12_called_144 (pc' := 145) rfl ?_
              refine me3 (pc' := 148) (S' := []) (h1 := rI pre post (va_up (va_up (va_up t1.1 58 (((takeS t 5).1) 58)) 59 (((takeS t 5).1) 59)) 10 ((t1.1 10) - 1)) t1.2.1 t1.2.2.1 t1.2.2.2) dm_X12_called_145 (q_puti hm rfl rfl (fun m i l v => rf_10 m i l v)) rfl rfl rfl ?_
              refine me1 (pc' := 150) (L' := [(9, ii z1), (8, ii (((takeS t 5).1) 59)), (7, ii (((takeS t 5).1) 58)), (6, ii ((j : Nat) : Int)), (0, .ref 102), (1, .long key), (3, ii (lq : Int)), (4, ii wz), (5, ii p)]) (S' := [ii z1]) dm_X12_called_148 rfl rfl rfl rfl ?_
              refine y_ret (r := some (ii z1)) dm_X12_called_150 rfl rfl rfl ?_
              have eF : rI pre post (va_up (va_up (va_up t1.1 58 (((takeS t 5).1) 58)) 59 (((takeS t 5).1) 59)) 10 ((t1.1 10) - 1)) t1.2.1 t1.2.2.1 t1.2.2.2 = rS pre post (coS t t1) := by first | rfl | exact congrArg (rS pre post) (coS_e _ _)
              rw [eF]
              exact ⟨_, rfl, _, _, rfl, rfl, hE1, hZ1, k t1 z1 hQ1⟩
            · exfalso; omega
          · exfalso; omega
        · refine me1 (pc' := 70) (L' := [(8, ii (((takeS t 5).1) 59)), (7, ii (((takeS t 5).1) 58)), (6, ii ((j : Nat) : Int)), (0, .ref 102), (1, .long key), (3, ii (lq : Int)), (4, ii wz), (5, ii p)]) (S' := [.ref 102]) dm_X12_called_69 rfl rfl rfl rfl ?_
          refine me1 (pc' := 72) (L' := [(8, ii (((takeS t 5).1) 59)), (7, ii (((takeS t 5).1) 58)), (6, ii ((j : Nat) : Int)), (0, .ref 102), (1, .long key), (3, ii (lq : Int)), (4, ii wz), (5, ii p)]) (S' := [ii p, .ref 102]) dm_X12_called_70 rfl rfl rfl rfl ?_
          refine me3 (pc' := 75) (S' := []) (h1 := rI pre post (va_up ((takeS t 5).1) 11 p) ((takeS t 5).2.1) ((takeS t 5).2.2.1) ((takeS t 5).2.2.2)) dm_X12_called_72 (q_puti hm rfl rfl (fun m i l v => rf_11 m i l v)) rfl rfl rfl ?_
          refine pg_cast (h2 := rI pre post ((c11 t p).1) ((c11 t p).2.1) ((c11 t p).2.2.1) ((c11 t p).2.2.2)) (by first | exact congrArg (rS pre post) (c11_0 (by omega)) | exact congrArg (rS pre post) (c11_1 (by omega))) ?_
          refine me1 (pc' := 76) (L' := [(8, ii (((takeS t 5).1) 59)), (7, ii (((takeS t 5).1) 58)), (6, ii ((j : Nat) : Int)), (0, .ref 102), (1, .long key), (3, ii (lq : Int)), (4, ii wz), (5, ii p)]) (S' := [.ref 102]) dm_X12_called_75 rfl rfl rfl rfl ?_
          refine me0 (pc' := 77) (S' := [.ref 102, .ref 102]) dm_X12_called_76 rfl rfl rfl rfl ?_
          refine me3 (pc' := 80) (S' := [ii (((c11 t p).1) 10), .ref 102]) dm_X12_called_77 (q_geti (v := ((c11 t p).1) 10) hm rfl (fun m i l => rg_10 m i l) rfl) rfl rfl rfl ?_
          refine me0 (pc' := 81) (S' := [ii 1, ii (((c11 t p).1) 10), .ref 102]) dm_X12_called_80 rfl rfl rfl rfl ?_
          refine y_iadd (a := ((c11 t p).1) 10) (b := 1) dm_X12_called_81 (pc' := 82) rfl ?_
          refine me3 (pc' := 85) (S' := []) (h1 := rI pre post (va_up ((c11 t p).1) 10 ((((c11 t p).1) 10) + 1)) ((c11 t p).2.1) ((c11 t p).2.2.1) ((c11 t p).2.2.2)) dm_X12_called_82 (q_puti hm rfl rfl (fun m i l v => rf_10 m i l v)) rfl rfl rfl ?_
          refine me1 (pc' := 86) (L' := [(8, ii (((takeS t 5).1) 59)), (7, ii (((takeS t 5).1) 58)), (6, ii ((j : Nat) : Int)), (0, .ref 102), (1, .long key), (3, ii (lq : Int)), (4, ii wz), (5, ii p)]) (S' := [.ref 102]) dm_X12_called_85 rfl rfl rfl rfl ?_
          refine me1 (pc' := 87) (L' := [(8, ii (((takeS t 5).1) 59)), (7, ii (((takeS t 5).1) 58)), (6, ii ((j : Nat) : Int)), (0, .ref 102), (1, .long key), (3, ii (lq : Int)), (4, ii wz), (5, ii p)]) (S' := [ii (lq : Int), .ref 102]) dm_X12_called_86 rfl rfl rfl rfl ?_
          refine y_1ge (a := (lq : Int)) (t := 95) (pc' := 90) dm_X12_called_87 rfl rfl (by omega) (fun hb7 => ?_) (fun hb7 => ?_)
          · refine me1 (pc' := 96) (L' := [(8, ii (((takeS t 5).1) 59)), (7, ii (((takeS t 5).1) 58)), (6, ii ((j : Nat) : Int)), (0, .ref 102), (1, .long key), (3, ii (lq : Int)), (4, ii wz), (5, ii p)]) (S' := [ii (lq : Int), .ref 102]) dm_X12_called_95 rfl rfl rfl rfl ?_
            refine me3 (pc' := 99) (S' := []) (h1 := rI pre post (va_up (va_up ((c11 t p).1) 10 ((((c11 t p).1) 10) + 1)) 58 (lq : Int)) ((c11 t p).2.1) ((c11 t p).2.2.1) ((c11 t p).2.2.2)) dm_X12_called_96 (q_puti hm rfl rfl (fun m i l v => rf_58 m i l v)) rfl rfl rfl ?_
            refine me1 (pc' := 100) (L' := [(8, ii (((takeS t 5).1) 59)), (7, ii (((takeS t 5).1) 58)), (6, ii ((j : Nat) : Int)), (0, .ref 102), (1, .long key), (3, ii (lq : Int)), (4, ii wz), (5, ii p)]) (S' := [.ref 102]) dm_X12_called_99 rfl rfl rfl rfl ?_
            refine me1 (pc' := 101) (L' := [(8, ii (((takeS t 5).1) 59)), (7, ii (((takeS t 5).1) 58)), (6, ii ((j : Nat) : Int)), (0, .ref 102), (1, .long key), (3, ii (lq : Int)), (4, ii wz), (5, ii p)]) (S' := [ii (lq : Int), .ref 102]) dm_X12_called_100 rfl rfl rfl rfl ?_
            refine y_1ge (a := (lq : Int)) (t := 108) (pc' := 104) dm_X12_called_101 rfl rfl (by omega) (fun hb8 => ?_) (fun hb8 => ?_)
            · refine me1 (pc' := 110) (L' := [(8, ii (((takeS t 5).1) 59)), (7, ii (((takeS t 5).1) 58)), (6, ii ((j : Nat) : Int)), (0, .ref 102), (1, .long key), (3, ii (lq : Int)), (4, ii wz), (5, ii p)]) (S' := [ii wz, .ref 102]) dm_X12_called_108 rfl rfl rfl rfl ?_
              refine me3 (pc' := 113) (S' := []) (h1 := rI pre post (va_up (va_up (va_up ((c11 t p).1) 10 ((((c11 t p).1) 10) + 1)) 58 (lq : Int)) 59 wz) ((c11 t p).2.1) ((c11 t p).2.2.1) ((c11 t p).2.2.2)) dm_X12_called_110 (q_puti hm rfl rfl (fun m i l v => rf_59 m i l v)) rfl rfl rfl ?_
              refine pg_cast (h2 := rI pre post ((caS t p (lq : Int) wz).1) ((caS t p (lq : Int) wz).2.1) ((caS t p (lq : Int) wz).2.2.1) ((caS t p (lq : Int) wz).2.2.2)) (by first | rfl | exact congrArg (rS pre post) rfl) ?_
              refine me1 (pc' := 114) (L' := [(8, ii (((takeS t 5).1) 59)), (7, ii (((takeS t 5).1) 58)), (6, ii ((j : Nat) : Int)), (0, .ref 102), (1, .long key), (3, ii (lq : Int)), (4, ii wz), (5, ii p)]) (S' := [.ref 102]) dm_X12_called_113 rfl rfl rfl rfl ?_
              refine me1 (pc' := 115) (L' := [(8, ii (((takeS t 5).1) 59)), (7, ii (((takeS t 5).1) 58)), (6, ii ((j : Nat) : Int)), (0, .ref 102), (1, .long key), (3, ii (lq : Int)), (4, ii wz), (5, ii p)]) (S' := [.ref 102, .ref 102]) dm_X12_called_114 rfl rfl rfl rfl ?_
              refine me3 (pc' := 118) (S' := [.ref (102 + 11), .ref 102]) dm_X12_called_115 (q_getr hm rfl (fun m i l => rg_22 m i l)) rfl rfl rfl ?_
              refine me1 (pc' := 120) (L' := [(8, ii (((takeS t 5).1) 59)), (7, ii (((takeS t 5).1) 58)), (6, ii ((j : Nat) : Int)), (0, .ref 102), (1, .long key), (3, ii (lq : Int)), (4, ii wz), (5, ii p)]) (S' := [ii ((j : Nat) : Int), .ref (102 + 11), .ref 102]) dm_X12_called_118 rfl rfl rfl rfl ?_
              refine me3 (pc' := 121) (S' := [ii ((((caS t p (lq : Int) wz).2.2.1) 22) j), .ref 102]) dm_X12_called_120 (q_iald (v := (((caS t p (lq : Int) wz).2.2.1) 22) j) (k := 22) (n := 40) hm (fun m i l I J => rc_22 m i l I J) (by omega) (by omega) (by decide) rfl) rfl rfl rfl ?_
              refine x_cv (pc' := 124) (rest := []) dm_X12_called_121 rfl (q_inv (As := [ii ((((caS t p (lq : Int) wz).2.2.1) 22) j)]) (S := []) hm rfl rfl rfl) rfl rfl rfl (hc) ?_
              rintro x1 g1 f1
              obtain ⟨t1, z1, rfl, rfl, hE1, hZ1, hQ1⟩ := f1
              refine me1 (pc' := 126) (L' := [(9, ii z1), (8, ii (((takeS t 5).1) 59)), (7, ii (((takeS t 5).1) 58)), (6, ii ((j : Nat) : Int)), (0, .ref 102), (1, .long key), (3, ii (lq : Int)), (4, ii wz), (5, ii p)]) (S' := []) dm_X12_called_124 rfl rfl rfl rfl ?_
              refine me1 (pc' := 127) (L' := [(9, ii z1), (8, ii (((takeS t 5).1) 59)), (7, ii (((takeS t 5).1) 58)), (6, ii ((j : Nat) : Int)), (0, .ref 102), (1, .long key), (3, ii (lq : Int)), (4, ii wz), (5, ii p)]) (S' := [.ref 102]) dm_X12_called_126 rfl rfl rfl rfl ?_
              refine me1 (pc' := 129) (L' := [(9, ii z1), (8, ii (((takeS t 5).1) 59)), (7, ii (((takeS t 5).1) 58)), (6, ii ((j : Nat) : Int)), (0, .ref 102), (1, .long key), (3, ii (lq : Int)), (4, ii wz), (5, ii p)]) (S' := [ii (((takeS t 5).1) 58), .ref 102]) dm_X12_called_127 rfl rfl rfl rfl ?_
              refine me3 (pc' := 132) (S' := []) (h1 := rI pre post (va_up t1.1 58 (((takeS t 5).1) 58)) t1.2.1 t1.2.2.1 t1.2.2.2) dm_X12_called_129 (q_puti hm rfl rfl (fun m i l v => rf_58 m i l v)) rfl rfl rfl ?_
              refine me1 (pc' := 133) (L' := [(9, ii z1), (8, ii (((takeS t 5).1) 59)), (7, ii (((takeS t 5).1) 58)), (6, ii ((j : Nat) : Int)), (0, .ref 102), (1, .long key), (3, ii (lq : Int)), (4, ii wz), (5, ii p)]) (S' := [.ref 102]) dm_X12_called_132 rfl rfl rfl rfl ?_
              refine me1 (pc' := 135) (L' := [(9, ii z1), (8, ii (((takeS t 5).1) 59)), (7, ii (((takeS t 5).1) 58)), (6, ii ((j : Nat) : Int)), (0, .ref 102), (1, .long key), (3, ii (lq : Int)), (4, ii wz), (5, ii p)]) (S' := [ii (((takeS t 5).1) 59), .ref 102]) dm_X12_called_133 rfl rfl rfl rfl ?_
              refine me3 (pc' := 138) (S' := []) (h1 := rI pre post (va_up (va_up t1.1 58 (((takeS t 5).1) 58)) 59 (((takeS t 5).1) 59)) t1.2.1 t1.2.2.1 t1.2.2.2) dm_X12_called_135 (q_puti hm rfl rfl (fun m i l v => rf_59 m i l v)) rfl rfl rfl ?_
              refine me1 (pc' := 139) (L' := [(9, ii z1), (8, ii (((takeS t 5).1) 59)), (7, ii (((takeS t 5).1) 58)), (6, ii ((j : Nat) : Int)), (0, .ref 102), (1, .long key), (3, ii (lq : Int)), (4, ii wz), (5, ii p)]) (S' := [.ref 102]) dm_X12_called_138 rfl rfl rfl rfl ?_
              refine me0 (pc' := 140) (S' := [.ref 102, .ref 102]) dm_X12_called_139 rfl rfl rfl rfl ?_
              refine me3 (pc' := 143) (S' := [ii (t1.1 10), .ref 102]) dm_X12_called_140 (q_geti (v := t1.1 10) hm rfl (fun m i l => rg_10 m i l) rfl) rfl rfl rfl ?_
              refine me0 (pc' := 144) (S' := [ii 1, ii (t1.1 10), .ref 102]) dm_X12_called_143 rfl rfl rfl rfl ?_
              refine y_isub (a := t1.1 10) (b := 1) dm_X12_called_144 (pc' := 145) rfl ?_
              refine me3 (pc' := 148) (S' := []) (h1 := rI pre post (va_up (va_up (va_up t1.1 58 (((takeS t 5).1) 58)) 59 (((takeS t 5).1) 59)) 10 ((t1.1 10) - 1)) t1.2.1 t1.2.2.1 t1.2.2.2) dm_X12_called_145 (q_puti hm rfl rfl (fun m i l v => rf_10 m i l v)) rfl rfl rfl ?_
              refine me1 (pc' := 150) (L' := [(9, ii z1), (8, ii (((takeS t 5).1) 59)), (7, ii (((takeS t 5).1) 58)), (6, ii ((j : Nat) : Int)), (0, .ref 102), (1, .long key), (3, ii (lq : Int)), (4, ii wz), (5, ii p)]) (S' := [ii z1]) dm_X12_called_148 rfl rfl rfl rfl ?_
              refine y_ret (r := some (ii z1)) dm_X12_called_150 rfl rfl rfl ?_
              have eF : rI pre post (va_up (va_up (va_up t1.1 58 (((takeS t 5).1) 58)) 59 (((takeS t 5).1) 59)) 10 ((t1.1 10) - 1)) t1.2.1 t1.2.2.1 t1.2.2.2 = rS pre post (coS t t1) := by first | rfl | exact congrArg (rS pre post) (coS_e _ _)
              rw [eF]
              exact ⟨_, rfl, _, _, rfl, rfl, hE1, hZ1, k t1 z1 hQ1⟩
            · exfalso; omega
          · exfalso; omega
      · replace hb3 := dF hb3; exfalso; omega
    · exfalso; omega
  · exfalso; omega
