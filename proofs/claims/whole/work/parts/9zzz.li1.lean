/-! the reference: a line -/
def RL2 (pre post : mj_H) (Q : RS → Int → Prop) (x : Value) (h' : mj_H) : Prop := ∃ (t : RS) (z : Int), x = ii z ∧ h' = rS pre post t ∧ Q t z
/-- where a line begins -/
def li0 (t : RS) : RS := (va_up (va_up (va_up (va_up (va_up (va_up t.1 33 0) 5 0) 6 (-1)) 7 0) 10 0) 13 0, t.2.1, t.2.2.1, t.2.2.2)
/-- its end: after an error; a value; a function told -/
def liE1 (t u : RS) : RS := (va_up (va_up (va_up (va_up u.1 3 (t.1 3)) 4 (t.1 4)) 50 (t.1 50)) 31 (u.1 30), u.2.1, u.2.2.1, u.2.2.2)
def liE2 (t u : RS) : RS := (va_up (va_up u.1 50 (t.1 50)) 31 (u.1 30), u.2.1, u.2.2.1, u.2.2.2)
def liE3 (u : RS) : RS := (va_up u.1 31 (u.1 30), u.2.1, u.2.2.1, u.2.2.2)
set_option maxRecDepth 20000 in
theorem pm_X12_does : mj_mmof pg_ms 234 = some ((⟨"ArrayCalculatorModel", "does", "()V"⟩, prog_14_method_97_code, 2, (Option.none : Option Jvm.ClassFile.FieldType)), 12, false, mj_dec prog_14_method_97_code) := rfl
theorem dm_X12_does_0 : mj_dec prog_14_method_97_code 0 = some (.aload_n 0, 1) := by decide +kernel
theorem dm_X12_does_1 : mj_dec prog_14_method_97_code 1 = some (.getfield 478, 3) := by decide +kernel
theorem dm_X12_does_4 : mj_dec prog_14_method_97_code 4 = some (.iconst 1, 1) := by decide +kernel
theorem dm_X12_does_5 : mj_dec prog_14_method_97_code 5 = some (.if_icmp .eq 11, 3) := by decide +kernel
theorem dm_X12_does_8 : mj_dec prog_14_method_97_code 8 = some (.aload_n 0, 1) := by decide +kernel
theorem dm_X12_does_9 : mj_dec prog_14_method_97_code 9 = some (.getfield 478, 3) := by decide +kernel
theorem dm_X12_does_12 : mj_dec prog_14_method_97_code 12 = some (.iconst 2, 1) := by decide +kernel
theorem dm_X12_does_13 : mj_dec prog_14_method_97_code 13 = some (.if_icmp .ne 40, 3) := by decide +kernel
theorem dm_X12_does_16 : mj_dec prog_14_method_97_code 16 = some (.aload_n 0, 1) := by decide +kernel
theorem dm_X12_does_17 : mj_dec prog_14_method_97_code 17 = some (.aload_n 0, 1) := by decide +kernel
theorem dm_X12_does_18 : mj_dec prog_14_method_97_code 18 = some (.getfield 487, 3) := by decide +kernel
theorem dm_X12_does_21 : mj_dec prog_14_method_97_code 21 = some (.invokevirtual 513, 3) := by decide +kernel
theorem dm_X12_does_24 : mj_dec prog_14_method_97_code 24 = some (.ifCond .ne 29, 3) := by decide +kernel
theorem dm_X12_does_27 : mj_dec prog_14_method_97_code 27 = some (.aload_n 0, 1) := by decide +kernel
theorem dm_X12_does_28 : mj_dec prog_14_method_97_code 28 = some (.getfield 357, 3) := by decide +kernel
theorem dm_X12_does_31 : mj_dec prog_14_method_97_code 31 = some (.aload_n 0, 1) := by decide +kernel
theorem dm_X12_does_32 : mj_dec prog_14_method_97_code 32 = some (.getfield 360, 3) := by decide +kernel
theorem dm_X12_does_35 : mj_dec prog_14_method_97_code 35 = some (.iadd, 1) := by decide +kernel
theorem dm_X12_does_36 : mj_dec prog_14_method_97_code 36 = some (.bipush 40, 2) := by decide +kernel
theorem dm_X12_does_38 : mj_dec prog_14_method_97_code 38 = some (.if_icmp .ne 15, 3) := by decide +kernel
theorem dm_X12_does_41 : mj_dec prog_14_method_97_code 41 = some (.aload_n 0, 1) := by decide +kernel
theorem dm_X12_does_42 : mj_dec prog_14_method_97_code 42 = some (.bipush 8, 2) := by decide +kernel
theorem dm_X12_does_44 : mj_dec prog_14_method_97_code 44 = some (.aload_n 0, 1) := by decide +kernel
theorem dm_X12_does_45 : mj_dec prog_14_method_97_code 45 = some (.invokevirtual 516, 3) := by decide +kernel
theorem dm_X12_does_48 : mj_dec prog_14_method_97_code 48 = some (.invokevirtual 190, 3) := by decide +kernel
theorem dm_X12_does_51 : mj_dec prog_14_method_97_code 51 = some (.pop, 1) := by decide +kernel
theorem dm_X12_does_52 : mj_dec prog_14_method_97_code 52 = some (.return_, 1) := by decide +kernel
theorem do_full {xt : mj_X} {d : Nat} {pre post : mj_H} {t : RS} (hm : pre.length = 102) (hd1 : 60 ≤ d) {Q : RS → Prop} (h53 : t.1 53 = 1 ∨ t.1 53 = 2) (h5 : t.1 5 = 0) (hca : 0 ≤ t.1 10 ∧ t.1 10 ≤ 100) {n m : Nat} (hn : t.1 23 = (n : Int)) (hmn : t.1 24 = (m : Int)) (hn4 : n ≤ 40) (hm4 : m ≤ 40) (hkn : ¬ (0 ≤ fndR (t.2.2.2 19) n (t.2.1 56) ∨ 0 ≤ fndR (t.2.2.2 20) m (t.2.1 56))) (h40 : n + m = 40) {p0 : Nat} (hp : p0 < 220) (hbl : ∀ k, k < p0 → t.2.2.1 32 k = 32) (hend : t.2.2.1 32 p0 ≠ 32 ∧ -128 ≤ t.2.2.1 32 p0 ∧ t.2.2.1 32 p0 ≤ 127) (k : Q (failS t 8 ((p0 : Nat) : Int))) : pgN xt d 234 [.ref 102] (rS pre post t) (fun h' => ∃ u, h' = rS pre post u ∧ Q u) := by
  refine x_enter pm_X12_does (L0 := [(0, .ref 102)]) rfl (Nat.le_of_ble_eq_true rfl) (by omega) ?_
  refine me1 (pc' := 1) (L' := [(0, .ref 102)]) (S' := [.ref 102]) dm_X12_does_0 rfl rfl rfl rfl ?_
  refine me3 (pc' := 4) (S' := [ii (t.1 53)]) dm_X12_does_1 (q_geti (v := t.1 53) hm rfl (fun m i l => rg_53 m i l) rfl) rfl rfl rfl ?_
  refine me0 (pc' := 5) (S' := [ii 1, ii (t.1 53)]) dm_X12_does_4 rfl rfl rfl rfl ?_
  refine y_2eq (a := t.1 53) (b := 1) (t := 16) (pc' := 8) dm_X12_does_5 rfl rfl (by omega) (fun hb1 => ?_) (fun hb1 => ?_)
  · refine me1 (pc' := 17) (L' := [(0, .ref 102)]) (S' := [.ref 102]) dm_X12_does_16 rfl rfl rfl rfl ?_
    refine me1 (pc' := 18) (L' := [(0, .ref 102)]) (S' := [.ref 102, .ref 102]) dm_X12_does_17 rfl rfl rfl rfl ?_
    refine me3 (pc' := 21) (S' := [.long (t.2.1 56), .ref 102]) dm_X12_does_18 (q_getl (v := t.2.1 56) hm rfl (fun m i l => rg_56 m i l) rfl) rfl rfl rfl ?_
    refine x_cp (pc' := 24) (v := zz (decide (0 ≤ (fndR (t.2.2.2 19) n (t.2.1 56)) ∨ 0 ≤ (fndR (t.2.2.2 20) m (t.2.1 56))))) (rest := []) dm_X12_does_21 rfl (q_inv (As := [.long (t.2.1 56)]) (S := []) hm rfl rfl rfl) rfl rfl rfl (r_isKnown_ (n := n) (m := m) (key := t.2.1 56) hm (by omega) hn hmn hn4 hm4) ?_
    refine y_zne (c := decide (0 ≤ (fndR (t.2.2.2 19) n (t.2.1 56)) ∨ 0 ≤ (fndR (t.2.2.2 20) m (t.2.1 56)))) (t := 53) (pc' := 27) dm_X12_does_24 rfl rfl (fun hb2 => ?_) (fun hb2 => ?_)
    · replace hb2 := dT hb2; exact absurd hb2 (by exact hkn)
    · replace hb2 := dF hb2
      refine me1 (pc' := 28) (L' := [(0, .ref 102)]) (S' := [.ref 102]) dm_X12_does_27 rfl rfl rfl rfl ?_
      refine me3 (pc' := 31) (S' := [ii (t.1 23)]) dm_X12_does_28 (q_geti (v := t.1 23) hm rfl (fun m i l => rg_23 m i l) rfl) rfl rfl rfl ?_
      refine me1 (pc' := 32) (L' := [(0, .ref 102)]) (S' := [.ref 102, ii (t.1 23)]) dm_X12_does_31 rfl rfl rfl rfl ?_
      refine me3 (pc' := 35) (S' := [ii (t.1 24), ii (t.1 23)]) dm_X12_does_32 (q_geti (v := t.1 24) hm rfl (fun m i l => rg_24 m i l) rfl) rfl rfl rfl ?_
      refine y_iadd (a := t.1 23) (b := t.1 24) dm_X12_does_35 (pc' := 36) rfl ?_
      refine me0 (pc' := 38) (S' := [ii 40, ii ((t.1 23) + (t.1 24))]) dm_X12_does_36 rfl rfl rfl rfl ?_
      refine y_2ne (a := (t.1 23) + (t.1 24)) (b := 40) (t := 53) (pc' := 41) dm_X12_does_38 rfl rfl (by omega) (fun hb3 => ?_) (fun hb3 => ?_)
      · exfalso; omega
      · refine me1 (pc' := 42) (L' := [(0, .ref 102)]) (S' := [.ref 102]) dm_X12_does_41 rfl rfl rfl rfl ?_
        refine me0 (pc' := 44) (S' := [ii 8, .ref 102]) dm_X12_does_42 rfl rfl rfl rfl ?_
        refine me1 (pc' := 45) (L' := [(0, .ref 102)]) (S' := [.ref 102, ii 8, .ref 102]) dm_X12_does_44 rfl rfl rfl rfl ?_
        refine x_cp (pc' := 48) (v := ii ((p0 : Nat) : Int)) (rest := [ii 8, .ref 102]) dm_X12_does_45 rfl (q_inv (As := []) (S := [ii 8, .ref 102]) hm rfl rfl rfl) rfl rfl rfl (r_nodePl_ hm (by omega) hp hbl hend) ?_
        refine x_cv (pc' := 51) (rest := []) dm_X12_does_48 rfl (q_inv (As := [ii 8, ii ((p0 : Nat) : Int)]) (S := []) hm rfl rfl rfl) rfl rfl rfl (r_fail_ (s := t) hm (by omega) h5 hca.1 hca.2) ?_
        rintro _ _ ⟨rfl, rfl⟩
        refine me0 (pc' := 52) (S' := []) dm_X12_does_51 rfl rfl rfl rfl ?_
        refine y_ret (r := none) dm_X12_does_52 rfl rfl rfl ?_
        exact ⟨rfl, _, rfl, k⟩
  · refine me1 (pc' := 9) (L' := [(0, .ref 102)]) (S' := [.ref 102]) dm_X12_does_8 rfl rfl rfl rfl ?_
    refine me3 (pc' := 12) (S' := [ii (t.1 53)]) dm_X12_does_9 (q_geti (v := t.1 53) hm rfl (fun m i l => rg_53 m i l) rfl) rfl rfl rfl ?_
    refine me0 (pc' := 13) (S' := [ii 2, ii (t.1 53)]) dm_X12_does_12 rfl rfl rfl rfl ?_
    refine y_2ne (a := t.1 53) (b := 2) (t := 53) (pc' := 16) dm_X12_does_13 rfl rfl (by omega) (fun hb4 => ?_) (fun hb4 => ?_)
    · exfalso; omega
    · refine me1 (pc' := 17) (L' := [(0, .ref 102)]) (S' := [.ref 102]) dm_X12_does_16 rfl rfl rfl rfl ?_
      refine me1 (pc' := 18) (L' := [(0, .ref 102)]) (S' := [.ref 102, .ref 102]) dm_X12_does_17 rfl rfl rfl rfl ?_
      refine me3 (pc' := 21) (S' := [.long (t.2.1 56), .ref 102]) dm_X12_does_18 (q_getl (v := t.2.1 56) hm rfl (fun m i l => rg_56 m i l) rfl) rfl rfl rfl ?_
      refine x_cp (pc' := 24) (v := zz (decide (0 ≤ (fndR (t.2.2.2 19) n (t.2.1 56)) ∨ 0 ≤ (fndR (t.2.2.2 20) m (t.2.1 56))))) (rest := []) dm_X12_does_21 rfl (q_inv (As := [.long (t.2.1 56)]) (S := []) hm rfl rfl rfl) rfl rfl rfl (r_isKnown_ (n := n) (m := m) (key := t.2.1 56) hm (by omega) hn hmn hn4 hm4) ?_
      refine y_zne (c := decide (0 ≤ (fndR (t.2.2.2 19) n (t.2.1 56)) ∨ 0 ≤ (fndR (t.2.2.2 20) m (t.2.1 56)))) (t := 53) (pc' := 27) dm_X12_does_24 rfl rfl (fun hb5 => ?_) (fun hb5 => ?_)
      · replace hb5 := dT hb5; exact absurd hb5 (by exact hkn)
      · replace hb5 := dF hb5
        refine me1 (pc' := 28) (L' := [(0, .ref 102)]) (S' := [.ref 102]) dm_X12_does_27 rfl rfl rfl rfl ?_
        refine me3 (pc' := 31) (S' := [ii (t.1 23)]) dm_X12_does_28 (q_geti (v := t.1 23) hm rfl (fun m i l => rg_23 m i l) rfl) rfl rfl rfl ?_
        refine me1 (pc' := 32) (L' := [(0, .ref 102)]) (S' := [.ref 102, ii (t.1 23)]) dm_X12_does_31 rfl rfl rfl rfl ?_
        refine me3 (pc' := 35) (S' := [ii (t.1 24), ii (t.1 23)]) dm_X12_does_32 (q_geti (v := t.1 24) hm rfl (fun m i l => rg_24 m i l) rfl) rfl rfl rfl ?_
        refine y_iadd (a := t.1 23) (b := t.1 24) dm_X12_does_35 (pc' := 36) rfl ?_
        refine me0 (pc' := 38) (S' := [ii 40, ii ((t.1 23) + (t.1 24))]) dm_X12_does_36 rfl rfl rfl rfl ?_
        refine y_2ne (a := (t.1 23) + (t.1 24)) (b := 40) (t := 53) (pc' := 41) dm_X12_does_38 rfl rfl (by omega) (fun hb6 => ?_) (fun hb6 => ?_)
        · exfalso; omega
        · refine me1 (pc' := 42) (L' := [(0, .ref 102)]) (S' := [.ref 102]) dm_X12_does_41 rfl rfl rfl rfl ?_
          refine me0 (pc' := 44) (S' := [ii 8, .ref 102]) dm_X12_does_42 rfl rfl rfl rfl ?_
          refine me1 (pc' := 45) (L' := [(0, .ref 102)]) (S' := [.ref 102, ii 8, .ref 102]) dm_X12_does_44 rfl rfl rfl rfl ?_
          refine x_cp (pc' := 48) (v := ii ((p0 : Nat) : Int)) (rest := [ii 8, .ref 102]) dm_X12_does_45 rfl (q_inv (As := []) (S := [ii 8, .ref 102]) hm rfl rfl rfl) rfl rfl rfl (r_nodePl_ hm (by omega) hp hbl hend) ?_
          refine x_cv (pc' := 51) (rest := []) dm_X12_does_48 rfl (q_inv (As := [ii 8, ii ((p0 : Nat) : Int)]) (S := []) hm rfl rfl rfl) rfl rfl rfl (r_fail_ (s := t) hm (by omega) h5 hca.1 hca.2) ?_
          rintro _ _ ⟨rfl, rfl⟩
          refine me0 (pc' := 52) (S' := []) dm_X12_does_51 rfl rfl rfl rfl ?_
          refine y_ret (r := none) dm_X12_does_52 rfl rfl rfl ?_
          exact ⟨rfl, _, rfl, k⟩
theorem dm_X12_does_53 : mj_dec prog_14_method_97_code 53 = some (.aload_n 0, 1) := by decide +kernel
theorem dm_X12_does_54 : mj_dec prog_14_method_97_code 54 = some (.getfield 478, 3) := by decide +kernel
theorem dm_X12_does_57 : mj_dec prog_14_method_97_code 57 = some (.iconst 2, 1) := by decide +kernel
theorem dm_X12_does_58 : mj_dec prog_14_method_97_code 58 = some (.if_icmp .ne 16, 3) := by decide +kernel
theorem dm_X12_does_61 : mj_dec prog_14_method_97_code 61 = some (.aload_n 0, 1) := by decide +kernel
theorem dm_X12_does_62 : mj_dec prog_14_method_97_code 62 = some (.aload_n 0, 1) := by decide +kernel
theorem dm_X12_does_63 : mj_dec prog_14_method_97_code 63 = some (.getfield 487, 3) := by decide +kernel
theorem dm_X12_does_66 : mj_dec prog_14_method_97_code 66 = some (.aload_n 0, 1) := by decide +kernel
theorem dm_X12_does_67 : mj_dec prog_14_method_97_code 67 = some (.getfield 492, 3) := by decide +kernel
theorem dm_X12_does_70 : mj_dec prog_14_method_97_code 70 = some (.invokevirtual 519, 3) := by decide +kernel
theorem dm_X12_does_73 : mj_dec prog_14_method_97_code 73 = some (.return_, 1) := by decide +kernel
theorem do_tell {xt : mj_X} {d : Nat} {pre post : mj_H} {t : RS} (hm : pre.length = 102) (hd1 : 60 ≤ d) {Q : RS → Prop} (h53 : t.1 53 = 2) {n m : Nat} (hn : t.1 23 = (n : Int)) (hmn : t.1 24 = (m : Int)) (hn4 : n ≤ 40) (hm4 : m ≤ 40) (hkn : (0 ≤ fndR (t.2.2.2 19) n (t.2.1 56) ∨ 0 ≤ fndR (t.2.2.2 20) m (t.2.1 56)) ∨ n + m ≠ 40) (hfk : fndK (t.2.2.2 20) m (t.2.1 56) < 40) (k : Q (nameS t 20 22 24 19 21 23 m n (t.2.1 56) (t.1 54))) : pgN xt d 234 [.ref 102] (rS pre post t) (fun h' => ∃ u, h' = rS pre post u ∧ Q u) := by
  refine x_enter pm_X12_does (L0 := [(0, .ref 102)]) rfl (Nat.le_of_ble_eq_true rfl) (by omega) ?_
  refine me1 (pc' := 1) (L' := [(0, .ref 102)]) (S' := [.ref 102]) dm_X12_does_0 rfl rfl rfl rfl ?_
  refine me3 (pc' := 4) (S' := [ii (t.1 53)]) dm_X12_does_1 (q_geti (v := t.1 53) hm rfl (fun m i l => rg_53 m i l) rfl) rfl rfl rfl ?_
  refine me0 (pc' := 5) (S' := [ii 1, ii (t.1 53)]) dm_X12_does_4 rfl rfl rfl rfl ?_
  refine y_2eq (a := t.1 53) (b := 1) (t := 16) (pc' := 8) dm_X12_does_5 rfl rfl (by omega) (fun hb1 => ?_) (fun hb1 => ?_)
  · exfalso; omega
  · refine me1 (pc' := 9) (L' := [(0, .ref 102)]) (S' := [.ref 102]) dm_X12_does_8 rfl rfl rfl rfl ?_
    refine me3 (pc' := 12) (S' := [ii (t.1 53)]) dm_X12_does_9 (q_geti (v := t.1 53) hm rfl (fun m i l => rg_53 m i l) rfl) rfl rfl rfl ?_
    refine me0 (pc' := 13) (S' := [ii 2, ii (t.1 53)]) dm_X12_does_12 rfl rfl rfl rfl ?_
    refine y_2ne (a := t.1 53) (b := 2) (t := 53) (pc' := 16) dm_X12_does_13 rfl rfl (by omega) (fun hb2 => ?_) (fun hb2 => ?_)
    · exfalso; omega
    · refine me1 (pc' := 17) (L' := [(0, .ref 102)]) (S' := [.ref 102]) dm_X12_does_16 rfl rfl rfl rfl ?_
      refine me1 (pc' := 18) (L' := [(0, .ref 102)]) (S' := [.ref 102, .ref 102]) dm_X12_does_17 rfl rfl rfl rfl ?_
      refine me3 (pc' := 21) (S' := [.long (t.2.1 56), .ref 102]) dm_X12_does_18 (q_getl (v := t.2.1 56) hm rfl (fun m i l => rg_56 m i l) rfl) rfl rfl rfl ?_
      refine x_cp (pc' := 24) (v := zz (decide (0 ≤ (fndR (t.2.2.2 19) n (t.2.1 56)) ∨ 0 ≤ (fndR (t.2.2.2 20) m (t.2.1 56))))) (rest := []) dm_X12_does_21 rfl (q_inv (As := [.long (t.2.1 56)]) (S := []) hm rfl rfl rfl) rfl rfl rfl (r_isKnown_ (n := n) (m := m) (key := t.2.1 56) hm (by omega) hn hmn hn4 hm4) ?_
      refine y_zne (c := decide (0 ≤ (fndR (t.2.2.2 19) n (t.2.1 56)) ∨ 0 ≤ (fndR (t.2.2.2 20) m (t.2.1 56)))) (t := 53) (pc' := 27) dm_X12_does_24 rfl rfl (fun hb3 => ?_) (fun hb3 => ?_)
      · replace hb3 := dT hb3
        refine me1 (pc' := 54) (L' := [(0, .ref 102)]) (S' := [.ref 102]) dm_X12_does_53 rfl rfl rfl rfl ?_
        refine me3 (pc' := 57) (S' := [ii (t.1 53)]) dm_X12_does_54 (q_geti (v := t.1 53) hm rfl (fun m i l => rg_53 m i l) rfl) rfl rfl rfl ?_
        refine me0 (pc' := 58) (S' := [ii 2, ii (t.1 53)]) dm_X12_does_57 rfl rfl rfl rfl ?_
        refine y_2ne (a := t.1 53) (b := 2) (t := 74) (pc' := 61) dm_X12_does_58 rfl rfl (by omega) (fun hb4 => ?_) (fun hb4 => ?_)
        · exfalso; omega
        · refine me1 (pc' := 62) (L' := [(0, .ref 102)]) (S' := [.ref 102]) dm_X12_does_61 rfl rfl rfl rfl ?_
          refine me1 (pc' := 63) (L' := [(0, .ref 102)]) (S' := [.ref 102, .ref 102]) dm_X12_does_62 rfl rfl rfl rfl ?_
          refine me3 (pc' := 66) (S' := [.long (t.2.1 56), .ref 102]) dm_X12_does_63 (q_getl (v := t.2.1 56) hm rfl (fun m i l => rg_56 m i l) rfl) rfl rfl rfl ?_
          refine me1 (pc' := 67) (L' := [(0, .ref 102)]) (S' := [.ref 102, .long (t.2.1 56), .ref 102]) dm_X12_does_66 rfl rfl rfl rfl ?_
          refine me3 (pc' := 70) (S' := [ii (t.1 54), .long (t.2.1 56), .ref 102]) dm_X12_does_67 (q_geti (v := t.1 54) hm rfl (fun m i l => rg_54 m i l) rfl) rfl rfl rfl ?_
          refine x_cn (pc' := 73) (rest := []) dm_X12_does_70 rfl (q_inv (As := [.long (t.2.1 56), ii (t.1 54)]) (S := []) hm rfl rfl rfl) rfl rfl rfl (r_tells_ (n := n) (m := m) (key := t.2.1 56) hm (by omega) hn hmn hn4 hm4 hfk) ?_
          rintro _ rfl
          refine y_ret (r := none) dm_X12_does_73 rfl rfl rfl ?_
          exact ⟨rfl, _, rfl, k⟩
      · replace hb3 := dF hb3
        refine me1 (pc' := 28) (L' := [(0, .ref 102)]) (S' := [.ref 102]) dm_X12_does_27 rfl rfl rfl rfl ?_
        refine me3 (pc' := 31) (S' := [ii (t.1 23)]) dm_X12_does_28 (q_geti (v := t.1 23) hm rfl (fun m i l => rg_23 m i l) rfl) rfl rfl rfl ?_
        refine me1 (pc' := 32) (L' := [(0, .ref 102)]) (S' := [.ref 102, ii (t.1 23)]) dm_X12_does_31 rfl rfl rfl rfl ?_
        refine me3 (pc' := 35) (S' := [ii (t.1 24), ii (t.1 23)]) dm_X12_does_32 (q_geti (v := t.1 24) hm rfl (fun m i l => rg_24 m i l) rfl) rfl rfl rfl ?_
        refine y_iadd (a := t.1 23) (b := t.1 24) dm_X12_does_35 (pc' := 36) rfl ?_
        refine me0 (pc' := 38) (S' := [ii 40, ii ((t.1 23) + (t.1 24))]) dm_X12_does_36 rfl rfl rfl rfl ?_
        refine y_2ne (a := (t.1 23) + (t.1 24)) (b := 40) (t := 53) (pc' := 41) dm_X12_does_38 rfl rfl (by omega) (fun hb5 => ?_) (fun hb5 => ?_)
        · refine me1 (pc' := 54) (L' := [(0, .ref 102)]) (S' := [.ref 102]) dm_X12_does_53 rfl rfl rfl rfl ?_
          refine me3 (pc' := 57) (S' := [ii (t.1 53)]) dm_X12_does_54 (q_geti (v := t.1 53) hm rfl (fun m i l => rg_53 m i l) rfl) rfl rfl rfl ?_
          refine me0 (pc' := 58) (S' := [ii 2, ii (t.1 53)]) dm_X12_does_57 rfl rfl rfl rfl ?_
          refine y_2ne (a := t.1 53) (b := 2) (t := 74) (pc' := 61) dm_X12_does_58 rfl rfl (by omega) (fun hb6 => ?_) (fun hb6 => ?_)
          · exfalso; omega
          · refine me1 (pc' := 62) (L' := [(0, .ref 102)]) (S' := [.ref 102]) dm_X12_does_61 rfl rfl rfl rfl ?_
            refine me1 (pc' := 63) (L' := [(0, .ref 102)]) (S' := [.ref 102, .ref 102]) dm_X12_does_62 rfl rfl rfl rfl ?_
            refine me3 (pc' := 66) (S' := [.long (t.2.1 56), .ref 102]) dm_X12_does_63 (q_getl (v := t.2.1 56) hm rfl (fun m i l => rg_56 m i l) rfl) rfl rfl rfl ?_
            refine me1 (pc' := 67) (L' := [(0, .ref 102)]) (S' := [.ref 102, .long (t.2.1 56), .ref 102]) dm_X12_does_66 rfl rfl rfl rfl ?_
            refine me3 (pc' := 70) (S' := [ii (t.1 54), .long (t.2.1 56), .ref 102]) dm_X12_does_67 (q_geti (v := t.1 54) hm rfl (fun m i l => rg_54 m i l) rfl) rfl rfl rfl ?_
            refine x_cn (pc' := 73) (rest := []) dm_X12_does_70 rfl (q_inv (As := [.long (t.2.1 56), ii (t.1 54)]) (S := []) hm rfl rfl rfl) rfl rfl rfl (r_tells_ (n := n) (m := m) (key := t.2.1 56) hm (by omega) hn hmn hn4 hm4 hfk) ?_
            rintro _ rfl
            refine y_ret (r := none) dm_X12_does_73 rfl rfl rfl ?_
            exact ⟨rfl, _, rfl, k⟩
        · exfalso; omega
theorem dm_X12_does_74 : mj_dec prog_14_method_97_code 74 = some (.aload_n 0, 1) := by decide +kernel
theorem dm_X12_does_75 : mj_dec prog_14_method_97_code 75 = some (.aload_n 0, 1) := by decide +kernel
theorem dm_X12_does_76 : mj_dec prog_14_method_97_code 76 = some (.getfield 492, 3) := by decide +kernel
theorem dm_X12_does_79 : mj_dec prog_14_method_97_code 79 = some (.invokevirtual 523, 3) := by decide +kernel
theorem dm_X12_does_82 : mj_dec prog_14_method_97_code 82 = some (.istore_n 1, 1) := by decide +kernel
theorem dm_X12_does_83 : mj_dec prog_14_method_97_code 83 = some (.aload_n 0, 1) := by decide +kernel
theorem dm_X12_does_84 : mj_dec prog_14_method_97_code 84 = some (.getfield 478, 3) := by decide +kernel
theorem dm_X12_does_87 : mj_dec prog_14_method_97_code 87 = some (.iconst 3, 1) := by decide +kernel
theorem dm_X12_does_88 : mj_dec prog_14_method_97_code 88 = some (.if_icmp .ne 16, 3) := by decide +kernel
theorem dm_X12_does_104 : mj_dec prog_14_method_97_code 104 = some (.aload_n 0, 1) := by decide +kernel
theorem dm_X12_does_105 : mj_dec prog_14_method_97_code 105 = some (.getfield 181, 3) := by decide +kernel
theorem dm_X12_does_108 : mj_dec prog_14_method_97_code 108 = some (.ifCond .le 4, 3) := by decide +kernel
theorem dm_X12_does_111 : mj_dec prog_14_method_97_code 111 = some (.return_, 1) := by decide +kernel
theorem do_e0 {xt : mj_X} {d : Nat} {pre post : mj_H} {t : RS} (hm : pre.length = 102) (hd1 : 60 ≤ d) {Q : RS → Prop} (h53 : t.1 53 = 0) {Q1 : RS → Int → Prop} (hc : pgV xt (d - 1) 239 [.ref 102, ii (t.1 54)] (rS pre post t) (RA pre post Q1)) (h53u : ∀ u z, Q1 u z → u.1 53 = t.1 53) (h5u : ∀ u z, Q1 u z → 0 < u.1 5) (k : ∀ u z, Q1 u z → Q u) : pgN xt d 234 [.ref 102] (rS pre post t) (fun h' => ∃ u, h' = rS pre post u ∧ Q u) := by
  refine x_enter pm_X12_does (L0 := [(0, .ref 102)]) rfl (Nat.le_of_ble_eq_true rfl) (by omega) ?_
  refine me1 (pc' := 1) (L' := [(0, .ref 102)]) (S' := [.ref 102]) dm_X12_does_0 rfl rfl rfl rfl ?_
  refine me3 (pc' := 4) (S' := [ii (t.1 53)]) dm_X12_does_1 (q_geti (v := t.1 53) hm rfl (fun m i l => rg_53 m i l) rfl) rfl rfl rfl ?_
  refine me0 (pc' := 5) (S' := [ii 1, ii (t.1 53)]) dm_X12_does_4 rfl rfl rfl rfl ?_
  refine y_2eq (a := t.1 53) (b := 1) (t := 16) (pc' := 8) dm_X12_does_5 rfl rfl (by omega) (fun hb1 => ?_) (fun hb1 => ?_)
  · exfalso; omega
  · refine me1 (pc' := 9) (L' := [(0, .ref 102)]) (S' := [.ref 102]) dm_X12_does_8 rfl rfl rfl rfl ?_
    refine me3 (pc' := 12) (S' := [ii (t.1 53)]) dm_X12_does_9 (q_geti (v := t.1 53) hm rfl (fun m i l => rg_53 m i l) rfl) rfl rfl rfl ?_
    refine me0 (pc' := 13) (S' := [ii 2, ii (t.1 53)]) dm_X12_does_12 rfl rfl rfl rfl ?_
    refine y_2ne (a := t.1 53) (b := 2) (t := 53) (pc' := 16) dm_X12_does_13 rfl rfl (by omega) (fun hb2 => ?_) (fun hb2 => ?_)
    · refine me1 (pc' := 54) (L' := [(0, .ref 102)]) (S' := [.ref 102]) dm_X12_does_53 rfl rfl rfl rfl ?_
      refine me3 (pc' := 57) (S' := [ii (t.1 53)]) dm_X12_does_54 (q_geti (v := t.1 53) hm rfl (fun m i l => rg_53 m i l) rfl) rfl rfl rfl ?_
      refine me0 (pc' := 58) (S' := [ii 2, ii (t.1 53)]) dm_X12_does_57 rfl rfl rfl rfl ?_
      refine y_2ne (a := t.1 53) (b := 2) (t := 74) (pc' := 61) dm_X12_does_58 rfl rfl (by omega) (fun hb3 => ?_) (fun hb3 => ?_)
      · refine me1 (pc' := 75) (L' := [(0, .ref 102)]) (S' := [.ref 102]) dm_X12_does_74 rfl rfl rfl rfl ?_
        refine me1 (pc' := 76) (L' := [(0, .ref 102)]) (S' := [.ref 102, .ref 102]) dm_X12_does_75 rfl rfl rfl rfl ?_
        refine me3 (pc' := 79) (S' := [ii (t.1 54), .ref 102]) dm_X12_does_76 (q_geti (v := t.1 54) hm rfl (fun m i l => rg_54 m i l) rfl) rfl rfl rfl ?_
        refine x_cv (pc' := 82) (rest := []) dm_X12_does_79 rfl (q_inv (As := [ii (t.1 54)]) (S := []) hm rfl rfl rfl) rfl rfl rfl (hc) ?_
        rintro x1 g1 f1
        obtain ⟨t1, z1, rfl, rfl, hE1, hZ1, hQ1⟩ := f1
        have hu53 := h53u t1 z1 hQ1
        have hu5 := h5u t1 z1 hQ1
        refine me1 (pc' := 83) (L' := [(1, ii z1), (0, .ref 102)]) (S' := []) dm_X12_does_82 rfl rfl rfl rfl ?_
        refine me1 (pc' := 84) (L' := [(1, ii z1), (0, .ref 102)]) (S' := [.ref 102]) dm_X12_does_83 rfl rfl rfl rfl ?_
        refine me3 (pc' := 87) (S' := [ii (t1.1 53)]) dm_X12_does_84 (q_geti (v := t1.1 53) hm rfl (fun m i l => rg_53 m i l) rfl) rfl rfl rfl ?_
        refine me0 (pc' := 88) (S' := [ii 3, ii (t1.1 53)]) dm_X12_does_87 rfl rfl rfl rfl ?_
        refine y_2ne (a := t1.1 53) (b := 3) (t := 104) (pc' := 91) dm_X12_does_88 rfl rfl (by omega) (fun hb4 => ?_) (fun hb4 => ?_)
        · refine me1 (pc' := 105) (L' := [(1, ii z1), (0, .ref 102)]) (S' := [.ref 102]) dm_X12_does_104 rfl rfl rfl rfl ?_
          refine me3 (pc' := 108) (S' := [ii (t1.1 5)]) dm_X12_does_105 (q_geti (v := t1.1 5) hm rfl (fun m i l => rg_5 m i l) rfl) rfl rfl rfl ?_
          refine y_1le (a := t1.1 5) (t := 112) (pc' := 111) dm_X12_does_108 rfl rfl (by omega) (fun hb5 => ?_) (fun hb5 => ?_)
          · exfalso; omega
          · refine y_ret (r := none) dm_X12_does_111 rfl rfl rfl ?_
            exact ⟨rfl, _, rfl, k t1 z1 hQ1⟩
        · exfalso; omega
      · exfalso; omega
    · exfalso; omega
theorem dm_X12_does_112 : mj_dec prog_14_method_97_code 112 = some (.aload_n 0, 1) := by decide +kernel
theorem dm_X12_does_113 : mj_dec prog_14_method_97_code 113 = some (.getfield 478, 3) := by decide +kernel
theorem dm_X12_does_116 : mj_dec prog_14_method_97_code 116 = some (.ifCond .eq 12, 3) := by decide +kernel
theorem dm_X12_does_128 : mj_dec prog_14_method_97_code 128 = some (.aload_n 0, 1) := by decide +kernel
theorem dm_X12_does_129 : mj_dec prog_14_method_97_code 129 = some (.iload_n 1, 1) := by decide +kernel
theorem dm_X12_does_130 : mj_dec prog_14_method_97_code 130 = some (.putfield 109, 3) := by decide +kernel
theorem dm_X12_does_133 : mj_dec prog_14_method_97_code 133 = some (.return_, 1) := by decide +kernel
theorem do_v0 {xt : mj_X} {d : Nat} {pre post : mj_H} {t : RS} (hm : pre.length = 102) (hd1 : 60 ≤ d) {Q : RS → Prop} (h53 : t.1 53 = 0) {Q1 : RS → Int → Prop} (hc : pgV xt (d - 1) 239 [.ref 102, ii (t.1 54)] (rS pre post t) (RA pre post Q1)) (h53u : ∀ u z, Q1 u z → u.1 53 = t.1 53) (h5u : ∀ u z, Q1 u z → u.1 5 = 0) (k : ∀ u z, Q1 u z → Q (fiS u 30 z)) : pgN xt d 234 [.ref 102] (rS pre post t) (fun h' => ∃ u, h' = rS pre post u ∧ Q u) := by
  refine x_enter pm_X12_does (L0 := [(0, .ref 102)]) rfl (Nat.le_of_ble_eq_true rfl) (by omega) ?_
  refine me1 (pc' := 1) (L' := [(0, .ref 102)]) (S' := [.ref 102]) dm_X12_does_0 rfl rfl rfl rfl ?_
  refine me3 (pc' := 4) (S' := [ii (t.1 53)]) dm_X12_does_1 (q_geti (v := t.1 53) hm rfl (fun m i l => rg_53 m i l) rfl) rfl rfl rfl ?_
  refine me0 (pc' := 5) (S' := [ii 1, ii (t.1 53)]) dm_X12_does_4 rfl rfl rfl rfl ?_
  refine y_2eq (a := t.1 53) (b := 1) (t := 16) (pc' := 8) dm_X12_does_5 rfl rfl (by omega) (fun hb1 => ?_) (fun hb1 => ?_)
  · exfalso; omega
  · refine me1 (pc' := 9) (L' := [(0, .ref 102)]) (S' := [.ref 102]) dm_X12_does_8 rfl rfl rfl rfl ?_
    refine me3 (pc' := 12) (S' := [ii (t.1 53)]) dm_X12_does_9 (q_geti (v := t.1 53) hm rfl (fun m i l => rg_53 m i l) rfl) rfl rfl rfl ?_
    refine me0 (pc' := 13) (S' := [ii 2, ii (t.1 53)]) dm_X12_does_12 rfl rfl rfl rfl ?_
    refine y_2ne (a := t.1 53) (b := 2) (t := 53) (pc' := 16) dm_X12_does_13 rfl rfl (by omega) (fun hb2 => ?_) (fun hb2 => ?_)
    · refine me1 (pc' := 54) (L' := [(0, .ref 102)]) (S' := [.ref 102]) dm_X12_does_53 rfl rfl rfl rfl ?_
      refine me3 (pc' := 57) (S' := [ii (t.1 53)]) dm_X12_does_54 (q_geti (v := t.1 53) hm rfl (fun m i l => rg_53 m i l) rfl) rfl rfl rfl ?_
      refine me0 (pc' := 58) (S' := [ii 2, ii (t.1 53)]) dm_X12_does_57 rfl rfl rfl rfl ?_
      refine y_2ne (a := t.1 53) (b := 2) (t := 74) (pc' := 61) dm_X12_does_58 rfl rfl (by omega) (fun hb3 => ?_) (fun hb3 => ?_)
      · refine me1 (pc' := 75) (L' := [(0, .ref 102)]) (S' := [.ref 102]) dm_X12_does_74 rfl rfl rfl rfl ?_
        refine me1 (pc' := 76) (L' := [(0, .ref 102)]) (S' := [.ref 102, .ref 102]) dm_X12_does_75 rfl rfl rfl rfl ?_
        refine me3 (pc' := 79) (S' := [ii (t.1 54), .ref 102]) dm_X12_does_76 (q_geti (v := t.1 54) hm rfl (fun m i l => rg_54 m i l) rfl) rfl rfl rfl ?_
        refine x_cv (pc' := 82) (rest := []) dm_X12_does_79 rfl (q_inv (As := [ii (t.1 54)]) (S := []) hm rfl rfl rfl) rfl rfl rfl (hc) ?_
        rintro x1 g1 f1
        obtain ⟨t1, z1, rfl, rfl, hE1, hZ1, hQ1⟩ := f1
        have hu53 := h53u t1 z1 hQ1
        have hu5 := h5u t1 z1 hQ1
        refine me1 (pc' := 83) (L' := [(1, ii z1), (0, .ref 102)]) (S' := []) dm_X12_does_82 rfl rfl rfl rfl ?_
        refine me1 (pc' := 84) (L' := [(1, ii z1), (0, .ref 102)]) (S' := [.ref 102]) dm_X12_does_83 rfl rfl rfl rfl ?_
        refine me3 (pc' := 87) (S' := [ii (t1.1 53)]) dm_X12_does_84 (q_geti (v := t1.1 53) hm rfl (fun m i l => rg_53 m i l) rfl) rfl rfl rfl ?_
        refine me0 (pc' := 88) (S' := [ii 3, ii (t1.1 53)]) dm_X12_does_87 rfl rfl rfl rfl ?_
        refine y_2ne (a := t1.1 53) (b := 3) (t := 104) (pc' := 91) dm_X12_does_88 rfl rfl (by omega) (fun hb4 => ?_) (fun hb4 => ?_)
        · refine me1 (pc' := 105) (L' := [(1, ii z1), (0, .ref 102)]) (S' := [.ref 102]) dm_X12_does_104 rfl rfl rfl rfl ?_
          refine me3 (pc' := 108) (S' := [ii (t1.1 5)]) dm_X12_does_105 (q_geti (v := t1.1 5) hm rfl (fun m i l => rg_5 m i l) rfl) rfl rfl rfl ?_
          refine y_1le (a := t1.1 5) (t := 112) (pc' := 111) dm_X12_does_108 rfl rfl (by omega) (fun hb5 => ?_) (fun hb5 => ?_)
          · refine me1 (pc' := 113) (L' := [(1, ii z1), (0, .ref 102)]) (S' := [.ref 102]) dm_X12_does_112 rfl rfl rfl rfl ?_
            refine me3 (pc' := 116) (S' := [ii (t1.1 53)]) dm_X12_does_113 (q_geti (v := t1.1 53) hm rfl (fun m i l => rg_53 m i l) rfl) rfl rfl rfl ?_
            refine y_1eq (a := t1.1 53) (t := 128) (pc' := 119) dm_X12_does_116 rfl rfl (by omega) (fun hb6 => ?_) (fun hb6 => ?_)
            · refine me1 (pc' := 129) (L' := [(1, ii z1), (0, .ref 102)]) (S' := [.ref 102]) dm_X12_does_128 rfl rfl rfl rfl ?_
              refine me1 (pc' := 130) (L' := [(1, ii z1), (0, .ref 102)]) (S' := [ii z1, .ref 102]) dm_X12_does_129 rfl rfl rfl rfl ?_
              refine me3 (pc' := 133) (S' := []) (h1 := rI pre post (va_up t1.1 30 z1) t1.2.1 t1.2.2.1 t1.2.2.2) dm_X12_does_130 (q_puti hm rfl rfl (fun m i l v => rf_30 m i l v)) rfl rfl rfl ?_
              refine y_ret (r := none) dm_X12_does_133 rfl rfl rfl ?_
              exact ⟨rfl, _, rfl, k t1 z1 hQ1⟩
            · exfalso; omega
          · exfalso; omega
        · exfalso; omega
      · exfalso; omega
    · exfalso; omega
theorem do_e1 {xt : mj_X} {d : Nat} {pre post : mj_H} {t : RS} (hm : pre.length = 102) (hd1 : 60 ≤ d) {Q : RS → Prop} {n m : Nat} (hn : t.1 23 = (n : Int)) (hmn : t.1 24 = (m : Int)) (hn4 : n ≤ 40) (hm4 : m ≤ 40) (h53 : t.1 53 = 1) (hkn : (0 ≤ fndR (t.2.2.2 19) n (t.2.1 56) ∨ 0 ≤ fndR (t.2.2.2 20) m (t.2.1 56)) ∨ n + m ≠ 40) {Q1 : RS → Int → Prop} (hc : pgV xt (d - 1) 239 [.ref 102, ii (t.1 54)] (rS pre post t) (RA pre post Q1)) (h53u : ∀ u z, Q1 u z → u.1 53 = t.1 53) (h5u : ∀ u z, Q1 u z → 0 < u.1 5) (k : ∀ u z, Q1 u z → Q u) : pgN xt d 234 [.ref 102] (rS pre post t) (fun h' => ∃ u, h' = rS pre post u ∧ Q u) := by
  refine x_enter pm_X12_does (L0 := [(0, .ref 102)]) rfl (Nat.le_of_ble_eq_true rfl) (by omega) ?_
  refine me1 (pc' := 1) (L' := [(0, .ref 102)]) (S' := [.ref 102]) dm_X12_does_0 rfl rfl rfl rfl ?_
  refine me3 (pc' := 4) (S' := [ii (t.1 53)]) dm_X12_does_1 (q_geti (v := t.1 53) hm rfl (fun m i l => rg_53 m i l) rfl) rfl rfl rfl ?_
  refine me0 (pc' := 5) (S' := [ii 1, ii (t.1 53)]) dm_X12_does_4 rfl rfl rfl rfl ?_
  refine y_2eq (a := t.1 53) (b := 1) (t := 16) (pc' := 8) dm_X12_does_5 rfl rfl (by omega) (fun hb1 => ?_) (fun hb1 => ?_)
  · refine me1 (pc' := 17) (L' := [(0, .ref 102)]) (S' := [.ref 102]) dm_X12_does_16 rfl rfl rfl rfl ?_
    refine me1 (pc' := 18) (L' := [(0, .ref 102)]) (S' := [.ref 102, .ref 102]) dm_X12_does_17 rfl rfl rfl rfl ?_
    refine me3 (pc' := 21) (S' := [.long (t.2.1 56), .ref 102]) dm_X12_does_18 (q_getl (v := t.2.1 56) hm rfl (fun m i l => rg_56 m i l) rfl) rfl rfl rfl ?_
    refine x_cp (pc' := 24) (v := zz (decide (0 ≤ (fndR (t.2.2.2 19) n (t.2.1 56)) ∨ 0 ≤ (fndR (t.2.2.2 20) m (t.2.1 56))))) (rest := []) dm_X12_does_21 rfl (q_inv (As := [.long (t.2.1 56)]) (S := []) hm rfl rfl rfl) rfl rfl rfl (r_isKnown_ (n := n) (m := m) (key := t.2.1 56) hm (by omega) hn hmn hn4 hm4) ?_
    refine y_zne (c := decide (0 ≤ (fndR (t.2.2.2 19) n (t.2.1 56)) ∨ 0 ≤ (fndR (t.2.2.2 20) m (t.2.1 56)))) (t := 53) (pc' := 27) dm_X12_does_24 rfl rfl (fun hb2 => ?_) (fun hb2 => ?_)
    · replace hb2 := dT hb2
      refine me1 (pc' := 54) (L' := [(0, .ref 102)]) (S' := [.ref 102]) dm_X12_does_53 rfl rfl rfl rfl ?_
      refine me3 (pc' := 57) (S' := [ii (t.1 53)]) dm_X12_does_54 (q_geti (v := t.1 53) hm rfl (fun m i l => rg_53 m i l) rfl) rfl rfl rfl ?_
      refine me0 (pc' := 58) (S' := [ii 2, ii (t.1 53)]) dm_X12_does_57 rfl rfl rfl rfl ?_
      refine y_2ne (a := t.1 53) (b := 2) (t := 74) (pc' := 61) dm_X12_does_58 rfl rfl (by omega) (fun hb3 => ?_) (fun hb3 => ?_)
      · refine me1 (pc' := 75) (L' := [(0, .ref 102)]) (S' := [.ref 102]) dm_X12_does_74 rfl rfl rfl rfl ?_
        refine me1 (pc' := 76) (L' := [(0, .ref 102)]) (S' := [.ref 102, .ref 102]) dm_X12_does_75 rfl rfl rfl rfl ?_
        refine me3 (pc' := 79) (S' := [ii (t.1 54), .ref 102]) dm_X12_does_76 (q_geti (v := t.1 54) hm rfl (fun m i l => rg_54 m i l) rfl) rfl rfl rfl ?_
        refine x_cv (pc' := 82) (rest := []) dm_X12_does_79 rfl (q_inv (As := [ii (t.1 54)]) (S := []) hm rfl rfl rfl) rfl rfl rfl (hc) ?_
        rintro x1 g1 f1
        obtain ⟨t1, z1, rfl, rfl, hE1, hZ1, hQ1⟩ := f1
        have hu53 := h53u t1 z1 hQ1
        have hu5 := h5u t1 z1 hQ1
        refine me1 (pc' := 83) (L' := [(1, ii z1), (0, .ref 102)]) (S' := []) dm_X12_does_82 rfl rfl rfl rfl ?_
        refine me1 (pc' := 84) (L' := [(1, ii z1), (0, .ref 102)]) (S' := [.ref 102]) dm_X12_does_83 rfl rfl rfl rfl ?_
        refine me3 (pc' := 87) (S' := [ii (t1.1 53)]) dm_X12_does_84 (q_geti (v := t1.1 53) hm rfl (fun m i l => rg_53 m i l) rfl) rfl rfl rfl ?_
        refine me0 (pc' := 88) (S' := [ii 3, ii (t1.1 53)]) dm_X12_does_87 rfl rfl rfl rfl ?_
        refine y_2ne (a := t1.1 53) (b := 3) (t := 104) (pc' := 91) dm_X12_does_88 rfl rfl (by omega) (fun hb4 => ?_) (fun hb4 => ?_)
        · refine me1 (pc' := 105) (L' := [(1, ii z1), (0, .ref 102)]) (S' := [.ref 102]) dm_X12_does_104 rfl rfl rfl rfl ?_
          refine me3 (pc' := 108) (S' := [ii (t1.1 5)]) dm_X12_does_105 (q_geti (v := t1.1 5) hm rfl (fun m i l => rg_5 m i l) rfl) rfl rfl rfl ?_
          refine y_1le (a := t1.1 5) (t := 112) (pc' := 111) dm_X12_does_108 rfl rfl (by omega) (fun hb5 => ?_) (fun hb5 => ?_)
          · exfalso; omega
          · refine y_ret (r := none) dm_X12_does_111 rfl rfl rfl ?_
            exact ⟨rfl, _, rfl, k t1 z1 hQ1⟩
        · exfalso; omega
      · exfalso; omega
    · replace hb2 := dF hb2
      refine me1 (pc' := 28) (L' := [(0, .ref 102)]) (S' := [.ref 102]) dm_X12_does_27 rfl rfl rfl rfl ?_
      refine me3 (pc' := 31) (S' := [ii (t.1 23)]) dm_X12_does_28 (q_geti (v := t.1 23) hm rfl (fun m i l => rg_23 m i l) rfl) rfl rfl rfl ?_
      refine me1 (pc' := 32) (L' := [(0, .ref 102)]) (S' := [.ref 102, ii (t.1 23)]) dm_X12_does_31 rfl rfl rfl rfl ?_
      refine me3 (pc' := 35) (S' := [ii (t.1 24), ii (t.1 23)]) dm_X12_does_32 (q_geti (v := t.1 24) hm rfl (fun m i l => rg_24 m i l) rfl) rfl rfl rfl ?_
      refine y_iadd (a := t.1 23) (b := t.1 24) dm_X12_does_35 (pc' := 36) rfl ?_
      refine me0 (pc' := 38) (S' := [ii 40, ii ((t.1 23) + (t.1 24))]) dm_X12_does_36 rfl rfl rfl rfl ?_
      refine y_2ne (a := (t.1 23) + (t.1 24)) (b := 40) (t := 53) (pc' := 41) dm_X12_does_38 rfl rfl (by omega) (fun hb6 => ?_) (fun hb6 => ?_)
      · refine me1 (pc' := 54) (L' := [(0, .ref 102)]) (S' := [.ref 102]) dm_X12_does_53 rfl rfl rfl rfl ?_
        refine me3 (pc' := 57) (S' := [ii (t.1 53)]) dm_X12_does_54 (q_geti (v := t.1 53) hm rfl (fun m i l => rg_53 m i l) rfl) rfl rfl rfl ?_
        refine me0 (pc' := 58) (S' := [ii 2, ii (t.1 53)]) dm_X12_does_57 rfl rfl rfl rfl ?_
        refine y_2ne (a := t.1 53) (b := 2) (t := 74) (pc' := 61) dm_X12_does_58 rfl rfl (by omega) (fun hb7 => ?_) (fun hb7 => ?_)
        · refine me1 (pc' := 75) (L' := [(0, .ref 102)]) (S' := [.ref 102]) dm_X12_does_74 rfl rfl rfl rfl ?_
          refine me1 (pc' := 76) (L' := [(0, .ref 102)]) (S' := [.ref 102, .ref 102]) dm_X12_does_75 rfl rfl rfl rfl ?_
          refine me3 (pc' := 79) (S' := [ii (t.1 54), .ref 102]) dm_X12_does_76 (q_geti (v := t.1 54) hm rfl (fun m i l => rg_54 m i l) rfl) rfl rfl rfl ?_
          refine x_cv (pc' := 82) (rest := []) dm_X12_does_79 rfl (q_inv (As := [ii (t.1 54)]) (S := []) hm rfl rfl rfl) rfl rfl rfl (hc) ?_
          rintro x1 g1 f1
          obtain ⟨t1, z1, rfl, rfl, hE1, hZ1, hQ1⟩ := f1
          have hu53 := h53u t1 z1 hQ1
          have hu5 := h5u t1 z1 hQ1
          refine me1 (pc' := 83) (L' := [(1, ii z1), (0, .ref 102)]) (S' := []) dm_X12_does_82 rfl rfl rfl rfl ?_
          refine me1 (pc' := 84) (L' := [(1, ii z1), (0, .ref 102)]) (S' := [.ref 102]) dm_X12_does_83 rfl rfl rfl rfl ?_
          refine me3 (pc' := 87) (S' := [ii (t1.1 53)]) dm_X12_does_84 (q_geti (v := t1.1 53) hm rfl (fun m i l => rg_53 m i l) rfl) rfl rfl rfl ?_
          refine me0 (pc' := 88) (S' := [ii 3, ii (t1.1 53)]) dm_X12_does_87 rfl rfl rfl rfl ?_
          refine y_2ne (a := t1.1 53) (b := 3) (t := 104) (pc' := 91) dm_X12_does_88 rfl rfl (by omega) (fun hb8 => ?_) (fun hb8 => ?_)
          · refine me1 (pc' := 105) (L' := [(1, ii z1), (0, .ref 102)]) (S' := [.ref 102]) dm_X12_does_104 rfl rfl rfl rfl ?_
            refine me3 (pc' := 108) (S' := [ii (t1.1 5)]) dm_X12_does_105 (q_geti (v := t1.1 5) hm rfl (fun m i l => rg_5 m i l) rfl) rfl rfl rfl ?_
            refine y_1le (a := t1.1 5) (t := 112) (pc' := 111) dm_X12_does_108 rfl rfl (by omega) (fun hb9 => ?_) (fun hb9 => ?_)
            · exfalso; omega
            · refine y_ret (r := none) dm_X12_does_111 rfl rfl rfl ?_
              exact ⟨rfl, _, rfl, k t1 z1 hQ1⟩
          · exfalso; omega
        · exfalso; omega
      · exfalso; omega
  · exfalso; omega
theorem dm_X12_does_119 : mj_dec prog_14_method_97_code 119 = some (.aload_n 0, 1) := by decide +kernel
theorem dm_X12_does_120 : mj_dec prog_14_method_97_code 120 = some (.aload_n 0, 1) := by decide +kernel
theorem dm_X12_does_121 : mj_dec prog_14_method_97_code 121 = some (.getfield 487, 3) := by decide +kernel
theorem dm_X12_does_124 : mj_dec prog_14_method_97_code 124 = some (.iload_n 1, 1) := by decide +kernel
theorem dm_X12_does_125 : mj_dec prog_14_method_97_code 125 = some (.invokevirtual 529, 3) := by decide +kernel
theorem do_v1 {xt : mj_X} {d : Nat} {pre post : mj_H} {t : RS} (hm : pre.length = 102) (hd1 : 60 ≤ d) {Q : RS → Prop} {n m : Nat} (hn : t.1 23 = (n : Int)) (hmn : t.1 24 = (m : Int)) (hn4 : n ≤ 40) (hm4 : m ≤ 40) (h53 : t.1 53 = 1) (hkn : (0 ≤ fndR (t.2.2.2 19) n (t.2.1 56) ∨ 0 ≤ fndR (t.2.2.2 20) m (t.2.1 56)) ∨ n + m ≠ 40) {Q1 : RS → Int → Prop} (hc : pgV xt (d - 1) 239 [.ref 102, ii (t.1 54)] (rS pre post t) (RA pre post Q1)) (h53u : ∀ u z, Q1 u z → u.1 53 = t.1 53) (h5u : ∀ u z, Q1 u z → u.1 5 = 0) (hnm : ∀ u z, Q1 u z → u.1 23 = (n : Int) ∧ u.1 24 = (m : Int) ∧ fndK (u.2.2.2 19) n (u.2.1 56) < 40) (k : ∀ u z, Q1 u z → Q (fiS (nameS u 19 21 23 20 22 24 n m (u.2.1 56) z) 30 z)) : pgN xt d 234 [.ref 102] (rS pre post t) (fun h' => ∃ u, h' = rS pre post u ∧ Q u) := by
  refine x_enter pm_X12_does (L0 := [(0, .ref 102)]) rfl (Nat.le_of_ble_eq_true rfl) (by omega) ?_
  refine me1 (pc' := 1) (L' := [(0, .ref 102)]) (S' := [.ref 102]) dm_X12_does_0 rfl rfl rfl rfl ?_
  refine me3 (pc' := 4) (S' := [ii (t.1 53)]) dm_X12_does_1 (q_geti (v := t.1 53) hm rfl (fun m i l => rg_53 m i l) rfl) rfl rfl rfl ?_
  refine me0 (pc' := 5) (S' := [ii 1, ii (t.1 53)]) dm_X12_does_4 rfl rfl rfl rfl ?_
  refine y_2eq (a := t.1 53) (b := 1) (t := 16) (pc' := 8) dm_X12_does_5 rfl rfl (by omega) (fun hb1 => ?_) (fun hb1 => ?_)
  · refine me1 (pc' := 17) (L' := [(0, .ref 102)]) (S' := [.ref 102]) dm_X12_does_16 rfl rfl rfl rfl ?_
    refine me1 (pc' := 18) (L' := [(0, .ref 102)]) (S' := [.ref 102, .ref 102]) dm_X12_does_17 rfl rfl rfl rfl ?_
    refine me3 (pc' := 21) (S' := [.long (t.2.1 56), .ref 102]) dm_X12_does_18 (q_getl (v := t.2.1 56) hm rfl (fun m i l => rg_56 m i l) rfl) rfl rfl rfl ?_
    refine x_cp (pc' := 24) (v := zz (decide (0 ≤ (fndR (t.2.2.2 19) n (t.2.1 56)) ∨ 0 ≤ (fndR (t.2.2.2 20) m (t.2.1 56))))) (rest := []) dm_X12_does_21 rfl (q_inv (As := [.long (t.2.1 56)]) (S := []) hm rfl rfl rfl) rfl rfl rfl (r_isKnown_ (n := n) (m := m) (key := t.2.1 56) hm (by omega) hn hmn hn4 hm4) ?_
    refine y_zne (c := decide (0 ≤ (fndR (t.2.2.2 19) n (t.2.1 56)) ∨ 0 ≤ (fndR (t.2.2.2 20) m (t.2.1 56)))) (t := 53) (pc' := 27) dm_X12_does_24 rfl rfl (fun hb2 => ?_) (fun hb2 => ?_)
    · replace hb2 := dT hb2
      refine me1 (pc' := 54) (L' := [(0, .ref 102)]) (S' := [.ref 102]) dm_X12_does_53 rfl rfl rfl rfl ?_
      refine me3 (pc' := 57) (S' := [ii (t.1 53)]) dm_X12_does_54 (q_geti (v := t.1 53) hm rfl (fun m i l => rg_53 m i l) rfl) rfl rfl rfl ?_
      refine me0 (pc' := 58) (S' := [ii 2, ii (t.1 53)]) dm_X12_does_57 rfl rfl rfl rfl ?_
      refine y_2ne (a := t.1 53) (b := 2) (t := 74) (pc' := 61) dm_X12_does_58 rfl rfl (by omega) (fun hb3 => ?_) (fun hb3 => ?_)
      · refine me1 (pc' := 75) (L' := [(0, .ref 102)]) (S' := [.ref 102]) dm_X12_does_74 rfl rfl rfl rfl ?_
        refine me1 (pc' := 76) (L' := [(0, .ref 102)]) (S' := [.ref 102, .ref 102]) dm_X12_does_75 rfl rfl rfl rfl ?_
        refine me3 (pc' := 79) (S' := [ii (t.1 54), .ref 102]) dm_X12_does_76 (q_geti (v := t.1 54) hm rfl (fun m i l => rg_54 m i l) rfl) rfl rfl rfl ?_
        refine x_cv (pc' := 82) (rest := []) dm_X12_does_79 rfl (q_inv (As := [ii (t.1 54)]) (S := []) hm rfl rfl rfl) rfl rfl rfl (hc) ?_
        rintro x1 g1 f1
        obtain ⟨t1, z1, rfl, rfl, hE1, hZ1, hQ1⟩ := f1
        have hu53 := h53u t1 z1 hQ1
        have hu5 := h5u t1 z1 hQ1
        refine me1 (pc' := 83) (L' := [(1, ii z1), (0, .ref 102)]) (S' := []) dm_X12_does_82 rfl rfl rfl rfl ?_
        refine me1 (pc' := 84) (L' := [(1, ii z1), (0, .ref 102)]) (S' := [.ref 102]) dm_X12_does_83 rfl rfl rfl rfl ?_
        refine me3 (pc' := 87) (S' := [ii (t1.1 53)]) dm_X12_does_84 (q_geti (v := t1.1 53) hm rfl (fun m i l => rg_53 m i l) rfl) rfl rfl rfl ?_
        refine me0 (pc' := 88) (S' := [ii 3, ii (t1.1 53)]) dm_X12_does_87 rfl rfl rfl rfl ?_
        refine y_2ne (a := t1.1 53) (b := 3) (t := 104) (pc' := 91) dm_X12_does_88 rfl rfl (by omega) (fun hb4 => ?_) (fun hb4 => ?_)
        · refine me1 (pc' := 105) (L' := [(1, ii z1), (0, .ref 102)]) (S' := [.ref 102]) dm_X12_does_104 rfl rfl rfl rfl ?_
          refine me3 (pc' := 108) (S' := [ii (t1.1 5)]) dm_X12_does_105 (q_geti (v := t1.1 5) hm rfl (fun m i l => rg_5 m i l) rfl) rfl rfl rfl ?_
          refine y_1le (a := t1.1 5) (t := 112) (pc' := 111) dm_X12_does_108 rfl rfl (by omega) (fun hb5 => ?_) (fun hb5 => ?_)
          · refine me1 (pc' := 113) (L' := [(1, ii z1), (0, .ref 102)]) (S' := [.ref 102]) dm_X12_does_112 rfl rfl rfl rfl ?_
            refine me3 (pc' := 116) (S' := [ii (t1.1 53)]) dm_X12_does_113 (q_geti (v := t1.1 53) hm rfl (fun m i l => rg_53 m i l) rfl) rfl rfl rfl ?_
            refine y_1eq (a := t1.1 53) (t := 128) (pc' := 119) dm_X12_does_116 rfl rfl (by omega) (fun hb6 => ?_) (fun hb6 => ?_)
            · exfalso; omega
            · refine me1 (pc' := 120) (L' := [(1, ii z1), (0, .ref 102)]) (S' := [.ref 102]) dm_X12_does_119 rfl rfl rfl rfl ?_
              refine me1 (pc' := 121) (L' := [(1, ii z1), (0, .ref 102)]) (S' := [.ref 102, .ref 102]) dm_X12_does_120 rfl rfl rfl rfl ?_
              refine me3 (pc' := 124) (S' := [.long (t1.2.1 56), .ref 102]) dm_X12_does_121 (q_getl (v := t1.2.1 56) hm rfl (fun m i l => rg_56 m i l) rfl) rfl rfl rfl ?_
              refine me1 (pc' := 125) (L' := [(1, ii z1), (0, .ref 102)]) (S' := [ii z1, .long (t1.2.1 56), .ref 102]) dm_X12_does_124 rfl rfl rfl rfl ?_
              refine x_cn (pc' := 128) (rest := []) dm_X12_does_125 rfl (q_inv (As := [.long (t1.2.1 56), ii z1]) (S := []) hm rfl rfl rfl) rfl rfl rfl (r_means_ (n := n) (m := m) (key := t1.2.1 56) hm (by omega) (hnm t1 z1 hQ1).1 (hnm t1 z1 hQ1).2.1 hn4 hm4 (hnm t1 z1 hQ1).2.2) ?_
              rintro _ rfl
              refine me1 (pc' := 129) (L' := [(1, ii z1), (0, .ref 102)]) (S' := [.ref 102]) dm_X12_does_128 rfl rfl rfl rfl ?_
              refine me1 (pc' := 130) (L' := [(1, ii z1), (0, .ref 102)]) (S' := [ii z1, .ref 102]) dm_X12_does_129 rfl rfl rfl rfl ?_
              refine me3 (pc' := 133) (S' := []) (h1 := rI pre post (va_up ((nameS t1 19 21 23 20 22 24 n m (t1.2.1 56) z1).1) 30 z1) ((nameS t1 19 21 23 20 22 24 n m (t1.2.1 56) z1).2.1) ((nameS t1 19 21 23 20 22 24 n m (t1.2.1 56) z1).2.2.1) ((nameS t1 19 21 23 20 22 24 n m (t1.2.1 56) z1).2.2.2)) dm_X12_does_130 (q_puti hm rfl rfl (fun m i l v => rf_30 m i l v)) rfl rfl rfl ?_
              refine y_ret (r := none) dm_X12_does_133 rfl rfl rfl ?_
              exact ⟨rfl, _, rfl, k t1 z1 hQ1⟩
          · exfalso; omega
        · exfalso; omega
      · exfalso; omega
    · replace hb2 := dF hb2
      refine me1 (pc' := 28) (L' := [(0, .ref 102)]) (S' := [.ref 102]) dm_X12_does_27 rfl rfl rfl rfl ?_
      refine me3 (pc' := 31) (S' := [ii (t.1 23)]) dm_X12_does_28 (q_geti (v := t.1 23) hm rfl (fun m i l => rg_23 m i l) rfl) rfl rfl rfl ?_
      refine me1 (pc' := 32) (L' := [(0, .ref 102)]) (S' := [.ref 102, ii (t.1 23)]) dm_X12_does_31 rfl rfl rfl rfl ?_
      refine me3 (pc' := 35) (S' := [ii (t.1 24), ii (t.1 23)]) dm_X12_does_32 (q_geti (v := t.1 24) hm rfl (fun m i l => rg_24 m i l) rfl) rfl rfl rfl ?_
      refine y_iadd (a := t.1 23) (b := t.1 24) dm_X12_does_35 (pc' := 36) rfl ?_
      refine me0 (pc' := 38) (S' := [ii 40, ii ((t.1 23) + (t.1 24))]) dm_X12_does_36 rfl rfl rfl rfl ?_
      refine y_2ne (a := (t.1 23) + (t.1 24)) (b := 40) (t := 53) (pc' := 41) dm_X12_does_38 rfl rfl (by omega) (fun hb7 => ?_) (fun hb7 => ?_)
      · refine me1 (pc' := 54) (L' := [(0, .ref 102)]) (S' := [.ref 102]) dm_X12_does_53 rfl rfl rfl rfl ?_
        refine me3 (pc' := 57) (S' := [ii (t.1 53)]) dm_X12_does_54 (q_geti (v := t.1 53) hm rfl (fun m i l => rg_53 m i l) rfl) rfl rfl rfl ?_
        refine me0 (pc' := 58) (S' := [ii 2, ii (t.1 53)]) dm_X12_does_57 rfl rfl rfl rfl ?_
        refine y_2ne (a := t.1 53) (b := 2) (t := 74) (pc' := 61) dm_X12_does_58 rfl rfl (by omega) (fun hb8 => ?_) (fun hb8 => ?_)
        · refine me1 (pc' := 75) (L' := [(0, .ref 102)]) (S' := [.ref 102]) dm_X12_does_74 rfl rfl rfl rfl ?_
          refine me1 (pc' := 76) (L' := [(0, .ref 102)]) (S' := [.ref 102, .ref 102]) dm_X12_does_75 rfl rfl rfl rfl ?_
          refine me3 (pc' := 79) (S' := [ii (t.1 54), .ref 102]) dm_X12_does_76 (q_geti (v := t.1 54) hm rfl (fun m i l => rg_54 m i l) rfl) rfl rfl rfl ?_
          refine x_cv (pc' := 82) (rest := []) dm_X12_does_79 rfl (q_inv (As := [ii (t.1 54)]) (S := []) hm rfl rfl rfl) rfl rfl rfl (hc) ?_
          rintro x1 g1 f1
          obtain ⟨t1, z1, rfl, rfl, hE1, hZ1, hQ1⟩ := f1
          have hu53 := h53u t1 z1 hQ1
          have hu5 := h5u t1 z1 hQ1
          refine me1 (pc' := 83) (L' := [(1, ii z1), (0, .ref 102)]) (S' := []) dm_X12_does_82 rfl rfl rfl rfl ?_
          refine me1 (pc' := 84) (L' := [(1, ii z1), (0, .ref 102)]) (S' := [.ref 102]) dm_X12_does_83 rfl rfl rfl rfl ?_
          refine me3 (pc' := 87) (S' := [ii (t1.1 53)]) dm_X12_does_84 (q_geti (v := t1.1 53) hm rfl (fun m i l => rg_53 m i l) rfl) rfl rfl rfl ?_
          refine me0 (pc' := 88) (S' := [ii 3, ii (t1.1 53)]) dm_X12_does_87 rfl rfl rfl rfl ?_
          refine y_2ne (a := t1.1 53) (b := 3) (t := 104) (pc' := 91) dm_X12_does_88 rfl rfl (by omega) (fun hb9 => ?_) (fun hb9 => ?_)
          · refine me1 (pc' := 105) (L' := [(1, ii z1), (0, .ref 102)]) (S' := [.ref 102]) dm_X12_does_104 rfl rfl rfl rfl ?_
            refine me3 (pc' := 108) (S' := [ii (t1.1 5)]) dm_X12_does_105 (q_geti (v := t1.1 5) hm rfl (fun m i l => rg_5 m i l) rfl) rfl rfl rfl ?_
            refine y_1le (a := t1.1 5) (t := 112) (pc' := 111) dm_X12_does_108 rfl rfl (by omega) (fun hb10 => ?_) (fun hb10 => ?_)
            · refine me1 (pc' := 113) (L' := [(1, ii z1), (0, .ref 102)]) (S' := [.ref 102]) dm_X12_does_112 rfl rfl rfl rfl ?_
              refine me3 (pc' := 116) (S' := [ii (t1.1 53)]) dm_X12_does_113 (q_geti (v := t1.1 53) hm rfl (fun m i l => rg_53 m i l) rfl) rfl rfl rfl ?_
              refine y_1eq (a := t1.1 53) (t := 128) (pc' := 119) dm_X12_does_116 rfl rfl (by omega) (fun hb11 => ?_) (fun hb11 => ?_)
              · exfalso; omega
              · refine me1 (pc' := 120) (L' := [(1, ii z1), (0, .ref 102)]) (S' := [.ref 102]) dm_X12_does_119 rfl rfl rfl rfl ?_
                refine me1 (pc' := 121) (L' := [(1, ii z1), (0, .ref 102)]) (S' := [.ref 102, .ref 102]) dm_X12_does_120 rfl rfl rfl rfl ?_
                refine me3 (pc' := 124) (S' := [.long (t1.2.1 56), .ref 102]) dm_X12_does_121 (q_getl (v := t1.2.1 56) hm rfl (fun m i l => rg_56 m i l) rfl) rfl rfl rfl ?_
                refine me1 (pc' := 125) (L' := [(1, ii z1), (0, .ref 102)]) (S' := [ii z1, .long (t1.2.1 56), .ref 102]) dm_X12_does_124 rfl rfl rfl rfl ?_
                refine x_cn (pc' := 128) (rest := []) dm_X12_does_125 rfl (q_inv (As := [.long (t1.2.1 56), ii z1]) (S := []) hm rfl rfl rfl) rfl rfl rfl (r_means_ (n := n) (m := m) (key := t1.2.1 56) hm (by omega) (hnm t1 z1 hQ1).1 (hnm t1 z1 hQ1).2.1 hn4 hm4 (hnm t1 z1 hQ1).2.2) ?_
                rintro _ rfl
                refine me1 (pc' := 129) (L' := [(1, ii z1), (0, .ref 102)]) (S' := [.ref 102]) dm_X12_does_128 rfl rfl rfl rfl ?_
                refine me1 (pc' := 130) (L' := [(1, ii z1), (0, .ref 102)]) (S' := [ii z1, .ref 102]) dm_X12_does_129 rfl rfl rfl rfl ?_
                refine me3 (pc' := 133) (S' := []) (h1 := rI pre post (va_up ((nameS t1 19 21 23 20 22 24 n m (t1.2.1 56) z1).1) 30 z1) ((nameS t1 19 21 23 20 22 24 n m (t1.2.1 56) z1).2.1) ((nameS t1 19 21 23 20 22 24 n m (t1.2.1 56) z1).2.2.1) ((nameS t1 19 21 23 20 22 24 n m (t1.2.1 56) z1).2.2.2)) dm_X12_does_130 (q_puti hm rfl rfl (fun m i l v => rf_30 m i l v)) rfl rfl rfl ?_
                refine y_ret (r := none) dm_X12_does_133 rfl rfl rfl ?_
                exact ⟨rfl, _, rfl, k t1 z1 hQ1⟩
            · exfalso; omega
          · exfalso; omega
        · exfalso; omega
      · exfalso; omega
  · exfalso; omega
theorem dm_X12_does_91 : mj_dec prog_14_method_97_code 91 = some (.aload_n 0, 1) := by decide +kernel
theorem dm_X12_does_92 : mj_dec prog_14_method_97_code 92 = some (.getfield 181, 3) := by decide +kernel
theorem dm_X12_does_95 : mj_dec prog_14_method_97_code 95 = some (.ifCond .ne 9, 3) := by decide +kernel
theorem do_e3 {xt : mj_X} {d : Nat} {pre post : mj_H} {t : RS} (hm : pre.length = 102) (hd1 : 60 ≤ d) {Q : RS → Prop} (h53 : t.1 53 = 3) {Q1 : RS → Int → Prop} (hc : pgV xt (d - 1) 239 [.ref 102, ii (t.1 54)] (rS pre post t) (RA pre post Q1)) (h53u : ∀ u z, Q1 u z → u.1 53 = t.1 53) (h5u : ∀ u z, Q1 u z → 0 < u.1 5) (k : ∀ u z, Q1 u z → Q u) : pgN xt d 234 [.ref 102] (rS pre post t) (fun h' => ∃ u, h' = rS pre post u ∧ Q u) := by
  refine x_enter pm_X12_does (L0 := [(0, .ref 102)]) rfl (Nat.le_of_ble_eq_true rfl) (by omega) ?_
  refine me1 (pc' := 1) (L' := [(0, .ref 102)]) (S' := [.ref 102]) dm_X12_does_0 rfl rfl rfl rfl ?_
  refine me3 (pc' := 4) (S' := [ii (t.1 53)]) dm_X12_does_1 (q_geti (v := t.1 53) hm rfl (fun m i l => rg_53 m i l) rfl) rfl rfl rfl ?_
  refine me0 (pc' := 5) (S' := [ii 1, ii (t.1 53)]) dm_X12_does_4 rfl rfl rfl rfl ?_
  refine y_2eq (a := t.1 53) (b := 1) (t := 16) (pc' := 8) dm_X12_does_5 rfl rfl (by omega) (fun hb1 => ?_) (fun hb1 => ?_)
  · exfalso; omega
  · refine me1 (pc' := 9) (L' := [(0, .ref 102)]) (S' := [.ref 102]) dm_X12_does_8 rfl rfl rfl rfl ?_
    refine me3 (pc' := 12) (S' := [ii (t.1 53)]) dm_X12_does_9 (q_geti (v := t.1 53) hm rfl (fun m i l => rg_53 m i l) rfl) rfl rfl rfl ?_
    refine me0 (pc' := 13) (S' := [ii 2, ii (t.1 53)]) dm_X12_does_12 rfl rfl rfl rfl ?_
    refine y_2ne (a := t.1 53) (b := 2) (t := 53) (pc' := 16) dm_X12_does_13 rfl rfl (by omega) (fun hb2 => ?_) (fun hb2 => ?_)
    · refine me1 (pc' := 54) (L' := [(0, .ref 102)]) (S' := [.ref 102]) dm_X12_does_53 rfl rfl rfl rfl ?_
      refine me3 (pc' := 57) (S' := [ii (t.1 53)]) dm_X12_does_54 (q_geti (v := t.1 53) hm rfl (fun m i l => rg_53 m i l) rfl) rfl rfl rfl ?_
      refine me0 (pc' := 58) (S' := [ii 2, ii (t.1 53)]) dm_X12_does_57 rfl rfl rfl rfl ?_
      refine y_2ne (a := t.1 53) (b := 2) (t := 74) (pc' := 61) dm_X12_does_58 rfl rfl (by omega) (fun hb3 => ?_) (fun hb3 => ?_)
      · refine me1 (pc' := 75) (L' := [(0, .ref 102)]) (S' := [.ref 102]) dm_X12_does_74 rfl rfl rfl rfl ?_
        refine me1 (pc' := 76) (L' := [(0, .ref 102)]) (S' := [.ref 102, .ref 102]) dm_X12_does_75 rfl rfl rfl rfl ?_
        refine me3 (pc' := 79) (S' := [ii (t.1 54), .ref 102]) dm_X12_does_76 (q_geti (v := t.1 54) hm rfl (fun m i l => rg_54 m i l) rfl) rfl rfl rfl ?_
        refine x_cv (pc' := 82) (rest := []) dm_X12_does_79 rfl (q_inv (As := [ii (t.1 54)]) (S := []) hm rfl rfl rfl) rfl rfl rfl (hc) ?_
        rintro x1 g1 f1
        obtain ⟨t1, z1, rfl, rfl, hE1, hZ1, hQ1⟩ := f1
        have hu53 := h53u t1 z1 hQ1
        have hu5 := h5u t1 z1 hQ1
        refine me1 (pc' := 83) (L' := [(1, ii z1), (0, .ref 102)]) (S' := []) dm_X12_does_82 rfl rfl rfl rfl ?_
        refine me1 (pc' := 84) (L' := [(1, ii z1), (0, .ref 102)]) (S' := [.ref 102]) dm_X12_does_83 rfl rfl rfl rfl ?_
        refine me3 (pc' := 87) (S' := [ii (t1.1 53)]) dm_X12_does_84 (q_geti (v := t1.1 53) hm rfl (fun m i l => rg_53 m i l) rfl) rfl rfl rfl ?_
        refine me0 (pc' := 88) (S' := [ii 3, ii (t1.1 53)]) dm_X12_does_87 rfl rfl rfl rfl ?_
        refine y_2ne (a := t1.1 53) (b := 3) (t := 104) (pc' := 91) dm_X12_does_88 rfl rfl (by omega) (fun hb4 => ?_) (fun hb4 => ?_)
        · exfalso; omega
        · refine me1 (pc' := 92) (L' := [(1, ii z1), (0, .ref 102)]) (S' := [.ref 102]) dm_X12_does_91 rfl rfl rfl rfl ?_
          refine me3 (pc' := 95) (S' := [ii (t1.1 5)]) dm_X12_does_92 (q_geti (v := t1.1 5) hm rfl (fun m i l => rg_5 m i l) rfl) rfl rfl rfl ?_
          refine y_1ne (a := t1.1 5) (t := 104) (pc' := 98) dm_X12_does_95 rfl rfl (by omega) (fun hb5 => ?_) (fun hb5 => ?_)
          · refine me1 (pc' := 105) (L' := [(1, ii z1), (0, .ref 102)]) (S' := [.ref 102]) dm_X12_does_104 rfl rfl rfl rfl ?_
            refine me3 (pc' := 108) (S' := [ii (t1.1 5)]) dm_X12_does_105 (q_geti (v := t1.1 5) hm rfl (fun m i l => rg_5 m i l) rfl) rfl rfl rfl ?_
            refine y_1le (a := t1.1 5) (t := 112) (pc' := 111) dm_X12_does_108 rfl rfl (by omega) (fun hb6 => ?_) (fun hb6 => ?_)
            · exfalso; omega
            · refine y_ret (r := none) dm_X12_does_111 rfl rfl rfl ?_
              exact ⟨rfl, _, rfl, k t1 z1 hQ1⟩
          · exfalso; omega
      · exfalso; omega
    · exfalso; omega
theorem dm_X12_does_98 : mj_dec prog_14_method_97_code 98 = some (.aload_n 0, 1) := by decide +kernel
theorem dm_X12_does_99 : mj_dec prog_14_method_97_code 99 = some (.iload_n 1, 1) := by decide +kernel
theorem dm_X12_does_100 : mj_dec prog_14_method_97_code 100 = some (.invokevirtual 526, 3) := by decide +kernel
theorem dm_X12_does_103 : mj_dec prog_14_method_97_code 103 = some (.istore_n 1, 1) := by decide +kernel
theorem do_a3e {xt : mj_X} {d : Nat} {pre post : mj_H} {t : RS} (hm : pre.length = 102) (hd1 : 60 ≤ d) {Q : RS → Prop} (h53 : t.1 53 = 3) {Q1 : RS → Int → Prop} (hc : pgV xt (d - 1) 239 [.ref 102, ii (t.1 54)] (rS pre post t) (RA pre post Q1)) (h53u : ∀ u z, Q1 u z → u.1 53 = t.1 53) {Q2 : RS → Int → Prop} (hc2 : ∀ u z, Q1 u z → pgV xt (d - 1) 300 [.ref 102, ii z] (rS pre post u) (RA pre post Q2)) (h5u : ∀ u z, Q1 u z → u.1 5 = 0) (h53v : ∀ u z, Q2 u z → u.1 53 = t.1 53) (h5v : ∀ u z, Q2 u z → 0 < u.1 5) (k : ∀ u z, Q2 u z → Q u) : pgN xt d 234 [.ref 102] (rS pre post t) (fun h' => ∃ u, h' = rS pre post u ∧ Q u) := by
  refine x_enter pm_X12_does (L0 := [(0, .ref 102)]) rfl (Nat.le_of_ble_eq_true rfl) (by omega) ?_
  refine me1 (pc' := 1) (L' := [(0, .ref 102)]) (S' := [.ref 102]) dm_X12_does_0 rfl rfl rfl rfl ?_
  refine me3 (pc' := 4) (S' := [ii (t.1 53)]) dm_X12_does_1 (q_geti (v := t.1 53) hm rfl (fun m i l => rg_53 m i l) rfl) rfl rfl rfl ?_
  refine me0 (pc' := 5) (S' := [ii 1, ii (t.1 53)]) dm_X12_does_4 rfl rfl rfl rfl ?_
  refine y_2eq (a := t.1 53) (b := 1) (t := 16) (pc' := 8) dm_X12_does_5 rfl rfl (by omega) (fun hb1 => ?_) (fun hb1 => ?_)
  · exfalso; omega
  · refine me1 (pc' := 9) (L' := [(0, .ref 102)]) (S' := [.ref 102]) dm_X12_does_8 rfl rfl rfl rfl ?_
    refine me3 (pc' := 12) (S' := [ii (t.1 53)]) dm_X12_does_9 (q_geti (v := t.1 53) hm rfl (fun m i l => rg_53 m i l) rfl) rfl rfl rfl ?_
    refine me0 (pc' := 13) (S' := [ii 2, ii (t.1 53)]) dm_X12_does_12 rfl rfl rfl rfl ?_
    refine y_2ne (a := t.1 53) (b := 2) (t := 53) (pc' := 16) dm_X12_does_13 rfl rfl (by omega) (fun hb2 => ?_) (fun hb2 => ?_)
    · refine me1 (pc' := 54) (L' := [(0, .ref 102)]) (S' := [.ref 102]) dm_X12_does_53 rfl rfl rfl rfl ?_
      refine me3 (pc' := 57) (S' := [ii (t.1 53)]) dm_X12_does_54 (q_geti (v := t.1 53) hm rfl (fun m i l => rg_53 m i l) rfl) rfl rfl rfl ?_
      refine me0 (pc' := 58) (S' := [ii 2, ii (t.1 53)]) dm_X12_does_57 rfl rfl rfl rfl ?_
      refine y_2ne (a := t.1 53) (b := 2) (t := 74) (pc' := 61) dm_X12_does_58 rfl rfl (by omega) (fun hb3 => ?_) (fun hb3 => ?_)
      · refine me1 (pc' := 75) (L' := [(0, .ref 102)]) (S' := [.ref 102]) dm_X12_does_74 rfl rfl rfl rfl ?_
        refine me1 (pc' := 76) (L' := [(0, .ref 102)]) (S' := [.ref 102, .ref 102]) dm_X12_does_75 rfl rfl rfl rfl ?_
        refine me3 (pc' := 79) (S' := [ii (t.1 54), .ref 102]) dm_X12_does_76 (q_geti (v := t.1 54) hm rfl (fun m i l => rg_54 m i l) rfl) rfl rfl rfl ?_
        refine x_cv (pc' := 82) (rest := []) dm_X12_does_79 rfl (q_inv (As := [ii (t.1 54)]) (S := []) hm rfl rfl rfl) rfl rfl rfl (hc) ?_
        rintro x1 g1 f1
        obtain ⟨t1, z1, rfl, rfl, hE1, hZ1, hQ1⟩ := f1
        have hu53 := h53u t1 z1 hQ1
        have hu5 := h5u t1 z1 hQ1
        refine me1 (pc' := 83) (L' := [(1, ii z1), (0, .ref 102)]) (S' := []) dm_X12_does_82 rfl rfl rfl rfl ?_
        refine me1 (pc' := 84) (L' := [(1, ii z1), (0, .ref 102)]) (S' := [.ref 102]) dm_X12_does_83 rfl rfl rfl rfl ?_
        refine me3 (pc' := 87) (S' := [ii (t1.1 53)]) dm_X12_does_84 (q_geti (v := t1.1 53) hm rfl (fun m i l => rg_53 m i l) rfl) rfl rfl rfl ?_
        refine me0 (pc' := 88) (S' := [ii 3, ii (t1.1 53)]) dm_X12_does_87 rfl rfl rfl rfl ?_
        refine y_2ne (a := t1.1 53) (b := 3) (t := 104) (pc' := 91) dm_X12_does_88 rfl rfl (by omega) (fun hb4 => ?_) (fun hb4 => ?_)
        · exfalso; omega
        · refine me1 (pc' := 92) (L' := [(1, ii z1), (0, .ref 102)]) (S' := [.ref 102]) dm_X12_does_91 rfl rfl rfl rfl ?_
          refine me3 (pc' := 95) (S' := [ii (t1.1 5)]) dm_X12_does_92 (q_geti (v := t1.1 5) hm rfl (fun m i l => rg_5 m i l) rfl) rfl rfl rfl ?_
          refine y_1ne (a := t1.1 5) (t := 104) (pc' := 98) dm_X12_does_95 rfl rfl (by omega) (fun hb5 => ?_) (fun hb5 => ?_)
          · exfalso; omega
          · refine me1 (pc' := 99) (L' := [(1, ii z1), (0, .ref 102)]) (S' := [.ref 102]) dm_X12_does_98 rfl rfl rfl rfl ?_
            refine me1 (pc' := 100) (L' := [(1, ii z1), (0, .ref 102)]) (S' := [ii z1, .ref 102]) dm_X12_does_99 rfl rfl rfl rfl ?_
            refine x_cv (pc' := 103) (rest := []) dm_X12_does_100 rfl (q_inv (As := [ii z1]) (S := []) hm rfl rfl rfl) rfl rfl rfl (hc2 t1 z1 hQ1) ?_
            rintro x2 g2 f2
            obtain ⟨t2, z2, rfl, rfl, hE2, hZ2, hQ2⟩ := f2
            have hv5 := h5v t2 z2 hQ2
            have hv53 := h53v t2 z2 hQ2
            refine me1 (pc' := 104) (L' := [(1, ii z2), (0, .ref 102)]) (S' := []) dm_X12_does_103 rfl rfl rfl rfl ?_
            refine me1 (pc' := 105) (L' := [(1, ii z2), (0, .ref 102)]) (S' := [.ref 102]) dm_X12_does_104 rfl rfl rfl rfl ?_
            refine me3 (pc' := 108) (S' := [ii (t2.1 5)]) dm_X12_does_105 (q_geti (v := t2.1 5) hm rfl (fun m i l => rg_5 m i l) rfl) rfl rfl rfl ?_
            refine y_1le (a := t2.1 5) (t := 112) (pc' := 111) dm_X12_does_108 rfl rfl (by omega) (fun hb6 => ?_) (fun hb6 => ?_)
            · exfalso; omega
            · refine y_ret (r := none) dm_X12_does_111 rfl rfl rfl ?_
              exact ⟨rfl, _, rfl, k t2 z2 hQ2⟩
      · exfalso; omega
    · exfalso; omega
theorem do_a3v {xt : mj_X} {d : Nat} {pre post : mj_H} {t : RS} (hm : pre.length = 102) (hd1 : 60 ≤ d) {Q : RS → Prop} (h53 : t.1 53 = 3) {n m : Nat} (hn4 : n ≤ 40) (hm4 : m ≤ 40) {Q1 : RS → Int → Prop} (hc : pgV xt (d - 1) 239 [.ref 102, ii (t.1 54)] (rS pre post t) (RA pre post Q1)) (h53u : ∀ u z, Q1 u z → u.1 53 = t.1 53) {Q2 : RS → Int → Prop} (hc2 : ∀ u z, Q1 u z → pgV xt (d - 1) 300 [.ref 102, ii z] (rS pre post u) (RA pre post Q2)) (h5u : ∀ u z, Q1 u z → u.1 5 = 0) (h53v : ∀ u z, Q2 u z → u.1 53 = t.1 53) (h5v : ∀ u z, Q2 u z → u.1 5 = 0) (hnm : ∀ u z, Q2 u z → u.1 23 = (n : Int) ∧ u.1 24 = (m : Int) ∧ fndK (u.2.2.2 19) n (u.2.1 56) < 40) (k : ∀ u z, Q2 u z → Q (fiS (nameS u 19 21 23 20 22 24 n m (u.2.1 56) z) 30 z)) : pgN xt d 234 [.ref 102] (rS pre post t) (fun h' => ∃ u, h' = rS pre post u ∧ Q u) := by
  refine x_enter pm_X12_does (L0 := [(0, .ref 102)]) rfl (Nat.le_of_ble_eq_true rfl) (by omega) ?_
  refine me1 (pc' := 1) (L' := [(0, .ref 102)]) (S' := [.ref 102]) dm_X12_does_0 rfl rfl rfl rfl ?_
  refine me3 (pc' := 4) (S' := [ii (t.1 53)]) dm_X12_does_1 (q_geti (v := t.1 53) hm rfl (fun m i l => rg_53 m i l) rfl) rfl rfl rfl ?_
  refine me0 (pc' := 5) (S' := [ii 1, ii (t.1 53)]) dm_X12_does_4 rfl rfl rfl rfl ?_
  refine y_2eq (a := t.1 53) (b := 1) (t := 16) (pc' := 8) dm_X12_does_5 rfl rfl (by omega) (fun hb1 => ?_) (fun hb1 => ?_)
  · exfalso; omega
  · refine me1 (pc' := 9) (L' := [(0, .ref 102)]) (S' := [.ref 102]) dm_X12_does_8 rfl rfl rfl rfl ?_
    refine me3 (pc' := 12) (S' := [ii (t.1 53)]) dm_X12_does_9 (q_geti (v := t.1 53) hm rfl (fun m i l => rg_53 m i l) rfl) rfl rfl rfl ?_
    refine me0 (pc' := 13) (S' := [ii 2, ii (t.1 53)]) dm_X12_does_12 rfl rfl rfl rfl ?_
    refine y_2ne (a := t.1 53) (b := 2) (t := 53) (pc' := 16) dm_X12_does_13 rfl rfl (by omega) (fun hb2 => ?_) (fun hb2 => ?_)
    · refine me1 (pc' := 54) (L' := [(0, .ref 102)]) (S' := [.ref 102]) dm_X12_does_53 rfl rfl rfl rfl ?_
      refine me3 (pc' := 57) (S' := [ii (t.1 53)]) dm_X12_does_54 (q_geti (v := t.1 53) hm rfl (fun m i l => rg_53 m i l) rfl) rfl rfl rfl ?_
      refine me0 (pc' := 58) (S' := [ii 2, ii (t.1 53)]) dm_X12_does_57 rfl rfl rfl rfl ?_
      refine y_2ne (a := t.1 53) (b := 2) (t := 74) (pc' := 61) dm_X12_does_58 rfl rfl (by omega) (fun hb3 => ?_) (fun hb3 => ?_)
      · refine me1 (pc' := 75) (L' := [(0, .ref 102)]) (S' := [.ref 102]) dm_X12_does_74 rfl rfl rfl rfl ?_
        refine me1 (pc' := 76) (L' := [(0, .ref 102)]) (S' := [.ref 102, .ref 102]) dm_X12_does_75 rfl rfl rfl rfl ?_
        refine me3 (pc' := 79) (S' := [ii (t.1 54), .ref 102]) dm_X12_does_76 (q_geti (v := t.1 54) hm rfl (fun m i l => rg_54 m i l) rfl) rfl rfl rfl ?_
        refine x_cv (pc' := 82) (rest := []) dm_X12_does_79 rfl (q_inv (As := [ii (t.1 54)]) (S := []) hm rfl rfl rfl) rfl rfl rfl (hc) ?_
        rintro x1 g1 f1
        obtain ⟨t1, z1, rfl, rfl, hE1, hZ1, hQ1⟩ := f1
        have hu53 := h53u t1 z1 hQ1
        have hu5 := h5u t1 z1 hQ1
        refine me1 (pc' := 83) (L' := [(1, ii z1), (0, .ref 102)]) (S' := []) dm_X12_does_82 rfl rfl rfl rfl ?_
        refine me1 (pc' := 84) (L' := [(1, ii z1), (0, .ref 102)]) (S' := [.ref 102]) dm_X12_does_83 rfl rfl rfl rfl ?_
        refine me3 (pc' := 87) (S' := [ii (t1.1 53)]) dm_X12_does_84 (q_geti (v := t1.1 53) hm rfl (fun m i l => rg_53 m i l) rfl) rfl rfl rfl ?_
        refine me0 (pc' := 88) (S' := [ii 3, ii (t1.1 53)]) dm_X12_does_87 rfl rfl rfl rfl ?_
        refine y_2ne (a := t1.1 53) (b := 3) (t := 104) (pc' := 91) dm_X12_does_88 rfl rfl (by omega) (fun hb4 => ?_) (fun hb4 => ?_)
        · exfalso; omega
        · refine me1 (pc' := 92) (L' := [(1, ii z1), (0, .ref 102)]) (S' := [.ref 102]) dm_X12_does_91 rfl rfl rfl rfl ?_
          refine me3 (pc' := 95) (S' := [ii (t1.1 5)]) dm_X12_does_92 (q_geti (v := t1.1 5) hm rfl (fun m i l => rg_5 m i l) rfl) rfl rfl rfl ?_
          refine y_1ne (a := t1.1 5) (t := 104) (pc' := 98) dm_X12_does_95 rfl rfl (by omega) (fun hb5 => ?_) (fun hb5 => ?_)
          · exfalso; omega
          · refine me1 (pc' := 99) (L' := [(1, ii z1), (0, .ref 102)]) (S' := [.ref 102]) dm_X12_does_98 rfl rfl rfl rfl ?_
            refine me1 (pc' := 100) (L' := [(1, ii z1), (0, .ref 102)]) (S' := [ii z1, .ref 102]) dm_X12_does_99 rfl rfl rfl rfl ?_
            refine x_cv (pc' := 103) (rest := []) dm_X12_does_100 rfl (q_inv (As := [ii z1]) (S := []) hm rfl rfl rfl) rfl rfl rfl (hc2 t1 z1 hQ1) ?_
            rintro x2 g2 f2
            obtain ⟨t2, z2, rfl, rfl, hE2, hZ2, hQ2⟩ := f2
            have hv5 := h5v t2 z2 hQ2
            have hv53 := h53v t2 z2 hQ2
            refine me1 (pc' := 104) (L' := [(1, ii z2), (0, .ref 102)]) (S' := []) dm_X12_does_103 rfl rfl rfl rfl ?_
            refine me1 (pc' := 105) (L' := [(1, ii z2), (0, .ref 102)]) (S' := [.ref 102]) dm_X12_does_104 rfl rfl rfl rfl ?_
            refine me3 (pc' := 108) (S' := [ii (t2.1 5)]) dm_X12_does_105 (q_geti (v := t2.1 5) hm rfl (fun m i l => rg_5 m i l) rfl) rfl rfl rfl ?_
            refine y_1le (a := t2.1 5) (t := 112) (pc' := 111) dm_X12_does_108 rfl rfl (by omega) (fun hb6 => ?_) (fun hb6 => ?_)
            · refine me1 (pc' := 113) (L' := [(1, ii z2), (0, .ref 102)]) (S' := [.ref 102]) dm_X12_does_112 rfl rfl rfl rfl ?_
              refine me3 (pc' := 116) (S' := [ii (t2.1 53)]) dm_X12_does_113 (q_geti (v := t2.1 53) hm rfl (fun m i l => rg_53 m i l) rfl) rfl rfl rfl ?_
              refine y_1eq (a := t2.1 53) (t := 128) (pc' := 119) dm_X12_does_116 rfl rfl (by omega) (fun hb7 => ?_) (fun hb7 => ?_)
              · exfalso; omega
              · refine me1 (pc' := 120) (L' := [(1, ii z2), (0, .ref 102)]) (S' := [.ref 102]) dm_X12_does_119 rfl rfl rfl rfl ?_
                refine me1 (pc' := 121) (L' := [(1, ii z2), (0, .ref 102)]) (S' := [.ref 102, .ref 102]) dm_X12_does_120 rfl rfl rfl rfl ?_
                refine me3 (pc' := 124) (S' := [.long (t2.2.1 56), .ref 102]) dm_X12_does_121 (q_getl (v := t2.2.1 56) hm rfl (fun m i l => rg_56 m i l) rfl) rfl rfl rfl ?_
                refine me1 (pc' := 125) (L' := [(1, ii z2), (0, .ref 102)]) (S' := [ii z2, .long (t2.2.1 56), .ref 102]) dm_X12_does_124 rfl rfl rfl rfl ?_
                refine x_cn (pc' := 128) (rest := []) dm_X12_does_125 rfl (q_inv (As := [.long (t2.2.1 56), ii z2]) (S := []) hm rfl rfl rfl) rfl rfl rfl (r_means_ (n := n) (m := m) (key := t2.2.1 56) hm (by omega) (hnm t2 z2 hQ2).1 (hnm t2 z2 hQ2).2.1 hn4 hm4 (hnm t2 z2 hQ2).2.2) ?_
                rintro _ rfl
                refine me1 (pc' := 129) (L' := [(1, ii z2), (0, .ref 102)]) (S' := [.ref 102]) dm_X12_does_128 rfl rfl rfl rfl ?_
                refine me1 (pc' := 130) (L' := [(1, ii z2), (0, .ref 102)]) (S' := [ii z2, .ref 102]) dm_X12_does_129 rfl rfl rfl rfl ?_
                refine me3 (pc' := 133) (S' := []) (h1 := rI pre post (va_up ((nameS t2 19 21 23 20 22 24 n m (t2.2.1 56) z2).1) 30 z2) ((nameS t2 19 21 23 20 22 24 n m (t2.2.1 56) z2).2.1) ((nameS t2 19 21 23 20 22 24 n m (t2.2.1 56) z2).2.2.1) ((nameS t2 19 21 23 20 22 24 n m (t2.2.1 56) z2).2.2.2)) dm_X12_does_130 (q_puti hm rfl rfl (fun m i l v => rf_30 m i l v)) rfl rfl rfl ?_
                refine y_ret (r := none) dm_X12_does_133 rfl rfl rfl ?_
                exact ⟨rfl, _, rfl, k t2 z2 hQ2⟩
            · exfalso; omega
      · exfalso; omega
    · exfalso; omega
set_option maxRecDepth 20000 in
theorem pm_X12_line : mj_mmof pg_ms 202 = some ((⟨"ArrayCalculatorModel", "line", "(I)I"⟩, prog_14_method_95_code, 5, (Option.some Jvm.ClassFile.FieldType.int)), 12, false, mj_dec prog_14_method_95_code) := rfl
theorem dm_X12_line_0 : mj_dec prog_14_method_95_code 0 = some (.iload_n 1, 1) := by decide +kernel
theorem dm_X12_line_1 : mj_dec prog_14_method_95_code 1 = some (.ifCond .lt 11, 3) := by decide +kernel
theorem dm_X12_line_4 : mj_dec prog_14_method_95_code 4 = some (.iload_n 1, 1) := by decide +kernel
theorem dm_X12_line_5 : mj_dec prog_14_method_95_code 5 = some (.aload_n 0, 1) := by decide +kernel
theorem dm_X12_line_6 : mj_dec prog_14_method_95_code 6 = some (.getfield 501, 3) := by decide +kernel
theorem dm_X12_line_9 : mj_dec prog_14_method_95_code 9 = some (.if_icmp .le 6, 3) := by decide +kernel
theorem dm_X12_line_12 : mj_dec prog_14_method_95_code 12 = some (.bipush (-100), 2) := by decide +kernel
theorem dm_X12_line_14 : mj_dec prog_14_method_95_code 14 = some (.ireturn, 1) := by decide +kernel
theorem li_no {xt : mj_X} {d : Nat} {pre post : mj_H} {t : RS} (hm : pre.length = 102) (hd1 : 100 ≤ d) {Q : RS → Int → Prop} {x : Int} (hx : -2147483648 ≤ x ∧ x ≤ 2147483647) (h33 : 0 ≤ t.1 33 ∧ t.1 33 ≤ 300) (hno : x < 0 ∨ t.1 33 < x) (k : Q t (-100)) : pgV xt d 202 [.ref 102, ii x] (rS pre post t) (RL2 pre post Q) := by
  refine x_enter pm_X12_line (L0 := [(0, .ref 102), (1, ii x)]) rfl (Nat.le_of_ble_eq_true rfl) (by omega) ?_
  refine me1 (pc' := 1) (L' := [(0, .ref 102), (1, ii x)]) (S' := [ii x]) dm_X12_line_0 rfl rfl rfl rfl ?_
  refine y_1lt (a := x) (t := 12) (pc' := 4) dm_X12_line_1 rfl rfl (by omega) (fun hb1 => ?_) (fun hb1 => ?_)
  · refine me0 (pc' := 14) (S' := [ii (-100)]) dm_X12_line_12 rfl rfl rfl rfl ?_
    refine y_ret (r := some (ii (-100))) dm_X12_line_14 rfl rfl rfl ?_
    exact ⟨_, rfl, _, _, rfl, rfl, k⟩
  · refine me1 (pc' := 5) (L' := [(0, .ref 102), (1, ii x)]) (S' := [ii x]) dm_X12_line_4 rfl rfl rfl rfl ?_
    refine me1 (pc' := 6) (L' := [(0, .ref 102), (1, ii x)]) (S' := [.ref 102, ii x]) dm_X12_line_5 rfl rfl rfl rfl ?_
    refine me3 (pc' := 9) (S' := [ii (t.1 33), ii x]) dm_X12_line_6 (q_geti (v := t.1 33) hm rfl (fun m i l => rg_33 m i l) rfl) rfl rfl rfl ?_
    refine y_2le (a := x) (b := t.1 33) (t := 15) (pc' := 12) dm_X12_line_9 rfl rfl (by omega) (fun hb2 => ?_) (fun hb2 => ?_)
    · exfalso; omega
    · refine me0 (pc' := 14) (S' := [ii (-100)]) dm_X12_line_12 rfl rfl rfl rfl ?_
      refine y_ret (r := some (ii (-100))) dm_X12_line_14 rfl rfl rfl ?_
      exact ⟨_, rfl, _, _, rfl, rfl, k⟩
theorem dm_X12_line_15 : mj_dec prog_14_method_95_code 15 = some (.aload_n 0, 1) := by decide +kernel
theorem dm_X12_line_16 : mj_dec prog_14_method_95_code 16 = some (.iconst 0, 1) := by decide +kernel
theorem dm_X12_line_17 : mj_dec prog_14_method_95_code 17 = some (.putfield 501, 3) := by decide +kernel
theorem dm_X12_line_20 : mj_dec prog_14_method_95_code 20 = some (.aload_n 0, 1) := by decide +kernel
theorem dm_X12_line_21 : mj_dec prog_14_method_95_code 21 = some (.getfield 119, 3) := by decide +kernel
theorem dm_X12_line_24 : mj_dec prog_14_method_95_code 24 = some (.istore_n 2, 1) := by decide +kernel
theorem dm_X12_line_25 : mj_dec prog_14_method_95_code 25 = some (.aload_n 0, 1) := by decide +kernel
theorem dm_X12_line_26 : mj_dec prog_14_method_95_code 26 = some (.getfield 102, 3) := by decide +kernel
theorem dm_X12_line_29 : mj_dec prog_14_method_95_code 29 = some (.istore_n 3, 1) := by decide +kernel
theorem dm_X12_line_30 : mj_dec prog_14_method_95_code 30 = some (.aload_n 0, 1) := by decide +kernel
theorem dm_X12_line_31 : mj_dec prog_14_method_95_code 31 = some (.getfield 424, 3) := by decide +kernel
theorem dm_X12_line_34 : mj_dec prog_14_method_95_code 34 = some (.istore 4, 2) := by decide +kernel
theorem dm_X12_line_36 : mj_dec prog_14_method_95_code 36 = some (.aload_n 0, 1) := by decide +kernel
theorem dm_X12_line_37 : mj_dec prog_14_method_95_code 37 = some (.iconst 0, 1) := by decide +kernel
theorem dm_X12_line_38 : mj_dec prog_14_method_95_code 38 = some (.putfield 181, 3) := by decide +kernel
theorem dm_X12_line_41 : mj_dec prog_14_method_95_code 41 = some (.aload_n 0, 1) := by decide +kernel
theorem dm_X12_line_42 : mj_dec prog_14_method_95_code 42 = some (.iconst (-1), 1) := by decide +kernel
theorem dm_X12_line_43 : mj_dec prog_14_method_95_code 43 = some (.putfield 22, 3) := by decide +kernel
theorem dm_X12_line_46 : mj_dec prog_14_method_95_code 46 = some (.aload_n 0, 1) := by decide +kernel
theorem dm_X12_line_47 : mj_dec prog_14_method_95_code 47 = some (.iconst 0, 1) := by decide +kernel
theorem dm_X12_line_48 : mj_dec prog_14_method_95_code 48 = some (.putfield 193, 3) := by decide +kernel
theorem dm_X12_line_51 : mj_dec prog_14_method_95_code 51 = some (.aload_n 0, 1) := by decide +kernel
theorem dm_X12_line_52 : mj_dec prog_14_method_95_code 52 = some (.iconst 0, 1) := by decide +kernel
theorem dm_X12_line_53 : mj_dec prog_14_method_95_code 53 = some (.putfield 184, 3) := by decide +kernel
theorem dm_X12_line_56 : mj_dec prog_14_method_95_code 56 = some (.aload_n 0, 1) := by decide +kernel
theorem dm_X12_line_57 : mj_dec prog_14_method_95_code 57 = some (.iconst 0, 1) := by decide +kernel
theorem dm_X12_line_58 : mj_dec prog_14_method_95_code 58 = some (.putfield 202, 3) := by decide +kernel
theorem dm_X12_line_61 : mj_dec prog_14_method_95_code 61 = some (.aload_n 0, 1) := by decide +kernel
theorem dm_X12_line_62 : mj_dec prog_14_method_95_code 62 = some (.iload_n 1, 1) := by decide +kernel
theorem dm_X12_line_63 : mj_dec prog_14_method_95_code 63 = some (.invokevirtual 507, 3) := by decide +kernel
theorem dm_X12_line_66 : mj_dec prog_14_method_95_code 66 = some (.aload_n 0, 1) := by decide +kernel
theorem dm_X12_line_67 : mj_dec prog_14_method_95_code 67 = some (.getfield 427, 3) := by decide +kernel
theorem dm_X12_line_70 : mj_dec prog_14_method_95_code 70 = some (.ifCond .lt 16, 3) := by decide +kernel
theorem dm_X12_line_73 : mj_dec prog_14_method_95_code 73 = some (.aload_n 0, 1) := by decide +kernel
theorem dm_X12_line_74 : mj_dec prog_14_method_95_code 74 = some (.iconst 1, 1) := by decide +kernel
theorem dm_X12_line_75 : mj_dec prog_14_method_95_code 75 = some (.aload_n 0, 1) := by decide +kernel
theorem dm_X12_line_76 : mj_dec prog_14_method_95_code 76 = some (.getfield 427, 3) := by decide +kernel
theorem dm_X12_line_79 : mj_dec prog_14_method_95_code 79 = some (.invokevirtual 190, 3) := by decide +kernel
theorem dm_X12_line_82 : mj_dec prog_14_method_95_code 82 = some (.pop, 1) := by decide +kernel
theorem dm_X12_line_83 : mj_dec prog_14_method_95_code 83 = some (.goto 7, 3) := by decide +kernel
theorem dm_X12_line_90 : mj_dec prog_14_method_95_code 90 = some (.aload_n 0, 1) := by decide +kernel
theorem dm_X12_line_91 : mj_dec prog_14_method_95_code 91 = some (.getfield 181, 3) := by decide +kernel
theorem dm_X12_line_94 : mj_dec prog_14_method_95_code 94 = some (.ifCond .le 13, 3) := by decide +kernel
theorem dm_X12_line_97 : mj_dec prog_14_method_95_code 97 = some (.aload_n 0, 1) := by decide +kernel
theorem dm_X12_line_98 : mj_dec prog_14_method_95_code 98 = some (.iload_n 2, 1) := by decide +kernel
theorem dm_X12_line_99 : mj_dec prog_14_method_95_code 99 = some (.putfield 119, 3) := by decide +kernel
theorem dm_X12_line_102 : mj_dec prog_14_method_95_code 102 = some (.aload_n 0, 1) := by decide +kernel
theorem dm_X12_line_103 : mj_dec prog_14_method_95_code 103 = some (.iload_n 3, 1) := by decide +kernel
theorem dm_X12_line_104 : mj_dec prog_14_method_95_code 104 = some (.putfield 102, 3) := by decide +kernel
theorem dm_X12_line_107 : mj_dec prog_14_method_95_code 107 = some (.aload_n 0, 1) := by decide +kernel
theorem dm_X12_line_108 : mj_dec prog_14_method_95_code 108 = some (.getfield 181, 3) := by decide +kernel
theorem dm_X12_line_111 : mj_dec prog_14_method_95_code 111 = some (.ifCond .gt 11, 3) := by decide +kernel
theorem dm_X12_line_122 : mj_dec prog_14_method_95_code 122 = some (.aload_n 0, 1) := by decide +kernel
theorem dm_X12_line_123 : mj_dec prog_14_method_95_code 123 = some (.iload 4, 2) := by decide +kernel
theorem dm_X12_line_125 : mj_dec prog_14_method_95_code 125 = some (.putfield 424, 3) := by decide +kernel
theorem dm_X12_line_128 : mj_dec prog_14_method_95_code 128 = some (.aload_n 0, 1) := by decide +kernel
theorem dm_X12_line_129 : mj_dec prog_14_method_95_code 129 = some (.aload_n 0, 1) := by decide +kernel
theorem dm_X12_line_130 : mj_dec prog_14_method_95_code 130 = some (.getfield 109, 3) := by decide +kernel
theorem dm_X12_line_133 : mj_dec prog_14_method_95_code 133 = some (.putfield 112, 3) := by decide +kernel
theorem dm_X12_line_136 : mj_dec prog_14_method_95_code 136 = some (.aload_n 0, 1) := by decide +kernel
theorem dm_X12_line_137 : mj_dec prog_14_method_95_code 137 = some (.getfield 181, 3) := by decide +kernel
theorem dm_X12_line_140 : mj_dec prog_14_method_95_code 140 = some (.ineg, 1) := by decide +kernel
theorem dm_X12_line_141 : mj_dec prog_14_method_95_code 141 = some (.ireturn, 1) := by decide +kernel
theorem li_bad {xt : mj_X} {d : Nat} {pre post : mj_H} {t : RS} (hm : pre.length = 102) (hd1 : 100 ≤ d) {Q : RS → Int → Prop} {ln : Nat} (h33 : 0 ≤ t.1 33 ∧ t.1 33 ≤ 300) (hln : (ln : Int) ≤ t.1 33) {Q1 : RS → Prop} (hc : pgN xt (d - 1) 203 [.ref 102, ii (ln : Int)] (rS pre post (li0 t)) (fun h' => ∃ u, h' = rS pre post u ∧ Q1 u)) (hb : ∀ u, Q1 u → (0 ≤ u.1 52 ∧ u.1 52 ≤ 300) ∧ u.1 5 = 0 ∧ 0 ≤ u.1 10 ∧ u.1 10 ≤ 100) (k : ∀ u, Q1 u → Q (liE1 t (failS u 1 (u.1 52))) (-1)) : pgV xt d 202 [.ref 102, ii (ln : Int)] (rS pre post t) (RL2 pre post Q) := by
  refine x_enter pm_X12_line (L0 := [(0, .ref 102), (1, ii (ln : Int))]) rfl (Nat.le_of_ble_eq_true rfl) (by omega) ?_
  refine me1 (pc' := 1) (L' := [(0, .ref 102), (1, ii (ln : Int))]) (S' := [ii (ln : Int)]) dm_X12_line_0 rfl rfl rfl rfl ?_
  refine y_1lt (a := (ln : Int)) (t := 12) (pc' := 4) dm_X12_line_1 rfl rfl (by omega) (fun hb1 => ?_) (fun hb1 => ?_)
  · exfalso; omega
  · refine me1 (pc' := 5) (L' := [(0, .ref 102), (1, ii (ln : Int))]) (S' := [ii (ln : Int)]) dm_X12_line_4 rfl rfl rfl rfl ?_
    refine me1 (pc' := 6) (L' := [(0, .ref 102), (1, ii (ln : Int))]) (S' := [.ref 102, ii (ln : Int)]) dm_X12_line_5 rfl rfl rfl rfl ?_
    refine me3 (pc' := 9) (S' := [ii (t.1 33), ii (ln : Int)]) dm_X12_line_6 (q_geti (v := t.1 33) hm rfl (fun m i l => rg_33 m i l) rfl) rfl rfl rfl ?_
    refine y_2le (a := (ln : Int)) (b := t.1 33) (t := 15) (pc' := 12) dm_X12_line_9 rfl rfl (by omega) (fun hb2 => ?_) (fun hb2 => ?_)
    · refine me1 (pc' := 16) (L' := [(0, .ref 102), (1, ii (ln : Int))]) (S' := [.ref 102]) dm_X12_line_15 rfl rfl rfl rfl ?_
      refine me0 (pc' := 17) (S' := [ii 0, .ref 102]) dm_X12_line_16 rfl rfl rfl rfl ?_
      refine me3 (pc' := 20) (S' := []) (h1 := rI pre post (va_up t.1 33 0) t.2.1 t.2.2.1 t.2.2.2) dm_X12_line_17 (q_puti hm rfl rfl (fun m i l v => rf_33 m i l v)) rfl rfl rfl ?_
      refine me1 (pc' := 21) (L' := [(0, .ref 102), (1, ii (ln : Int))]) (S' := [.ref 102]) dm_X12_line_20 rfl rfl rfl rfl ?_
      refine me3 (pc' := 24) (S' := [ii (t.1 3)]) dm_X12_line_21 (q_geti (v := t.1 3) hm rfl (fun m i l => rg_3 m i l) rfl) rfl rfl rfl ?_
      refine me1 (pc' := 25) (L' := [(2, ii (t.1 3)), (0, .ref 102), (1, ii (ln : Int))]) (S' := []) dm_X12_line_24 rfl rfl rfl rfl ?_
      refine me1 (pc' := 26) (L' := [(2, ii (t.1 3)), (0, .ref 102), (1, ii (ln : Int))]) (S' := [.ref 102]) dm_X12_line_25 rfl rfl rfl rfl ?_
      refine me3 (pc' := 29) (S' := [ii (t.1 4)]) dm_X12_line_26 (q_geti (v := t.1 4) hm rfl (fun m i l => rg_4 m i l) rfl) rfl rfl rfl ?_
      refine me1 (pc' := 30) (L' := [(3, ii (t.1 4)), (2, ii (t.1 3)), (0, .ref 102), (1, ii (ln : Int))]) (S' := []) dm_X12_line_29 rfl rfl rfl rfl ?_
      refine me1 (pc' := 31) (L' := [(3, ii (t.1 4)), (2, ii (t.1 3)), (0, .ref 102), (1, ii (ln : Int))]) (S' := [.ref 102]) dm_X12_line_30 rfl rfl rfl rfl ?_
      refine me3 (pc' := 34) (S' := [ii (t.1 50)]) dm_X12_line_31 (q_geti (v := t.1 50) hm rfl (fun m i l => rg_50 m i l) rfl) rfl rfl rfl ?_
      refine me1 (pc' := 36) (L' := [(4, ii (t.1 50)), (3, ii (t.1 4)), (2, ii (t.1 3)), (0, .ref 102), (1, ii (ln : Int))]) (S' := []) dm_X12_line_34 rfl rfl rfl rfl ?_
      refine me1 (pc' := 37) (L' := [(4, ii (t.1 50)), (3, ii (t.1 4)), (2, ii (t.1 3)), (0, .ref 102), (1, ii (ln : Int))]) (S' := [.ref 102]) dm_X12_line_36 rfl rfl rfl rfl ?_
      refine me0 (pc' := 38) (S' := [ii 0, .ref 102]) dm_X12_line_37 rfl rfl rfl rfl ?_
      refine me3 (pc' := 41) (S' := []) (h1 := rI pre post (va_up (va_up t.1 33 0) 5 0) t.2.1 t.2.2.1 t.2.2.2) dm_X12_line_38 (q_puti hm rfl rfl (fun m i l v => rf_5 m i l v)) rfl rfl rfl ?_
      refine me1 (pc' := 42) (L' := [(4, ii (t.1 50)), (3, ii (t.1 4)), (2, ii (t.1 3)), (0, .ref 102), (1, ii (ln : Int))]) (S' := [.ref 102]) dm_X12_line_41 rfl rfl rfl rfl ?_
      refine me0 (pc' := 43) (S' := [ii (-1), .ref 102]) dm_X12_line_42 rfl rfl rfl rfl ?_
      refine me3 (pc' := 46) (S' := []) (h1 := rI pre post (va_up (va_up (va_up t.1 33 0) 5 0) 6 (-1)) t.2.1 t.2.2.1 t.2.2.2) dm_X12_line_43 (q_puti hm rfl rfl (fun m i l v => rf_6 m i l v)) rfl rfl rfl ?_
      refine me1 (pc' := 47) (L' := [(4, ii (t.1 50)), (3, ii (t.1 4)), (2, ii (t.1 3)), (0, .ref 102), (1, ii (ln : Int))]) (S' := [.ref 102]) dm_X12_line_46 rfl rfl rfl rfl ?_
      refine me0 (pc' := 48) (S' := [ii 0, .ref 102]) dm_X12_line_47 rfl rfl rfl rfl ?_
      refine me3 (pc' := 51) (S' := []) (h1 := rI pre post (va_up (va_up (va_up (va_up t.1 33 0) 5 0) 6 (-1)) 7 0) t.2.1 t.2.2.1 t.2.2.2) dm_X12_line_48 (q_puti hm rfl rfl (fun m i l v => rf_7 m i l v)) rfl rfl rfl ?_
      refine me1 (pc' := 52) (L' := [(4, ii (t.1 50)), (3, ii (t.1 4)), (2, ii (t.1 3)), (0, .ref 102), (1, ii (ln : Int))]) (S' := [.ref 102]) dm_X12_line_51 rfl rfl rfl rfl ?_
      refine me0 (pc' := 53) (S' := [ii 0, .ref 102]) dm_X12_line_52 rfl rfl rfl rfl ?_
      refine me3 (pc' := 56) (S' := []) (h1 := rI pre post (va_up (va_up (va_up (va_up (va_up t.1 33 0) 5 0) 6 (-1)) 7 0) 10 0) t.2.1 t.2.2.1 t.2.2.2) dm_X12_line_53 (q_puti hm rfl rfl (fun m i l v => rf_10 m i l v)) rfl rfl rfl ?_
      refine me1 (pc' := 57) (L' := [(4, ii (t.1 50)), (3, ii (t.1 4)), (2, ii (t.1 3)), (0, .ref 102), (1, ii (ln : Int))]) (S' := [.ref 102]) dm_X12_line_56 rfl rfl rfl rfl ?_
      refine me0 (pc' := 58) (S' := [ii 0, .ref 102]) dm_X12_line_57 rfl rfl rfl rfl ?_
      refine me3 (pc' := 61) (S' := []) (h1 := rI pre post (va_up (va_up (va_up (va_up (va_up (va_up t.1 33 0) 5 0) 6 (-1)) 7 0) 10 0) 13 0) t.2.1 t.2.2.1 t.2.2.2) dm_X12_line_58 (q_puti hm rfl rfl (fun m i l v => rf_13 m i l v)) rfl rfl rfl ?_
      refine pg_cast (h2 := rI pre post ((li0 t).1) ((li0 t).2.1) ((li0 t).2.2.1) ((li0 t).2.2.2)) (by first | rfl | exact congrArg (rS pre post) rfl) ?_
      refine me1 (pc' := 62) (L' := [(4, ii (t.1 50)), (3, ii (t.1 4)), (2, ii (t.1 3)), (0, .ref 102), (1, ii (ln : Int))]) (S' := [.ref 102]) dm_X12_line_61 rfl rfl rfl rfl ?_
      refine me1 (pc' := 63) (L' := [(4, ii (t.1 50)), (3, ii (t.1 4)), (2, ii (t.1 3)), (0, .ref 102), (1, ii (ln : Int))]) (S' := [ii (ln : Int), .ref 102]) dm_X12_line_62 rfl rfl rfl rfl ?_
      refine x_cn (pc' := 66) (rest := []) dm_X12_line_63 rfl (q_inv (As := [ii (ln : Int)]) (S := []) hm rfl rfl rfl) rfl rfl rfl (hc) ?_
      rintro _ ⟨t1, rfl, hQ1⟩
      have hq1 := hb t1 hQ1
      refine me1 (pc' := 67) (L' := [(4, ii (t.1 50)), (3, ii (t.1 4)), (2, ii (t.1 3)), (0, .ref 102), (1, ii (ln : Int))]) (S' := [.ref 102]) dm_X12_line_66 rfl rfl rfl rfl ?_
      refine me3 (pc' := 70) (S' := [ii (t1.1 52)]) dm_X12_line_67 (q_geti (v := t1.1 52) hm rfl (fun m i l => rg_52 m i l) rfl) rfl rfl rfl ?_
      refine y_1lt (a := t1.1 52) (t := 86) (pc' := 73) dm_X12_line_70 rfl rfl (by omega) (fun hb3 => ?_) (fun hb3 => ?_)
      · exfalso; omega
      · refine me1 (pc' := 74) (L' := [(4, ii (t.1 50)), (3, ii (t.1 4)), (2, ii (t.1 3)), (0, .ref 102), (1, ii (ln : Int))]) (S' := [.ref 102]) dm_X12_line_73 rfl rfl rfl rfl ?_
        refine me0 (pc' := 75) (S' := [ii 1, .ref 102]) dm_X12_line_74 rfl rfl rfl rfl ?_
        refine me1 (pc' := 76) (L' := [(4, ii (t.1 50)), (3, ii (t.1 4)), (2, ii (t.1 3)), (0, .ref 102), (1, ii (ln : Int))]) (S' := [.ref 102, ii 1, .ref 102]) dm_X12_line_75 rfl rfl rfl rfl ?_
        refine me3 (pc' := 79) (S' := [ii (t1.1 52), ii 1, .ref 102]) dm_X12_line_76 (q_geti (v := t1.1 52) hm rfl (fun m i l => rg_52 m i l) rfl) rfl rfl rfl ?_
        refine x_cv (pc' := 82) (rest := []) dm_X12_line_79 rfl (q_inv (As := [ii 1, ii (t1.1 52)]) (S := []) hm rfl rfl rfl) rfl rfl rfl (r_fail_ (s := t1) hm (by omega) hq1.2.1 hq1.2.2.1 hq1.2.2.2) ?_
        rintro _ _ ⟨rfl, rfl⟩
        refine me0 (pc' := 83) (S' := []) dm_X12_line_82 rfl rfl rfl rfl ?_
        refine me2 (pc' := 90) (S' := []) dm_X12_line_83 rfl rfl rfl ?_
        have hf5 : (failS t1 1 (t1.1 52)).1 5 = 1 := failS_5
        refine me1 (pc' := 91) (L' := [(4, ii (t.1 50)), (3, ii (t.1 4)), (2, ii (t.1 3)), (0, .ref 102), (1, ii (ln : Int))]) (S' := [.ref 102]) dm_X12_line_90 rfl rfl rfl rfl ?_
        refine me3 (pc' := 94) (S' := [ii (((failS t1 1 (t1.1 52)).1) 5)]) dm_X12_line_91 (q_geti (v := ((failS t1 1 (t1.1 52)).1) 5) hm rfl (fun m i l => rg_5 m i l) rfl) rfl rfl rfl ?_
        refine y_1le (a := ((failS t1 1 (t1.1 52)).1) 5) (t := 107) (pc' := 97) dm_X12_line_94 rfl rfl (by omega) (fun hb4 => ?_) (fun hb4 => ?_)
        · exfalso; omega
        · refine me1 (pc' := 98) (L' := [(4, ii (t.1 50)), (3, ii (t.1 4)), (2, ii (t.1 3)), (0, .ref 102), (1, ii (ln : Int))]) (S' := [.ref 102]) dm_X12_line_97 rfl rfl rfl rfl ?_
          refine me1 (pc' := 99) (L' := [(4, ii (t.1 50)), (3, ii (t.1 4)), (2, ii (t.1 3)), (0, .ref 102), (1, ii (ln : Int))]) (S' := [ii (t.1 3), .ref 102]) dm_X12_line_98 rfl rfl rfl rfl ?_
          refine me3 (pc' := 102) (S' := []) (h1 := rI pre post (va_up ((failS t1 1 (t1.1 52)).1) 3 (t.1 3)) ((failS t1 1 (t1.1 52)).2.1) ((failS t1 1 (t1.1 52)).2.2.1) ((failS t1 1 (t1.1 52)).2.2.2)) dm_X12_line_99 (q_puti hm rfl rfl (fun m i l v => rf_3 m i l v)) rfl rfl rfl ?_
          refine me1 (pc' := 103) (L' := [(4, ii (t.1 50)), (3, ii (t.1 4)), (2, ii (t.1 3)), (0, .ref 102), (1, ii (ln : Int))]) (S' := [.ref 102]) dm_X12_line_102 rfl rfl rfl rfl ?_
          refine me1 (pc' := 104) (L' := [(4, ii (t.1 50)), (3, ii (t.1 4)), (2, ii (t.1 3)), (0, .ref 102), (1, ii (ln : Int))]) (S' := [ii (t.1 4), .ref 102]) dm_X12_line_103 rfl rfl rfl rfl ?_
          refine me3 (pc' := 107) (S' := []) (h1 := rI pre post (va_up (va_up ((failS t1 1 (t1.1 52)).1) 3 (t.1 3)) 4 (t.1 4)) ((failS t1 1 (t1.1 52)).2.1) ((failS t1 1 (t1.1 52)).2.2.1) ((failS t1 1 (t1.1 52)).2.2.2)) dm_X12_line_104 (q_puti hm rfl rfl (fun m i l v => rf_4 m i l v)) rfl rfl rfl ?_
          refine me1 (pc' := 108) (L' := [(4, ii (t.1 50)), (3, ii (t.1 4)), (2, ii (t.1 3)), (0, .ref 102), (1, ii (ln : Int))]) (S' := [.ref 102]) dm_X12_line_107 rfl rfl rfl rfl ?_
          refine me3 (pc' := 111) (S' := [ii (((failS t1 1 (t1.1 52)).1) 5)]) dm_X12_line_108 (q_geti (v := ((failS t1 1 (t1.1 52)).1) 5) hm rfl (fun m i l => rg_5 m i l) rfl) rfl rfl rfl ?_
          refine y_1gt (a := ((failS t1 1 (t1.1 52)).1) 5) (t := 122) (pc' := 114) dm_X12_line_111 rfl rfl (by omega) (fun hb5 => ?_) (fun hb5 => ?_)
          · refine me1 (pc' := 123) (L' := [(4, ii (t.1 50)), (3, ii (t.1 4)), (2, ii (t.1 3)), (0, .ref 102), (1, ii (ln : Int))]) (S' := [.ref 102]) dm_X12_line_122 rfl rfl rfl rfl ?_
            refine me1 (pc' := 125) (L' := [(4, ii (t.1 50)), (3, ii (t.1 4)), (2, ii (t.1 3)), (0, .ref 102), (1, ii (ln : Int))]) (S' := [ii (t.1 50), .ref 102]) dm_X12_line_123 rfl rfl rfl rfl ?_
            refine me3 (pc' := 128) (S' := []) (h1 := rI pre post (va_up (va_up (va_up ((failS t1 1 (t1.1 52)).1) 3 (t.1 3)) 4 (t.1 4)) 50 (t.1 50)) ((failS t1 1 (t1.1 52)).2.1) ((failS t1 1 (t1.1 52)).2.2.1) ((failS t1 1 (t1.1 52)).2.2.2)) dm_X12_line_125 (q_puti hm rfl rfl (fun m i l v => rf_50 m i l v)) rfl rfl rfl ?_
            refine me1 (pc' := 129) (L' := [(4, ii (t.1 50)), (3, ii (t.1 4)), (2, ii (t.1 3)), (0, .ref 102), (1, ii (ln : Int))]) (S' := [.ref 102]) dm_X12_line_128 rfl rfl rfl rfl ?_
            refine me1 (pc' := 130) (L' := [(4, ii (t.1 50)), (3, ii (t.1 4)), (2, ii (t.1 3)), (0, .ref 102), (1, ii (ln : Int))]) (S' := [.ref 102, .ref 102]) dm_X12_line_129 rfl rfl rfl rfl ?_
            refine me3 (pc' := 133) (S' := [ii (((failS t1 1 (t1.1 52)).1) 30), .ref 102]) dm_X12_line_130 (q_geti (v := ((failS t1 1 (t1.1 52)).1) 30) hm rfl (fun m i l => rg_30 m i l) rfl) rfl rfl rfl ?_
            refine me3 (pc' := 136) (S' := []) (h1 := rI pre post (va_up (va_up (va_up (va_up ((failS t1 1 (t1.1 52)).1) 3 (t.1 3)) 4 (t.1 4)) 50 (t.1 50)) 31 (((failS t1 1 (t1.1 52)).1) 30)) ((failS t1 1 (t1.1 52)).2.1) ((failS t1 1 (t1.1 52)).2.2.1) ((failS t1 1 (t1.1 52)).2.2.2)) dm_X12_line_133 (q_puti hm rfl rfl (fun m i l v => rf_31 m i l v)) rfl rfl rfl ?_
            refine me1 (pc' := 137) (L' := [(4, ii (t.1 50)), (3, ii (t.1 4)), (2, ii (t.1 3)), (0, .ref 102), (1, ii (ln : Int))]) (S' := [.ref 102]) dm_X12_line_136 rfl rfl rfl rfl ?_
            refine me3 (pc' := 140) (S' := [ii (((failS t1 1 (t1.1 52)).1) 5)]) dm_X12_line_137 (q_geti (v := ((failS t1 1 (t1.1 52)).1) 5) hm rfl (fun m i l => rg_5 m i l) rfl) rfl rfl rfl ?_
            refine y_ineg (a := ((failS t1 1 (t1.1 52)).1) 5) dm_X12_line_140 (pc' := 141) rfl ?_
            refine y_ret (r := some (ii (-(((failS t1 1 (t1.1 52)).1) 5)))) dm_X12_line_141 rfl rfl rfl ?_
            have e9 : rI pre post (va_up (va_up (va_up (va_up ((failS t1 1 (t1.1 52)).1) 3 (t.1 3)) 4 (t.1 4)) 50 (t.1 50)) 31 (((failS t1 1 (t1.1 52)).1) 30)) ((failS t1 1 (t1.1 52)).2.1) ((failS t1 1 (t1.1 52)).2.2.1) ((failS t1 1 (t1.1 52)).2.2.2) = rS pre post (liE1 t (failS t1 1 (t1.1 52))) := by first | rfl | exact congrArg (rS pre post) rfl
            rw [e9]
            refine ⟨_, rfl, _, _, rfl, rfl, ?_⟩
            rw [hf5]
            exact k t1 hQ1
          · exfalso; omega
    · exfalso; omega
theorem dm_X12_line_86 : mj_dec prog_14_method_95_code 86 = some (.aload_n 0, 1) := by decide +kernel
theorem dm_X12_line_87 : mj_dec prog_14_method_95_code 87 = some (.invokevirtual 510, 3) := by decide +kernel
theorem li_err {xt : mj_X} {d : Nat} {pre post : mj_H} {t : RS} (hm : pre.length = 102) (hd1 : 100 ≤ d) {Q : RS → Int → Prop} {ln : Nat} (h33 : 0 ≤ t.1 33 ∧ t.1 33 ≤ 300) (hln : (ln : Int) ≤ t.1 33) {Q1 : RS → Prop} (hc : pgN xt (d - 1) 203 [.ref 102, ii (ln : Int)] (rS pre post (li0 t)) (fun h' => ∃ u, h' = rS pre post u ∧ Q1 u)) (hb : ∀ u, Q1 u → u.1 52 = -1) {Q2 : RS → Prop} (hc2 : ∀ u, Q1 u → pgN xt (d - 1) 234 [.ref 102] (rS pre post u) (fun h' => ∃ u2, h' = rS pre post u2 ∧ Q2 u2)) (h2 : ∀ u, Q2 u → 0 < u.1 5 ∧ u.1 5 ≤ 100) (k : ∀ u, Q2 u → Q (liE1 t u) (-(u.1 5))) : pgV xt d 202 [.ref 102, ii (ln : Int)] (rS pre post t) (RL2 pre post Q) := by
  refine x_enter pm_X12_line (L0 := [(0, .ref 102), (1, ii (ln : Int))]) rfl (Nat.le_of_ble_eq_true rfl) (by omega) ?_
  refine me1 (pc' := 1) (L' := [(0, .ref 102), (1, ii (ln : Int))]) (S' := [ii (ln : Int)]) dm_X12_line_0 rfl rfl rfl rfl ?_
  refine y_1lt (a := (ln : Int)) (t := 12) (pc' := 4) dm_X12_line_1 rfl rfl (by omega) (fun hb1 => ?_) (fun hb1 => ?_)
  · exfalso; omega
  · refine me1 (pc' := 5) (L' := [(0, .ref 102), (1, ii (ln : Int))]) (S' := [ii (ln : Int)]) dm_X12_line_4 rfl rfl rfl rfl ?_
    refine me1 (pc' := 6) (L' := [(0, .ref 102), (1, ii (ln : Int))]) (S' := [.ref 102, ii (ln : Int)]) dm_X12_line_5 rfl rfl rfl rfl ?_
    refine me3 (pc' := 9) (S' := [ii (t.1 33), ii (ln : Int)]) dm_X12_line_6 (q_geti (v := t.1 33) hm rfl (fun m i l => rg_33 m i l) rfl) rfl rfl rfl ?_
    refine y_2le (a := (ln : Int)) (b := t.1 33) (t := 15) (pc' := 12) dm_X12_line_9 rfl rfl (by omega) (fun hb2 => ?_) (fun hb2 => ?_)
    · refine me1 (pc' := 16) (L' := [(0, .ref 102), (1, ii (ln : Int))]) (S' := [.ref 102]) dm_X12_line_15 rfl rfl rfl rfl ?_
      refine me0 (pc' := 17) (S' := [ii 0, .ref 102]) dm_X12_line_16 rfl rfl rfl rfl ?_
      refine me3 (pc' := 20) (S' := []) (h1 := rI pre post (va_up t.1 33 0) t.2.1 t.2.2.1 t.2.2.2) dm_X12_line_17 (q_puti hm rfl rfl (fun m i l v => rf_33 m i l v)) rfl rfl rfl ?_
      refine me1 (pc' := 21) (L' := [(0, .ref 102), (1, ii (ln : Int))]) (S' := [.ref 102]) dm_X12_line_20 rfl rfl rfl rfl ?_
      refine me3 (pc' := 24) (S' := [ii (t.1 3)]) dm_X12_line_21 (q_geti (v := t.1 3) hm rfl (fun m i l => rg_3 m i l) rfl) rfl rfl rfl ?_
      refine me1 (pc' := 25) (L' := [(2, ii (t.1 3)), (0, .ref 102), (1, ii (ln : Int))]) (S' := []) dm_X12_line_24 rfl rfl rfl rfl ?_
      refine me1 (pc' := 26) (L' := [(2, ii (t.1 3)), (0, .ref 102), (1, ii (ln : Int))]) (S' := [.ref 102]) dm_X12_line_25 rfl rfl rfl rfl ?_
      refine me3 (pc' := 29) (S' := [ii (t.1 4)]) dm_X12_line_26 (q_geti (v := t.1 4) hm rfl (fun m i l => rg_4 m i l) rfl) rfl rfl rfl ?_
      refine me1 (pc' := 30) (L' := [(3, ii (t.1 4)), (2, ii (t.1 3)), (0, .ref 102), (1, ii (ln : Int))]) (S' := []) dm_X12_line_29 rfl rfl rfl rfl ?_
      refine me1 (pc' := 31) (L' := [(3, ii (t.1 4)), (2, ii (t.1 3)), (0, .ref 102), (1, ii (ln : Int))]) (S' := [.ref 102]) dm_X12_line_30 rfl rfl rfl rfl ?_
      refine me3 (pc' := 34) (S' := [ii (t.1 50)]) dm_X12_line_31 (q_geti (v := t.1 50) hm rfl (fun m i l => rg_50 m i l) rfl) rfl rfl rfl ?_
      refine me1 (pc' := 36) (L' := [(4, ii (t.1 50)), (3, ii (t.1 4)), (2, ii (t.1 3)), (0, .ref 102), (1, ii (ln : Int))]) (S' := []) dm_X12_line_34 rfl rfl rfl rfl ?_
      refine me1 (pc' := 37) (L' := [(4, ii (t.1 50)), (3, ii (t.1 4)), (2, ii (t.1 3)), (0, .ref 102), (1, ii (ln : Int))]) (S' := [.ref 102]) dm_X12_line_36 rfl rfl rfl rfl ?_
      refine me0 (pc' := 38) (S' := [ii 0, .ref 102]) dm_X12_line_37 rfl rfl rfl rfl ?_
      refine me3 (pc' := 41) (S' := []) (h1 := rI pre post (va_up (va_up t.1 33 0) 5 0) t.2.1 t.2.2.1 t.2.2.2) dm_X12_line_38 (q_puti hm rfl rfl (fun m i l v => rf_5 m i l v)) rfl rfl rfl ?_
      refine me1 (pc' := 42) (L' := [(4, ii (t.1 50)), (3, ii (t.1 4)), (2, ii (t.1 3)), (0, .ref 102), (1, ii (ln : Int))]) (S' := [.ref 102]) dm_X12_line_41 rfl rfl rfl rfl ?_
      refine me0 (pc' := 43) (S' := [ii (-1), .ref 102]) dm_X12_line_42 rfl rfl rfl rfl ?_
      refine me3 (pc' := 46) (S' := []) (h1 := rI pre post (va_up (va_up (va_up t.1 33 0) 5 0) 6 (-1)) t.2.1 t.2.2.1 t.2.2.2) dm_X12_line_43 (q_puti hm rfl rfl (fun m i l v => rf_6 m i l v)) rfl rfl rfl ?_
      refine me1 (pc' := 47) (L' := [(4, ii (t.1 50)), (3, ii (t.1 4)), (2, ii (t.1 3)), (0, .ref 102), (1, ii (ln : Int))]) (S' := [.ref 102]) dm_X12_line_46 rfl rfl rfl rfl ?_
      refine me0 (pc' := 48) (S' := [ii 0, .ref 102]) dm_X12_line_47 rfl rfl rfl rfl ?_
      refine me3 (pc' := 51) (S' := []) (h1 := rI pre post (va_up (va_up (va_up (va_up t.1 33 0) 5 0) 6 (-1)) 7 0) t.2.1 t.2.2.1 t.2.2.2) dm_X12_line_48 (q_puti hm rfl rfl (fun m i l v => rf_7 m i l v)) rfl rfl rfl ?_
      refine me1 (pc' := 52) (L' := [(4, ii (t.1 50)), (3, ii (t.1 4)), (2, ii (t.1 3)), (0, .ref 102), (1, ii (ln : Int))]) (S' := [.ref 102]) dm_X12_line_51 rfl rfl rfl rfl ?_
      refine me0 (pc' := 53) (S' := [ii 0, .ref 102]) dm_X12_line_52 rfl rfl rfl rfl ?_
      refine me3 (pc' := 56) (S' := []) (h1 := rI pre post (va_up (va_up (va_up (va_up (va_up t.1 33 0) 5 0) 6 (-1)) 7 0) 10 0) t.2.1 t.2.2.1 t.2.2.2) dm_X12_line_53 (q_puti hm rfl rfl (fun m i l v => rf_10 m i l v)) rfl rfl rfl ?_
      refine me1 (pc' := 57) (L' := [(4, ii (t.1 50)), (3, ii (t.1 4)), (2, ii (t.1 3)), (0, .ref 102), (1, ii (ln : Int))]) (S' := [.ref 102]) dm_X12_line_56 rfl rfl rfl rfl ?_
      refine me0 (pc' := 58) (S' := [ii 0, .ref 102]) dm_X12_line_57 rfl rfl rfl rfl ?_
      refine me3 (pc' := 61) (S' := []) (h1 := rI pre post (va_up (va_up (va_up (va_up (va_up (va_up t.1 33 0) 5 0) 6 (-1)) 7 0) 10 0) 13 0) t.2.1 t.2.2.1 t.2.2.2) dm_X12_line_58 (q_puti hm rfl rfl (fun m i l v => rf_13 m i l v)) rfl rfl rfl ?_
      refine pg_cast (h2 := rI pre post ((li0 t).1) ((li0 t).2.1) ((li0 t).2.2.1) ((li0 t).2.2.2)) (by first | rfl | exact congrArg (rS pre post) rfl) ?_
      refine me1 (pc' := 62) (L' := [(4, ii (t.1 50)), (3, ii (t.1 4)), (2, ii (t.1 3)), (0, .ref 102), (1, ii (ln : Int))]) (S' := [.ref 102]) dm_X12_line_61 rfl rfl rfl rfl ?_
      refine me1 (pc' := 63) (L' := [(4, ii (t.1 50)), (3, ii (t.1 4)), (2, ii (t.1 3)), (0, .ref 102), (1, ii (ln : Int))]) (S' := [ii (ln : Int), .ref 102]) dm_X12_line_62 rfl rfl rfl rfl ?_
      refine x_cn (pc' := 66) (rest := []) dm_X12_line_63 rfl (q_inv (As := [ii (ln : Int)]) (S := []) hm rfl rfl rfl) rfl rfl rfl (hc) ?_
      rintro _ ⟨t1, rfl, hQ1⟩
      have hq1 := hb t1 hQ1
      refine me1 (pc' := 67) (L' := [(4, ii (t.1 50)), (3, ii (t.1 4)), (2, ii (t.1 3)), (0, .ref 102), (1, ii (ln : Int))]) (S' := [.ref 102]) dm_X12_line_66 rfl rfl rfl rfl ?_
      refine me3 (pc' := 70) (S' := [ii (t1.1 52)]) dm_X12_line_67 (q_geti (v := t1.1 52) hm rfl (fun m i l => rg_52 m i l) rfl) rfl rfl rfl ?_
      refine y_1lt (a := t1.1 52) (t := 86) (pc' := 73) dm_X12_line_70 rfl rfl (by omega) (fun hb3 => ?_) (fun hb3 => ?_)
      · refine me1 (pc' := 87) (L' := [(4, ii (t.1 50)), (3, ii (t.1 4)), (2, ii (t.1 3)), (0, .ref 102), (1, ii (ln : Int))]) (S' := [.ref 102]) dm_X12_line_86 rfl rfl rfl rfl ?_
        refine x_cn (pc' := 90) (rest := []) dm_X12_line_87 rfl (q_inv (As := []) (S := []) hm rfl rfl rfl) rfl rfl rfl (hc2 t1 hQ1) ?_
        rintro _ ⟨t2, rfl, hQ2⟩
        have hq2 := h2 t2 hQ2
        refine me1 (pc' := 91) (L' := [(4, ii (t.1 50)), (3, ii (t.1 4)), (2, ii (t.1 3)), (0, .ref 102), (1, ii (ln : Int))]) (S' := [.ref 102]) dm_X12_line_90 rfl rfl rfl rfl ?_
        refine me3 (pc' := 94) (S' := [ii (t2.1 5)]) dm_X12_line_91 (q_geti (v := t2.1 5) hm rfl (fun m i l => rg_5 m i l) rfl) rfl rfl rfl ?_
        refine y_1le (a := t2.1 5) (t := 107) (pc' := 97) dm_X12_line_94 rfl rfl (by omega) (fun hb4 => ?_) (fun hb4 => ?_)
        · exfalso; omega
        · refine me1 (pc' := 98) (L' := [(4, ii (t.1 50)), (3, ii (t.1 4)), (2, ii (t.1 3)), (0, .ref 102), (1, ii (ln : Int))]) (S' := [.ref 102]) dm_X12_line_97 rfl rfl rfl rfl ?_
          refine me1 (pc' := 99) (L' := [(4, ii (t.1 50)), (3, ii (t.1 4)), (2, ii (t.1 3)), (0, .ref 102), (1, ii (ln : Int))]) (S' := [ii (t.1 3), .ref 102]) dm_X12_line_98 rfl rfl rfl rfl ?_
          refine me3 (pc' := 102) (S' := []) (h1 := rI pre post (va_up t2.1 3 (t.1 3)) t2.2.1 t2.2.2.1 t2.2.2.2) dm_X12_line_99 (q_puti hm rfl rfl (fun m i l v => rf_3 m i l v)) rfl rfl rfl ?_
          refine me1 (pc' := 103) (L' := [(4, ii (t.1 50)), (3, ii (t.1 4)), (2, ii (t.1 3)), (0, .ref 102), (1, ii (ln : Int))]) (S' := [.ref 102]) dm_X12_line_102 rfl rfl rfl rfl ?_
          refine me1 (pc' := 104) (L' := [(4, ii (t.1 50)), (3, ii (t.1 4)), (2, ii (t.1 3)), (0, .ref 102), (1, ii (ln : Int))]) (S' := [ii (t.1 4), .ref 102]) dm_X12_line_103 rfl rfl rfl rfl ?_
          refine me3 (pc' := 107) (S' := []) (h1 := rI pre post (va_up (va_up t2.1 3 (t.1 3)) 4 (t.1 4)) t2.2.1 t2.2.2.1 t2.2.2.2) dm_X12_line_104 (q_puti hm rfl rfl (fun m i l v => rf_4 m i l v)) rfl rfl rfl ?_
          refine me1 (pc' := 108) (L' := [(4, ii (t.1 50)), (3, ii (t.1 4)), (2, ii (t.1 3)), (0, .ref 102), (1, ii (ln : Int))]) (S' := [.ref 102]) dm_X12_line_107 rfl rfl rfl rfl ?_
          refine me3 (pc' := 111) (S' := [ii (t2.1 5)]) dm_X12_line_108 (q_geti (v := t2.1 5) hm rfl (fun m i l => rg_5 m i l) rfl) rfl rfl rfl ?_
          refine y_1gt (a := t2.1 5) (t := 122) (pc' := 114) dm_X12_line_111 rfl rfl (by omega) (fun hb5 => ?_) (fun hb5 => ?_)
          · refine me1 (pc' := 123) (L' := [(4, ii (t.1 50)), (3, ii (t.1 4)), (2, ii (t.1 3)), (0, .ref 102), (1, ii (ln : Int))]) (S' := [.ref 102]) dm_X12_line_122 rfl rfl rfl rfl ?_
            refine me1 (pc' := 125) (L' := [(4, ii (t.1 50)), (3, ii (t.1 4)), (2, ii (t.1 3)), (0, .ref 102), (1, ii (ln : Int))]) (S' := [ii (t.1 50), .ref 102]) dm_X12_line_123 rfl rfl rfl rfl ?_
            refine me3 (pc' := 128) (S' := []) (h1 := rI pre post (va_up (va_up (va_up t2.1 3 (t.1 3)) 4 (t.1 4)) 50 (t.1 50)) t2.2.1 t2.2.2.1 t2.2.2.2) dm_X12_line_125 (q_puti hm rfl rfl (fun m i l v => rf_50 m i l v)) rfl rfl rfl ?_
            refine me1 (pc' := 129) (L' := [(4, ii (t.1 50)), (3, ii (t.1 4)), (2, ii (t.1 3)), (0, .ref 102), (1, ii (ln : Int))]) (S' := [.ref 102]) dm_X12_line_128 rfl rfl rfl rfl ?_
            refine me1 (pc' := 130) (L' := [(4, ii (t.1 50)), (3, ii (t.1 4)), (2, ii (t.1 3)), (0, .ref 102), (1, ii (ln : Int))]) (S' := [.ref 102, .ref 102]) dm_X12_line_129 rfl rfl rfl rfl ?_
            refine me3 (pc' := 133) (S' := [ii (t2.1 30), .ref 102]) dm_X12_line_130 (q_geti (v := t2.1 30) hm rfl (fun m i l => rg_30 m i l) rfl) rfl rfl rfl ?_
            refine me3 (pc' := 136) (S' := []) (h1 := rI pre post (va_up (va_up (va_up (va_up t2.1 3 (t.1 3)) 4 (t.1 4)) 50 (t.1 50)) 31 (t2.1 30)) t2.2.1 t2.2.2.1 t2.2.2.2) dm_X12_line_133 (q_puti hm rfl rfl (fun m i l v => rf_31 m i l v)) rfl rfl rfl ?_
            refine me1 (pc' := 137) (L' := [(4, ii (t.1 50)), (3, ii (t.1 4)), (2, ii (t.1 3)), (0, .ref 102), (1, ii (ln : Int))]) (S' := [.ref 102]) dm_X12_line_136 rfl rfl rfl rfl ?_
            refine me3 (pc' := 140) (S' := [ii (t2.1 5)]) dm_X12_line_137 (q_geti (v := t2.1 5) hm rfl (fun m i l => rg_5 m i l) rfl) rfl rfl rfl ?_
            refine y_ineg (a := t2.1 5) dm_X12_line_140 (pc' := 141) rfl ?_
            refine y_ret (r := some (ii (-(t2.1 5)))) dm_X12_line_141 rfl rfl rfl ?_
            have e9 : rI pre post (va_up (va_up (va_up (va_up t2.1 3 (t.1 3)) 4 (t.1 4)) 50 (t.1 50)) 31 (t2.1 30)) t2.2.1 t2.2.2.1 t2.2.2.2 = rS pre post (liE1 t t2) := by first | rfl | exact congrArg (rS pre post) rfl
            rw [e9]
            refine ⟨_, rfl, _, _, rfl, rfl, ?_⟩
            exact k t2 hQ2
          · exfalso; omega
      · exfalso; omega
    · exfalso; omega
theorem dm_X12_line_114 : mj_dec prog_14_method_95_code 114 = some (.aload_n 0, 1) := by decide +kernel
theorem dm_X12_line_115 : mj_dec prog_14_method_95_code 115 = some (.getfield 478, 3) := by decide +kernel
theorem dm_X12_line_118 : mj_dec prog_14_method_95_code 118 = some (.iconst 2, 1) := by decide +kernel
theorem dm_X12_line_119 : mj_dec prog_14_method_95_code 119 = some (.if_icmp .eq 9, 3) := by decide +kernel
theorem li_val {xt : mj_X} {d : Nat} {pre post : mj_H} {t : RS} (hm : pre.length = 102) (hd1 : 100 ≤ d) {Q : RS → Int → Prop} {ln : Nat} (h33 : 0 ≤ t.1 33 ∧ t.1 33 ≤ 300) (hln : (ln : Int) ≤ t.1 33) {Q1 : RS → Prop} (hc : pgN xt (d - 1) 203 [.ref 102, ii (ln : Int)] (rS pre post (li0 t)) (fun h' => ∃ u, h' = rS pre post u ∧ Q1 u)) (hb : ∀ u, Q1 u → u.1 52 = -1) {Q2 : RS → Prop} (hc2 : ∀ u, Q1 u → pgN xt (d - 1) 234 [.ref 102] (rS pre post u) (fun h' => ∃ u2, h' = rS pre post u2 ∧ Q2 u2)) (h2 : ∀ u, Q2 u → u.1 5 = 0 ∧ (0 ≤ u.1 53 ∧ u.1 53 ≤ 10) ∧ u.1 53 ≠ 2) (k : ∀ u, Q2 u → Q (liE2 t u) 0) : pgV xt d 202 [.ref 102, ii (ln : Int)] (rS pre post t) (RL2 pre post Q) := by
  refine x_enter pm_X12_line (L0 := [(0, .ref 102), (1, ii (ln : Int))]) rfl (Nat.le_of_ble_eq_true rfl) (by omega) ?_
  refine me1 (pc' := 1) (L' := [(0, .ref 102), (1, ii (ln : Int))]) (S' := [ii (ln : Int)]) dm_X12_line_0 rfl rfl rfl rfl ?_
  refine y_1lt (a := (ln : Int)) (t := 12) (pc' := 4) dm_X12_line_1 rfl rfl (by omega) (fun hb1 => ?_) (fun hb1 => ?_)
  · exfalso; omega
  · refine me1 (pc' := 5) (L' := [(0, .ref 102), (1, ii (ln : Int))]) (S' := [ii (ln : Int)]) dm_X12_line_4 rfl rfl rfl rfl ?_
    refine me1 (pc' := 6) (L' := [(0, .ref 102), (1, ii (ln : Int))]) (S' := [.ref 102, ii (ln : Int)]) dm_X12_line_5 rfl rfl rfl rfl ?_
    refine me3 (pc' := 9) (S' := [ii (t.1 33), ii (ln : Int)]) dm_X12_line_6 (q_geti (v := t.1 33) hm rfl (fun m i l => rg_33 m i l) rfl) rfl rfl rfl ?_
    refine y_2le (a := (ln : Int)) (b := t.1 33) (t := 15) (pc' := 12) dm_X12_line_9 rfl rfl (by omega) (fun hb2 => ?_) (fun hb2 => ?_)
    · refine me1 (pc' := 16) (L' := [(0, .ref 102), (1, ii (ln : Int))]) (S' := [.ref 102]) dm_X12_line_15 rfl rfl rfl rfl ?_
      refine me0 (pc' := 17) (S' := [ii 0, .ref 102]) dm_X12_line_16 rfl rfl rfl rfl ?_
      refine me3 (pc' := 20) (S' := []) (h1 := rI pre post (va_up t.1 33 0) t.2.1 t.2.2.1 t.2.2.2) dm_X12_line_17 (q_puti hm rfl rfl (fun m i l v => rf_33 m i l v)) rfl rfl rfl ?_
      refine me1 (pc' := 21) (L' := [(0, .ref 102), (1, ii (ln : Int))]) (S' := [.ref 102]) dm_X12_line_20 rfl rfl rfl rfl ?_
      refine me3 (pc' := 24) (S' := [ii (t.1 3)]) dm_X12_line_21 (q_geti (v := t.1 3) hm rfl (fun m i l => rg_3 m i l) rfl) rfl rfl rfl ?_
      refine me1 (pc' := 25) (L' := [(2, ii (t.1 3)), (0, .ref 102), (1, ii (ln : Int))]) (S' := []) dm_X12_line_24 rfl rfl rfl rfl ?_
      refine me1 (pc' := 26) (L' := [(2, ii (t.1 3)), (0, .ref 102), (1, ii (ln : Int))]) (S' := [.ref 102]) dm_X12_line_25 rfl rfl rfl rfl ?_
      refine me3 (pc' := 29) (S' := [ii (t.1 4)]) dm_X12_line_26 (q_geti (v := t.1 4) hm rfl (fun m i l => rg_4 m i l) rfl) rfl rfl rfl ?_
      refine me1 (pc' := 30) (L' := [(3, ii (t.1 4)), (2, ii (t.1 3)), (0, .ref 102), (1, ii (ln : Int))]) (S' := []) dm_X12_line_29 rfl rfl rfl rfl ?_
      refine me1 (pc' := 31) (L' := [(3, ii (t.1 4)), (2, ii (t.1 3)), (0, .ref 102), (1, ii (ln : Int))]) (S' := [.ref 102]) dm_X12_line_30 rfl rfl rfl rfl ?_
      refine me3 (pc' := 34) (S' := [ii (t.1 50)]) dm_X12_line_31 (q_geti (v := t.1 50) hm rfl (fun m i l => rg_50 m i l) rfl) rfl rfl rfl ?_
      refine me1 (pc' := 36) (L' := [(4, ii (t.1 50)), (3, ii (t.1 4)), (2, ii (t.1 3)), (0, .ref 102), (1, ii (ln : Int))]) (S' := []) dm_X12_line_34 rfl rfl rfl rfl ?_
      refine me1 (pc' := 37) (L' := [(4, ii (t.1 50)), (3, ii (t.1 4)), (2, ii (t.1 3)), (0, .ref 102), (1, ii (ln : Int))]) (S' := [.ref 102]) dm_X12_line_36 rfl rfl rfl rfl ?_
      refine me0 (pc' := 38) (S' := [ii 0, .ref 102]) dm_X12_line_37 rfl rfl rfl rfl ?_
      refine me3 (pc' := 41) (S' := []) (h1 := rI pre post (va_up (va_up t.1 33 0) 5 0) t.2.1 t.2.2.1 t.2.2.2) dm_X12_line_38 (q_puti hm rfl rfl (fun m i l v => rf_5 m i l v)) rfl rfl rfl ?_
      refine me1 (pc' := 42) (L' := [(4, ii (t.1 50)), (3, ii (t.1 4)), (2, ii (t.1 3)), (0, .ref 102), (1, ii (ln : Int))]) (S' := [.ref 102]) dm_X12_line_41 rfl rfl rfl rfl ?_
      refine me0 (pc' := 43) (S' := [ii (-1), .ref 102]) dm_X12_line_42 rfl rfl rfl rfl ?_
      refine me3 (pc' := 46) (S' := []) (h1 := rI pre post (va_up (va_up (va_up t.1 33 0) 5 0) 6 (-1)) t.2.1 t.2.2.1 t.2.2.2) dm_X12_line_43 (q_puti hm rfl rfl (fun m i l v => rf_6 m i l v)) rfl rfl rfl ?_
      refine me1 (pc' := 47) (L' := [(4, ii (t.1 50)), (3, ii (t.1 4)), (2, ii (t.1 3)), (0, .ref 102), (1, ii (ln : Int))]) (S' := [.ref 102]) dm_X12_line_46 rfl rfl rfl rfl ?_
      refine me0 (pc' := 48) (S' := [ii 0, .ref 102]) dm_X12_line_47 rfl rfl rfl rfl ?_
      refine me3 (pc' := 51) (S' := []) (h1 := rI pre post (va_up (va_up (va_up (va_up t.1 33 0) 5 0) 6 (-1)) 7 0) t.2.1 t.2.2.1 t.2.2.2) dm_X12_line_48 (q_puti hm rfl rfl (fun m i l v => rf_7 m i l v)) rfl rfl rfl ?_
      refine me1 (pc' := 52) (L' := [(4, ii (t.1 50)), (3, ii (t.1 4)), (2, ii (t.1 3)), (0, .ref 102), (1, ii (ln : Int))]) (S' := [.ref 102]) dm_X12_line_51 rfl rfl rfl rfl ?_
      refine me0 (pc' := 53) (S' := [ii 0, .ref 102]) dm_X12_line_52 rfl rfl rfl rfl ?_
      refine me3 (pc' := 56) (S' := []) (h1 := rI pre post (va_up (va_up (va_up (va_up (va_up t.1 33 0) 5 0) 6 (-1)) 7 0) 10 0) t.2.1 t.2.2.1 t.2.2.2) dm_X12_line_53 (q_puti hm rfl rfl (fun m i l v => rf_10 m i l v)) rfl rfl rfl ?_
      refine me1 (pc' := 57) (L' := [(4, ii (t.1 50)), (3, ii (t.1 4)), (2, ii (t.1 3)), (0, .ref 102), (1, ii (ln : Int))]) (S' := [.ref 102]) dm_X12_line_56 rfl rfl rfl rfl ?_
      refine me0 (pc' := 58) (S' := [ii 0, .ref 102]) dm_X12_line_57 rfl rfl rfl rfl ?_
      refine me3 (pc' := 61) (S' := []) (h1 := rI pre post (va_up (va_up (va_up (va_up (va_up (va_up t.1 33 0) 5 0) 6 (-1)) 7 0) 10 0) 13 0) t.2.1 t.2.2.1 t.2.2.2) dm_X12_line_58 (q_puti hm rfl rfl (fun m i l v => rf_13 m i l v)) rfl rfl rfl ?_
      refine pg_cast (h2 := rI pre post ((li0 t).1) ((li0 t).2.1) ((li0 t).2.2.1) ((li0 t).2.2.2)) (by first | rfl | exact congrArg (rS pre post) rfl) ?_
      refine me1 (pc' := 62) (L' := [(4, ii (t.1 50)), (3, ii (t.1 4)), (2, ii (t.1 3)), (0, .ref 102), (1, ii (ln : Int))]) (S' := [.ref 102]) dm_X12_line_61 rfl rfl rfl rfl ?_
      refine me1 (pc' := 63) (L' := [(4, ii (t.1 50)), (3, ii (t.1 4)), (2, ii (t.1 3)), (0, .ref 102), (1, ii (ln : Int))]) (S' := [ii (ln : Int), .ref 102]) dm_X12_line_62 rfl rfl rfl rfl ?_
      refine x_cn (pc' := 66) (rest := []) dm_X12_line_63 rfl (q_inv (As := [ii (ln : Int)]) (S := []) hm rfl rfl rfl) rfl rfl rfl (hc) ?_
      rintro _ ⟨t1, rfl, hQ1⟩
      have hq1 := hb t1 hQ1
      refine me1 (pc' := 67) (L' := [(4, ii (t.1 50)), (3, ii (t.1 4)), (2, ii (t.1 3)), (0, .ref 102), (1, ii (ln : Int))]) (S' := [.ref 102]) dm_X12_line_66 rfl rfl rfl rfl ?_
      refine me3 (pc' := 70) (S' := [ii (t1.1 52)]) dm_X12_line_67 (q_geti (v := t1.1 52) hm rfl (fun m i l => rg_52 m i l) rfl) rfl rfl rfl ?_
      refine y_1lt (a := t1.1 52) (t := 86) (pc' := 73) dm_X12_line_70 rfl rfl (by omega) (fun hb3 => ?_) (fun hb3 => ?_)
      · refine me1 (pc' := 87) (L' := [(4, ii (t.1 50)), (3, ii (t.1 4)), (2, ii (t.1 3)), (0, .ref 102), (1, ii (ln : Int))]) (S' := [.ref 102]) dm_X12_line_86 rfl rfl rfl rfl ?_
        refine x_cn (pc' := 90) (rest := []) dm_X12_line_87 rfl (q_inv (As := []) (S := []) hm rfl rfl rfl) rfl rfl rfl (hc2 t1 hQ1) ?_
        rintro _ ⟨t2, rfl, hQ2⟩
        have hq2 := h2 t2 hQ2
        refine me1 (pc' := 91) (L' := [(4, ii (t.1 50)), (3, ii (t.1 4)), (2, ii (t.1 3)), (0, .ref 102), (1, ii (ln : Int))]) (S' := [.ref 102]) dm_X12_line_90 rfl rfl rfl rfl ?_
        refine me3 (pc' := 94) (S' := [ii (t2.1 5)]) dm_X12_line_91 (q_geti (v := t2.1 5) hm rfl (fun m i l => rg_5 m i l) rfl) rfl rfl rfl ?_
        refine y_1le (a := t2.1 5) (t := 107) (pc' := 97) dm_X12_line_94 rfl rfl (by omega) (fun hb4 => ?_) (fun hb4 => ?_)
        · refine me1 (pc' := 108) (L' := [(4, ii (t.1 50)), (3, ii (t.1 4)), (2, ii (t.1 3)), (0, .ref 102), (1, ii (ln : Int))]) (S' := [.ref 102]) dm_X12_line_107 rfl rfl rfl rfl ?_
          refine me3 (pc' := 111) (S' := [ii (t2.1 5)]) dm_X12_line_108 (q_geti (v := t2.1 5) hm rfl (fun m i l => rg_5 m i l) rfl) rfl rfl rfl ?_
          refine y_1gt (a := t2.1 5) (t := 122) (pc' := 114) dm_X12_line_111 rfl rfl (by omega) (fun hb5 => ?_) (fun hb5 => ?_)
          · exfalso; omega
          · refine me1 (pc' := 115) (L' := [(4, ii (t.1 50)), (3, ii (t.1 4)), (2, ii (t.1 3)), (0, .ref 102), (1, ii (ln : Int))]) (S' := [.ref 102]) dm_X12_line_114 rfl rfl rfl rfl ?_
            refine me3 (pc' := 118) (S' := [ii (t2.1 53)]) dm_X12_line_115 (q_geti (v := t2.1 53) hm rfl (fun m i l => rg_53 m i l) rfl) rfl rfl rfl ?_
            refine me0 (pc' := 119) (S' := [ii 2, ii (t2.1 53)]) dm_X12_line_118 rfl rfl rfl rfl ?_
            refine y_2eq (a := t2.1 53) (b := 2) (t := 128) (pc' := 122) dm_X12_line_119 rfl rfl (by omega) (fun hb6 => ?_) (fun hb6 => ?_)
            · exfalso; omega
            · refine me1 (pc' := 123) (L' := [(4, ii (t.1 50)), (3, ii (t.1 4)), (2, ii (t.1 3)), (0, .ref 102), (1, ii (ln : Int))]) (S' := [.ref 102]) dm_X12_line_122 rfl rfl rfl rfl ?_
              refine me1 (pc' := 125) (L' := [(4, ii (t.1 50)), (3, ii (t.1 4)), (2, ii (t.1 3)), (0, .ref 102), (1, ii (ln : Int))]) (S' := [ii (t.1 50), .ref 102]) dm_X12_line_123 rfl rfl rfl rfl ?_
              refine me3 (pc' := 128) (S' := []) (h1 := rI pre post (va_up t2.1 50 (t.1 50)) t2.2.1 t2.2.2.1 t2.2.2.2) dm_X12_line_125 (q_puti hm rfl rfl (fun m i l v => rf_50 m i l v)) rfl rfl rfl ?_
              refine me1 (pc' := 129) (L' := [(4, ii (t.1 50)), (3, ii (t.1 4)), (2, ii (t.1 3)), (0, .ref 102), (1, ii (ln : Int))]) (S' := [.ref 102]) dm_X12_line_128 rfl rfl rfl rfl ?_
              refine me1 (pc' := 130) (L' := [(4, ii (t.1 50)), (3, ii (t.1 4)), (2, ii (t.1 3)), (0, .ref 102), (1, ii (ln : Int))]) (S' := [.ref 102, .ref 102]) dm_X12_line_129 rfl rfl rfl rfl ?_
              refine me3 (pc' := 133) (S' := [ii (t2.1 30), .ref 102]) dm_X12_line_130 (q_geti (v := t2.1 30) hm rfl (fun m i l => rg_30 m i l) rfl) rfl rfl rfl ?_
              refine me3 (pc' := 136) (S' := []) (h1 := rI pre post (va_up (va_up t2.1 50 (t.1 50)) 31 (t2.1 30)) t2.2.1 t2.2.2.1 t2.2.2.2) dm_X12_line_133 (q_puti hm rfl rfl (fun m i l v => rf_31 m i l v)) rfl rfl rfl ?_
              refine me1 (pc' := 137) (L' := [(4, ii (t.1 50)), (3, ii (t.1 4)), (2, ii (t.1 3)), (0, .ref 102), (1, ii (ln : Int))]) (S' := [.ref 102]) dm_X12_line_136 rfl rfl rfl rfl ?_
              refine me3 (pc' := 140) (S' := [ii (t2.1 5)]) dm_X12_line_137 (q_geti (v := t2.1 5) hm rfl (fun m i l => rg_5 m i l) rfl) rfl rfl rfl ?_
              refine y_ineg (a := t2.1 5) dm_X12_line_140 (pc' := 141) rfl ?_
              refine y_ret (r := some (ii (-(t2.1 5)))) dm_X12_line_141 rfl rfl rfl ?_
              have e9 : rI pre post (va_up (va_up t2.1 50 (t.1 50)) 31 (t2.1 30)) t2.2.1 t2.2.2.1 t2.2.2.2 = rS pre post (liE2 t t2) := by first | rfl | exact congrArg (rS pre post) rfl
              rw [e9]
              refine ⟨_, rfl, _, _, rfl, rfl, ?_⟩
              have e8 : -(t2.1 5) = 0 := by omega
              first | (rw [e8]; exact k t2 hQ2) | (have e7 : -(t2.1 5) = 0 := by (show -(t2.1 5) = 0); omega) 
        · exfalso; omega
      · exfalso; omega
    · exfalso; omega
theorem li_tell {xt : mj_X} {d : Nat} {pre post : mj_H} {t : RS} (hm : pre.length = 102) (hd1 : 100 ≤ d) {Q : RS → Int → Prop} {ln : Nat} (h33 : 0 ≤ t.1 33 ∧ t.1 33 ≤ 300) (hln : (ln : Int) ≤ t.1 33) {Q1 : RS → Prop} (hc : pgN xt (d - 1) 203 [.ref 102, ii (ln : Int)] (rS pre post (li0 t)) (fun h' => ∃ u, h' = rS pre post u ∧ Q1 u)) (hb : ∀ u, Q1 u → u.1 52 = -1) {Q2 : RS → Prop} (hc2 : ∀ u, Q1 u → pgN xt (d - 1) 234 [.ref 102] (rS pre post u) (fun h' => ∃ u2, h' = rS pre post u2 ∧ Q2 u2)) (h2 : ∀ u, Q2 u → u.1 5 = 0 ∧ u.1 53 = 2) (k : ∀ u, Q2 u → Q (liE3 u) 0) : pgV xt d 202 [.ref 102, ii (ln : Int)] (rS pre post t) (RL2 pre post Q) := by
  refine x_enter pm_X12_line (L0 := [(0, .ref 102), (1, ii (ln : Int))]) rfl (Nat.le_of_ble_eq_true rfl) (by omega) ?_
  refine me1 (pc' := 1) (L' := [(0, .ref 102), (1, ii (ln : Int))]) (S' := [ii (ln : Int)]) dm_X12_line_0 rfl rfl rfl rfl ?_
  refine y_1lt (a := (ln : Int)) (t := 12) (pc' := 4) dm_X12_line_1 rfl rfl (by omega) (fun hb1 => ?_) (fun hb1 => ?_)
  · exfalso; omega
  · refine me1 (pc' := 5) (L' := [(0, .ref 102), (1, ii (ln : Int))]) (S' := [ii (ln : Int)]) dm_X12_line_4 rfl rfl rfl rfl ?_
    refine me1 (pc' := 6) (L' := [(0, .ref 102), (1, ii (ln : Int))]) (S' := [.ref 102, ii (ln : Int)]) dm_X12_line_5 rfl rfl rfl rfl ?_
    refine me3 (pc' := 9) (S' := [ii (t.1 33), ii (ln : Int)]) dm_X12_line_6 (q_geti (v := t.1 33) hm rfl (fun m i l => rg_33 m i l) rfl) rfl rfl rfl ?_
    refine y_2le (a := (ln : Int)) (b := t.1 33) (t := 15) (pc' := 12) dm_X12_line_9 rfl rfl (by omega) (fun hb2 => ?_) (fun hb2 => ?_)
    · refine me1 (pc' := 16) (L' := [(0, .ref 102), (1, ii (ln : Int))]) (S' := [.ref 102]) dm_X12_line_15 rfl rfl rfl rfl ?_
      refine me0 (pc' := 17) (S' := [ii 0, .ref 102]) dm_X12_line_16 rfl rfl rfl rfl ?_
      refine me3 (pc' := 20) (S' := []) (h1 := rI pre post (va_up t.1 33 0) t.2.1 t.2.2.1 t.2.2.2) dm_X12_line_17 (q_puti hm rfl rfl (fun m i l v => rf_33 m i l v)) rfl rfl rfl ?_
      refine me1 (pc' := 21) (L' := [(0, .ref 102), (1, ii (ln : Int))]) (S' := [.ref 102]) dm_X12_line_20 rfl rfl rfl rfl ?_
      refine me3 (pc' := 24) (S' := [ii (t.1 3)]) dm_X12_line_21 (q_geti (v := t.1 3) hm rfl (fun m i l => rg_3 m i l) rfl) rfl rfl rfl ?_
      refine me1 (pc' := 25) (L' := [(2, ii (t.1 3)), (0, .ref 102), (1, ii (ln : Int))]) (S' := []) dm_X12_line_24 rfl rfl rfl rfl ?_
      refine me1 (pc' := 26) (L' := [(2, ii (t.1 3)), (0, .ref 102), (1, ii (ln : Int))]) (S' := [.ref 102]) dm_X12_line_25 rfl rfl rfl rfl ?_
      refine me3 (pc' := 29) (S' := [ii (t.1 4)]) dm_X12_line_26 (q_geti (v := t.1 4) hm rfl (fun m i l => rg_4 m i l) rfl) rfl rfl rfl ?_
      refine me1 (pc' := 30) (L' := [(3, ii (t.1 4)), (2, ii (t.1 3)), (0, .ref 102), (1, ii (ln : Int))]) (S' := []) dm_X12_line_29 rfl rfl rfl rfl ?_
      refine me1 (pc' := 31) (L' := [(3, ii (t.1 4)), (2, ii (t.1 3)), (0, .ref 102), (1, ii (ln : Int))]) (S' := [.ref 102]) dm_X12_line_30 rfl rfl rfl rfl ?_
      refine me3 (pc' := 34) (S' := [ii (t.1 50)]) dm_X12_line_31 (q_geti (v := t.1 50) hm rfl (fun m i l => rg_50 m i l) rfl) rfl rfl rfl ?_
      refine me1 (pc' := 36) (L' := [(4, ii (t.1 50)), (3, ii (t.1 4)), (2, ii (t.1 3)), (0, .ref 102), (1, ii (ln : Int))]) (S' := []) dm_X12_line_34 rfl rfl rfl rfl ?_
      refine me1 (pc' := 37) (L' := [(4, ii (t.1 50)), (3, ii (t.1 4)), (2, ii (t.1 3)), (0, .ref 102), (1, ii (ln : Int))]) (S' := [.ref 102]) dm_X12_line_36 rfl rfl rfl rfl ?_
      refine me0 (pc' := 38) (S' := [ii 0, .ref 102]) dm_X12_line_37 rfl rfl rfl rfl ?_
      refine me3 (pc' := 41) (S' := []) (h1 := rI pre post (va_up (va_up t.1 33 0) 5 0) t.2.1 t.2.2.1 t.2.2.2) dm_X12_line_38 (q_puti hm rfl rfl (fun m i l v => rf_5 m i l v)) rfl rfl rfl ?_
      refine me1 (pc' := 42) (L' := [(4, ii (t.1 50)), (3, ii (t.1 4)), (2, ii (t.1 3)), (0, .ref 102), (1, ii (ln : Int))]) (S' := [.ref 102]) dm_X12_line_41 rfl rfl rfl rfl ?_
      refine me0 (pc' := 43) (S' := [ii (-1), .ref 102]) dm_X12_line_42 rfl rfl rfl rfl ?_
      refine me3 (pc' := 46) (S' := []) (h1 := rI pre post (va_up (va_up (va_up t.1 33 0) 5 0) 6 (-1)) t.2.1 t.2.2.1 t.2.2.2) dm_X12_line_43 (q_puti hm rfl rfl (fun m i l v => rf_6 m i l v)) rfl rfl rfl ?_
      refine me1 (pc' := 47) (L' := [(4, ii (t.1 50)), (3, ii (t.1 4)), (2, ii (t.1 3)), (0, .ref 102), (1, ii (ln : Int))]) (S' := [.ref 102]) dm_X12_line_46 rfl rfl rfl rfl ?_
      refine me0 (pc' := 48) (S' := [ii 0, .ref 102]) dm_X12_line_47 rfl rfl rfl rfl ?_
      refine me3 (pc' := 51) (S' := []) (h1 := rI pre post (va_up (va_up (va_up (va_up t.1 33 0) 5 0) 6 (-1)) 7 0) t.2.1 t.2.2.1 t.2.2.2) dm_X12_line_48 (q_puti hm rfl rfl (fun m i l v => rf_7 m i l v)) rfl rfl rfl ?_
      refine me1 (pc' := 52) (L' := [(4, ii (t.1 50)), (3, ii (t.1 4)), (2, ii (t.1 3)), (0, .ref 102), (1, ii (ln : Int))]) (S' := [.ref 102]) dm_X12_line_51 rfl rfl rfl rfl ?_
      refine me0 (pc' := 53) (S' := [ii 0, .ref 102]) dm_X12_line_52 rfl rfl rfl rfl ?_
      refine me3 (pc' := 56) (S' := []) (h1 := rI pre post (va_up (va_up (va_up (va_up (va_up t.1 33 0) 5 0) 6 (-1)) 7 0) 10 0) t.2.1 t.2.2.1 t.2.2.2) dm_X12_line_53 (q_puti hm rfl rfl (fun m i l v => rf_10 m i l v)) rfl rfl rfl ?_
      refine me1 (pc' := 57) (L' := [(4, ii (t.1 50)), (3, ii (t.1 4)), (2, ii (t.1 3)), (0, .ref 102), (1, ii (ln : Int))]) (S' := [.ref 102]) dm_X12_line_56 rfl rfl rfl rfl ?_
      refine me0 (pc' := 58) (S' := [ii 0, .ref 102]) dm_X12_line_57 rfl rfl rfl rfl ?_
      refine me3 (pc' := 61) (S' := []) (h1 := rI pre post (va_up (va_up (va_up (va_up (va_up (va_up t.1 33 0) 5 0) 6 (-1)) 7 0) 10 0) 13 0) t.2.1 t.2.2.1 t.2.2.2) dm_X12_line_58 (q_puti hm rfl rfl (fun m i l v => rf_13 m i l v)) rfl rfl rfl ?_
      refine pg_cast (h2 := rI pre post ((li0 t).1) ((li0 t).2.1) ((li0 t).2.2.1) ((li0 t).2.2.2)) (by first | rfl | exact congrArg (rS pre post) rfl) ?_
      refine me1 (pc' := 62) (L' := [(4, ii (t.1 50)), (3, ii (t.1 4)), (2, ii (t.1 3)), (0, .ref 102), (1, ii (ln : Int))]) (S' := [.ref 102]) dm_X12_line_61 rfl rfl rfl rfl ?_
      refine me1 (pc' := 63) (L' := [(4, ii (t.1 50)), (3, ii (t.1 4)), (2, ii (t.1 3)), (0, .ref 102), (1, ii (ln : Int))]) (S' := [ii (ln : Int), .ref 102]) dm_X12_line_62 rfl rfl rfl rfl ?_
      refine x_cn (pc' := 66) (rest := []) dm_X12_line_63 rfl (q_inv (As := [ii (ln : Int)]) (S := []) hm rfl rfl rfl) rfl rfl rfl (hc) ?_
      rintro _ ⟨t1, rfl, hQ1⟩
      have hq1 := hb t1 hQ1
      refine me1 (pc' := 67) (L' := [(4, ii (t.1 50)), (3, ii (t.1 4)), (2, ii (t.1 3)), (0, .ref 102), (1, ii (ln : Int))]) (S' := [.ref 102]) dm_X12_line_66 rfl rfl rfl rfl ?_
      refine me3 (pc' := 70) (S' := [ii (t1.1 52)]) dm_X12_line_67 (q_geti (v := t1.1 52) hm rfl (fun m i l => rg_52 m i l) rfl) rfl rfl rfl ?_
      refine y_1lt (a := t1.1 52) (t := 86) (pc' := 73) dm_X12_line_70 rfl rfl (by omega) (fun hb3 => ?_) (fun hb3 => ?_)
      · refine me1 (pc' := 87) (L' := [(4, ii (t.1 50)), (3, ii (t.1 4)), (2, ii (t.1 3)), (0, .ref 102), (1, ii (ln : Int))]) (S' := [.ref 102]) dm_X12_line_86 rfl rfl rfl rfl ?_
        refine x_cn (pc' := 90) (rest := []) dm_X12_line_87 rfl (q_inv (As := []) (S := []) hm rfl rfl rfl) rfl rfl rfl (hc2 t1 hQ1) ?_
        rintro _ ⟨t2, rfl, hQ2⟩
        have hq2 := h2 t2 hQ2
        refine me1 (pc' := 91) (L' := [(4, ii (t.1 50)), (3, ii (t.1 4)), (2, ii (t.1 3)), (0, .ref 102), (1, ii (ln : Int))]) (S' := [.ref 102]) dm_X12_line_90 rfl rfl rfl rfl ?_
        refine me3 (pc' := 94) (S' := [ii (t2.1 5)]) dm_X12_line_91 (q_geti (v := t2.1 5) hm rfl (fun m i l => rg_5 m i l) rfl) rfl rfl rfl ?_
        refine y_1le (a := t2.1 5) (t := 107) (pc' := 97) dm_X12_line_94 rfl rfl (by omega) (fun hb4 => ?_) (fun hb4 => ?_)
        · refine me1 (pc' := 108) (L' := [(4, ii (t.1 50)), (3, ii (t.1 4)), (2, ii (t.1 3)), (0, .ref 102), (1, ii (ln : Int))]) (S' := [.ref 102]) dm_X12_line_107 rfl rfl rfl rfl ?_
          refine me3 (pc' := 111) (S' := [ii (t2.1 5)]) dm_X12_line_108 (q_geti (v := t2.1 5) hm rfl (fun m i l => rg_5 m i l) rfl) rfl rfl rfl ?_
          refine y_1gt (a := t2.1 5) (t := 122) (pc' := 114) dm_X12_line_111 rfl rfl (by omega) (fun hb5 => ?_) (fun hb5 => ?_)
          · exfalso; omega
          · refine me1 (pc' := 115) (L' := [(4, ii (t.1 50)), (3, ii (t.1 4)), (2, ii (t.1 3)), (0, .ref 102), (1, ii (ln : Int))]) (S' := [.ref 102]) dm_X12_line_114 rfl rfl rfl rfl ?_
            refine me3 (pc' := 118) (S' := [ii (t2.1 53)]) dm_X12_line_115 (q_geti (v := t2.1 53) hm rfl (fun m i l => rg_53 m i l) rfl) rfl rfl rfl ?_
            refine me0 (pc' := 119) (S' := [ii 2, ii (t2.1 53)]) dm_X12_line_118 rfl rfl rfl rfl ?_
            refine y_2eq (a := t2.1 53) (b := 2) (t := 128) (pc' := 122) dm_X12_line_119 rfl rfl (by omega) (fun hb6 => ?_) (fun hb6 => ?_)
            · refine me1 (pc' := 129) (L' := [(4, ii (t.1 50)), (3, ii (t.1 4)), (2, ii (t.1 3)), (0, .ref 102), (1, ii (ln : Int))]) (S' := [.ref 102]) dm_X12_line_128 rfl rfl rfl rfl ?_
              refine me1 (pc' := 130) (L' := [(4, ii (t.1 50)), (3, ii (t.1 4)), (2, ii (t.1 3)), (0, .ref 102), (1, ii (ln : Int))]) (S' := [.ref 102, .ref 102]) dm_X12_line_129 rfl rfl rfl rfl ?_
              refine me3 (pc' := 133) (S' := [ii (t2.1 30), .ref 102]) dm_X12_line_130 (q_geti (v := t2.1 30) hm rfl (fun m i l => rg_30 m i l) rfl) rfl rfl rfl ?_
              refine me3 (pc' := 136) (S' := []) (h1 := rI pre post (va_up t2.1 31 (t2.1 30)) t2.2.1 t2.2.2.1 t2.2.2.2) dm_X12_line_133 (q_puti hm rfl rfl (fun m i l v => rf_31 m i l v)) rfl rfl rfl ?_
              refine me1 (pc' := 137) (L' := [(4, ii (t.1 50)), (3, ii (t.1 4)), (2, ii (t.1 3)), (0, .ref 102), (1, ii (ln : Int))]) (S' := [.ref 102]) dm_X12_line_136 rfl rfl rfl rfl ?_
              refine me3 (pc' := 140) (S' := [ii (t2.1 5)]) dm_X12_line_137 (q_geti (v := t2.1 5) hm rfl (fun m i l => rg_5 m i l) rfl) rfl rfl rfl ?_
              refine y_ineg (a := t2.1 5) dm_X12_line_140 (pc' := 141) rfl ?_
              refine y_ret (r := some (ii (-(t2.1 5)))) dm_X12_line_141 rfl rfl rfl ?_
              have e9 : rI pre post (va_up t2.1 31 (t2.1 30)) t2.2.1 t2.2.2.1 t2.2.2.2 = rS pre post (liE3 t2) := by first | rfl | exact congrArg (rS pre post) rfl
              rw [e9]
              refine ⟨_, rfl, _, _, rfl, rfl, ?_⟩
              have e8 : -(t2.1 5) = 0 := by omega
              first | (rw [e8]; exact k t2 hQ2) | (have e7 : -(t2.1 5) = 0 := by (show -(t2.1 5) = 0); omega) 
            · exfalso; omega
        · exfalso; omega
      · exfalso; omega
    · exfalso; omega
