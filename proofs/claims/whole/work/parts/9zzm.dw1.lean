/-! the reference does: a call's answer -/
/-- a call's answer: an int, and the reference's state -/
def RA (pre post : mj_H) (Q : RS → Int → Prop) (x : Value) (h' : mj_H) : Prop := ∃ (t : RS) (z : Int), x = ii z ∧ h' = rS pre post t ∧ (0 ≤ t.1 5 ∧ t.1 5 ≤ 100) ∧ (-1 ≤ z ∧ z ≤ 310000) ∧ Q t z
theorem RA_mono {pre post : mj_H} {Q Q' : RS → Int → Prop} {x : Value} {h' : mj_H} (h : RA pre post Q x h') (hi : ∀ t z, Q t z → Q' t z) : RA pre post Q' x h' := by
  obtain ⟨t, z, a, b, c, e, f⟩ := h
  exact ⟨t, z, a, b, c, e, hi t z f⟩
/-- one more waits -/
def pshS (s : RS) (n : Nat) (x : Int) : RS := (va_up s.1 13 ((n : Int) + 1), s.2.1, va_up s.2.2.1 12 (va_up (s.2.2.1 12) n x), s.2.2.2)
theorem psh_k {s : RS} {n k : Nat} {x : Int} (h : k ≠ 13) : (pshS s n x).1 k = s.1 k := up_ne _ _ h
theorem psh_13 {s : RS} {n : Nat} {x : Int} : (pshS s n x).1 13 = ((n + 1 : Nat) : Int) := by
  show va_up s.1 13 ((n : Int) + 1) 13 = _
  rw [up_eq]; omega
theorem psh_a {s : RS} {n k : Nat} {x : Int} (h : k ≠ 12) : (pshS s n x).2.2.1 k = s.2.2.1 k := up_ne _ _ h
theorem psh_w {s : RS} {n : Nat} {x : Int} : (pshS s n x).2.2.1 12 n = x := by
  show va_up s.2.2.1 12 (va_up (s.2.2.1 12) n x) 12 n = x
  rw [up_eq, up_eq]
theorem psh_wk {s : RS} {n j : Nat} {x : Int} (h : j ≠ n) : (pshS s n x).2.2.1 12 j = s.2.2.1 12 j := by
  show va_up s.2.2.1 12 (va_up (s.2.2.1 12) n x) 12 j = _
  rw [up_eq, up_ne _ _ h]
abbrev HW (xt : mj_X) (d : Nat) (pre post : mj_H) (t : RS) (n : Nat) (z x : Int) (P : Option Value → mj_H → Prop) : Prop := pgE xt d 12 5 false (Option.some Jvm.ClassFile.FieldType.int) (mj_dec prog_14_method_103_code) 18 [(0, .ref 102), (1, ii (n : Int)), (2, ii z), (3, ii x)] [] (rI pre post t.1 t.2.1 t.2.2.1 t.2.2.2) (P)
set_option maxRecDepth 20000 in
theorem pm_X12_worth : mj_mmof pg_ms 239 = some ((⟨"ArrayCalculatorModel", "worth", "(I)I"⟩, prog_14_method_103_code, 5, (Option.some Jvm.ClassFile.FieldType.int)), 12, false, mj_dec prog_14_method_103_code) := rfl
theorem dm_X12_worth_0 : mj_dec prog_14_method_103_code 0 = some (.aload_n 0, 1) := by decide +kernel
theorem dm_X12_worth_1 : mj_dec prog_14_method_103_code 1 = some (.aload_n 0, 1) := by decide +kernel
theorem dm_X12_worth_2 : mj_dec prog_14_method_103_code 2 = some (.getfield 78, 3) := by decide +kernel
theorem dm_X12_worth_5 : mj_dec prog_14_method_103_code 5 = some (.iload_n 1, 1) := by decide +kernel
theorem dm_X12_worth_6 : mj_dec prog_14_method_103_code 6 = some (.iaload, 1) := by decide +kernel
theorem dm_X12_worth_7 : mj_dec prog_14_method_103_code 7 = some (.invokevirtual 541, 3) := by decide +kernel
theorem dm_X12_worth_10 : mj_dec prog_14_method_103_code 10 = some (.istore_n 2, 1) := by decide +kernel
theorem dm_X12_worth_11 : mj_dec prog_14_method_103_code 11 = some (.aload_n 0, 1) := by decide +kernel
theorem dm_X12_worth_12 : mj_dec prog_14_method_103_code 12 = some (.getfield 81, 3) := by decide +kernel
theorem dm_X12_worth_15 : mj_dec prog_14_method_103_code 15 = some (.iload_n 1, 1) := by decide +kernel
theorem dm_X12_worth_16 : mj_dec prog_14_method_103_code 16 = some (.iaload, 1) := by decide +kernel
theorem dm_X12_worth_17 : mj_dec prog_14_method_103_code 17 = some (.istore_n 3, 1) := by decide +kernel
theorem w_start {xt : mj_X} {d : Nat} {pre post : mj_H} {t : RS} (hm : pre.length = 102) (hd1 : 1 ≤ d) {n : Nat} {Q1 Q : RS → Int → Prop} (hn : n < 84000) (hc : pgV xt (d - 1) 240 [.ref 102, ii (t.2.2.1 44 n)] (rS pre post t) (RA pre post Q1)) (k : ∀ u y, Q1 u y → HW xt (d - 1) pre post u n y (u.2.2.1 45 n) (fun r h' => ∃ x, r = some x ∧ RA pre post Q x h')) : pgV xt d 239 [.ref 102, ii (n : Int)] (rS pre post t) (RA pre post Q) := by
  refine x_enter pm_X12_worth (L0 := [(0, .ref 102), (1, ii (n : Int))]) rfl (Nat.le_of_ble_eq_true rfl) (by omega) ?_
  refine me1 (pc' := 1) (L' := [(0, .ref 102), (1, ii (n : Int))]) (S' := [.ref 102]) dm_X12_worth_0 rfl rfl rfl rfl ?_
  refine me1 (pc' := 2) (L' := [(0, .ref 102), (1, ii (n : Int))]) (S' := [.ref 102, .ref 102]) dm_X12_worth_1 rfl rfl rfl rfl ?_
  refine me3 (pc' := 5) (S' := [.ref (102 + 19), .ref 102]) dm_X12_worth_2 (q_getr hm rfl (fun m i l => rg_44 m i l)) rfl rfl rfl ?_
  refine me1 (pc' := 6) (L' := [(0, .ref 102), (1, ii (n : Int))]) (S' := [ii (n : Int), .ref (102 + 19), .ref 102]) dm_X12_worth_5 rfl rfl rfl rfl ?_
  refine me3 (pc' := 7) (S' := [ii ((t.2.2.1 44) n), .ref 102]) dm_X12_worth_6 (q_iald (v := (t.2.2.1 44) n) (k := 44) (n := 84000) hm (fun m i l I J => rc_44 m i l I J) (by omega) (by omega) (by decide) rfl) rfl rfl rfl ?_
  refine x_cv (pc' := 10) (rest := []) dm_X12_worth_7 rfl (q_inv (As := [ii ((t.2.2.1 44) n)]) (S := []) hm rfl rfl rfl) rfl rfl rfl (hc) ?_
  rintro x1 g1 f1
  obtain ⟨t1, z1, rfl, rfl, hE1, hZ1, hQ1⟩ := f1
  refine me1 (pc' := 11) (L' := [(2, ii z1), (0, .ref 102), (1, ii (n : Int))]) (S' := []) dm_X12_worth_10 rfl rfl rfl rfl ?_
  refine me1 (pc' := 12) (L' := [(2, ii z1), (0, .ref 102), (1, ii (n : Int))]) (S' := [.ref 102]) dm_X12_worth_11 rfl rfl rfl rfl ?_
  refine me3 (pc' := 15) (S' := [.ref (102 + 20)]) dm_X12_worth_12 (q_getr hm rfl (fun m i l => rg_45 m i l)) rfl rfl rfl ?_
  refine me1 (pc' := 16) (L' := [(2, ii z1), (0, .ref 102), (1, ii (n : Int))]) (S' := [ii (n : Int), .ref (102 + 20)]) dm_X12_worth_15 rfl rfl rfl rfl ?_
  refine me3 (pc' := 17) (S' := [ii ((t1.2.2.1 45) n)]) dm_X12_worth_16 (q_iald (v := (t1.2.2.1 45) n) (k := 45) (n := 84000) hm (fun m i l I J => rc_45 m i l I J) (by omega) (by omega) (by decide) rfl) rfl rfl rfl ?_
  refine me1 (pc' := 18) (L' := [(3, ii ((t1.2.2.1 45) n)), (2, ii z1), (0, .ref 102), (1, ii (n : Int))]) (S' := []) dm_X12_worth_17 rfl rfl rfl rfl ?_
  exact pg_sub (L := [(0, .ref 102), (1, ii (n : Int)), (2, ii z1), (3, ii (t1.2.2.1 45 n))]) rfl rfl rfl (k t1 z1 hQ1)
theorem dm_X12_worth_18 : mj_dec prog_14_method_103_code 18 = some (.iload_n 3, 1) := by decide +kernel
theorem dm_X12_worth_19 : mj_dec prog_14_method_103_code 19 = some (.ifCond .lt 67, 3) := by decide +kernel
theorem dm_X12_worth_22 : mj_dec prog_14_method_103_code 22 = some (.aload_n 0, 1) := by decide +kernel
theorem dm_X12_worth_23 : mj_dec prog_14_method_103_code 23 = some (.getfield 181, 3) := by decide +kernel
theorem dm_X12_worth_26 : mj_dec prog_14_method_103_code 26 = some (.ifCond .ne 60, 3) := by decide +kernel
theorem dm_X12_worth_29 : mj_dec prog_14_method_103_code 29 = some (.aload_n 0, 1) := by decide +kernel
theorem dm_X12_worth_30 : mj_dec prog_14_method_103_code 30 = some (.getfield 78, 3) := by decide +kernel
theorem dm_X12_worth_33 : mj_dec prog_14_method_103_code 33 = some (.iload_n 3, 1) := by decide +kernel
theorem dm_X12_worth_34 : mj_dec prog_14_method_103_code 34 = some (.iaload, 1) := by decide +kernel
theorem dm_X12_worth_35 : mj_dec prog_14_method_103_code 35 = some (.ifCond .ge 7, 3) := by decide +kernel
theorem dm_X12_worth_38 : mj_dec prog_14_method_103_code 38 = some (.iconst (-1), 1) := by decide +kernel
theorem dm_X12_worth_39 : mj_dec prog_14_method_103_code 39 = some (.goto 13, 3) := by decide +kernel
theorem dm_X12_worth_52 : mj_dec prog_14_method_103_code 52 = some (.istore 4, 2) := by decide +kernel
theorem dm_X12_worth_54 : mj_dec prog_14_method_103_code 54 = some (.aload_n 0, 1) := by decide +kernel
theorem dm_X12_worth_55 : mj_dec prog_14_method_103_code 55 = some (.getfield 181, 3) := by decide +kernel
theorem dm_X12_worth_58 : mj_dec prog_14_method_103_code 58 = some (.ifCond .ne 18, 3) := by decide +kernel
theorem dm_X12_worth_61 : mj_dec prog_14_method_103_code 61 = some (.aload_n 0, 1) := by decide +kernel
theorem dm_X12_worth_62 : mj_dec prog_14_method_103_code 62 = some (.iload_n 3, 1) := by decide +kernel
theorem dm_X12_worth_63 : mj_dec prog_14_method_103_code 63 = some (.aload_n 0, 1) := by decide +kernel
theorem dm_X12_worth_64 : mj_dec prog_14_method_103_code 64 = some (.getfield 84, 3) := by decide +kernel
theorem dm_X12_worth_67 : mj_dec prog_14_method_103_code 67 = some (.iload_n 3, 1) := by decide +kernel
theorem dm_X12_worth_68 : mj_dec prog_14_method_103_code 68 = some (.iaload, 1) := by decide +kernel
theorem dm_X12_worth_69 : mj_dec prog_14_method_103_code 69 = some (.iload 4, 2) := by decide +kernel
theorem dm_X12_worth_71 : mj_dec prog_14_method_103_code 71 = some (.iload_n 2, 1) := by decide +kernel
theorem dm_X12_worth_72 : mj_dec prog_14_method_103_code 72 = some (.invokevirtual 544, 3) := by decide +kernel
theorem dm_X12_worth_75 : mj_dec prog_14_method_103_code 75 = some (.istore_n 2, 1) := by decide +kernel
theorem dm_X12_worth_76 : mj_dec prog_14_method_103_code 76 = some (.aload_n 0, 1) := by decide +kernel
theorem dm_X12_worth_77 : mj_dec prog_14_method_103_code 77 = some (.getfield 90, 3) := by decide +kernel
theorem dm_X12_worth_80 : mj_dec prog_14_method_103_code 80 = some (.iload_n 3, 1) := by decide +kernel
theorem dm_X12_worth_81 : mj_dec prog_14_method_103_code 81 = some (.iaload, 1) := by decide +kernel
theorem dm_X12_worth_82 : mj_dec prog_14_method_103_code 82 = some (.istore_n 3, 1) := by decide +kernel
theorem dm_X12_worth_83 : mj_dec prog_14_method_103_code 83 = some (.goto (-65), 3) := by decide +kernel
theorem w_act1 {xt : mj_X} {d : Nat} {pre post : mj_H} {t : RS} {P : Option Value → mj_H → Prop} (hm : pre.length = 102) {n a : Nat} {z : Int} (ha : a < 84000) (h5 : t.1 5 = 0) {Q1 : RS → Int → Prop} (hf : t.2.2.1 44 a = -1) (hc : pgV xt d 279 [.ref 102, ii (a : Int), ii (t.2.2.1 46 a), ii (-1), ii z] (rS pre post t) (RA pre post Q1)) (k : ∀ u y, Q1 u y → HW xt d pre post u n y (u.2.2.1 48 a) P) : HW xt d pre post t n z (a : Int) P := by
  refine me1 (pc' := 19) (L' := [(0, .ref 102), (1, ii (n : Int)), (2, ii z), (3, ii (a : Int))]) (S' := [ii (a : Int)]) dm_X12_worth_18 rfl rfl rfl rfl ?_
  refine y_1lt (a := (a : Int)) (t := 86) (pc' := 22) dm_X12_worth_19 rfl rfl (by omega) (fun hb1 => ?_) (fun hb1 => ?_)
  · exfalso; omega
  · refine me1 (pc' := 23) (L' := [(0, .ref 102), (1, ii (n : Int)), (2, ii z), (3, ii (a : Int))]) (S' := [.ref 102]) dm_X12_worth_22 rfl rfl rfl rfl ?_
    refine me3 (pc' := 26) (S' := [ii (t.1 5)]) dm_X12_worth_23 (q_geti (v := t.1 5) hm rfl (fun m i l => rg_5 m i l) rfl) rfl rfl rfl ?_
    refine y_1ne (a := t.1 5) (t := 86) (pc' := 29) dm_X12_worth_26 rfl rfl (by omega) (fun hb2 => ?_) (fun hb2 => ?_)
    · exfalso; omega
    · refine me1 (pc' := 30) (L' := [(0, .ref 102), (1, ii (n : Int)), (2, ii z), (3, ii (a : Int))]) (S' := [.ref 102]) dm_X12_worth_29 rfl rfl rfl rfl ?_
      refine me3 (pc' := 33) (S' := [.ref (102 + 19)]) dm_X12_worth_30 (q_getr hm rfl (fun m i l => rg_44 m i l)) rfl rfl rfl ?_
      refine me1 (pc' := 34) (L' := [(0, .ref 102), (1, ii (n : Int)), (2, ii z), (3, ii (a : Int))]) (S' := [ii (a : Int), .ref (102 + 19)]) dm_X12_worth_33 rfl rfl rfl rfl ?_
      refine me3 (pc' := 35) (S' := [ii ((t.2.2.1 44) a)]) dm_X12_worth_34 (q_iald (v := (t.2.2.1 44) a) (k := 44) (n := 84000) hm (fun m i l I J => rc_44 m i l I J) (by omega) (by omega) (by decide) rfl) rfl rfl rfl ?_
      refine y_1ge (a := (t.2.2.1 44) a) (t := 42) (pc' := 38) dm_X12_worth_35 rfl rfl (by omega) (fun hb3 => ?_) (fun hb3 => ?_)
      · exfalso; omega
      · refine me0 (pc' := 39) (S' := [ii (-1)]) dm_X12_worth_38 rfl rfl rfl rfl ?_
        refine me2 (pc' := 52) (S' := [ii (-1)]) dm_X12_worth_39 rfl rfl rfl ?_
        refine me1 (pc' := 54) (L' := [(4, ii (-1)), (0, .ref 102), (1, ii (n : Int)), (2, ii z), (3, ii (a : Int))]) (S' := []) dm_X12_worth_52 rfl rfl rfl rfl ?_
        refine me1 (pc' := 55) (L' := [(4, ii (-1)), (0, .ref 102), (1, ii (n : Int)), (2, ii z), (3, ii (a : Int))]) (S' := [.ref 102]) dm_X12_worth_54 rfl rfl rfl rfl ?_
        refine me3 (pc' := 58) (S' := [ii (t.1 5)]) dm_X12_worth_55 (q_geti (v := t.1 5) hm rfl (fun m i l => rg_5 m i l) rfl) rfl rfl rfl ?_
        refine y_1ne (a := t.1 5) (t := 76) (pc' := 61) dm_X12_worth_58 rfl rfl (by omega) (fun hb4 => ?_) (fun hb4 => ?_)
        · exfalso; omega
        · refine me1 (pc' := 62) (L' := [(4, ii (-1)), (0, .ref 102), (1, ii (n : Int)), (2, ii z), (3, ii (a : Int))]) (S' := [.ref 102]) dm_X12_worth_61 rfl rfl rfl rfl ?_
          refine me1 (pc' := 63) (L' := [(4, ii (-1)), (0, .ref 102), (1, ii (n : Int)), (2, ii z), (3, ii (a : Int))]) (S' := [ii (a : Int), .ref 102]) dm_X12_worth_62 rfl rfl rfl rfl ?_
          refine me1 (pc' := 64) (L' := [(4, ii (-1)), (0, .ref 102), (1, ii (n : Int)), (2, ii z), (3, ii (a : Int))]) (S' := [.ref 102, ii (a : Int), .ref 102]) dm_X12_worth_63 rfl rfl rfl rfl ?_
          refine me3 (pc' := 67) (S' := [.ref (102 + 21), ii (a : Int), .ref 102]) dm_X12_worth_64 (q_getr hm rfl (fun m i l => rg_46 m i l)) rfl rfl rfl ?_
          refine me1 (pc' := 68) (L' := [(4, ii (-1)), (0, .ref 102), (1, ii (n : Int)), (2, ii z), (3, ii (a : Int))]) (S' := [ii (a : Int), .ref (102 + 21), ii (a : Int), .ref 102]) dm_X12_worth_67 rfl rfl rfl rfl ?_
          refine me3 (pc' := 69) (S' := [ii ((t.2.2.1 46) a), ii (a : Int), .ref 102]) dm_X12_worth_68 (q_iald (v := (t.2.2.1 46) a) (k := 46) (n := 84000) hm (fun m i l I J => rc_46 m i l I J) (by omega) (by omega) (by decide) rfl) rfl rfl rfl ?_
          refine me1 (pc' := 71) (L' := [(4, ii (-1)), (0, .ref 102), (1, ii (n : Int)), (2, ii z), (3, ii (a : Int))]) (S' := [ii (-1), ii ((t.2.2.1 46) a), ii (a : Int), .ref 102]) dm_X12_worth_69 rfl rfl rfl rfl ?_
          refine me1 (pc' := 72) (L' := [(4, ii (-1)), (0, .ref 102), (1, ii (n : Int)), (2, ii z), (3, ii (a : Int))]) (S' := [ii z, ii (-1), ii ((t.2.2.1 46) a), ii (a : Int), .ref 102]) dm_X12_worth_71 rfl rfl rfl rfl ?_
          refine x_cv (pc' := 75) (rest := []) dm_X12_worth_72 rfl (q_inv (As := [ii (a : Int), ii ((t.2.2.1 46) a), ii (-1), ii z]) (S := []) hm rfl rfl rfl) rfl rfl rfl (hc) ?_
          rintro x1 g1 f1
          obtain ⟨t1, z1, rfl, rfl, hE1, hZ1, hQ1⟩ := f1
          refine me1 (pc' := 76) (L' := [(2, ii z1), (4, ii (-1)), (0, .ref 102), (1, ii (n : Int)), (3, ii (a : Int))]) (S' := []) dm_X12_worth_75 rfl rfl rfl rfl ?_
          refine me1 (pc' := 77) (L' := [(2, ii z1), (4, ii (-1)), (0, .ref 102), (1, ii (n : Int)), (3, ii (a : Int))]) (S' := [.ref 102]) dm_X12_worth_76 rfl rfl rfl rfl ?_
          refine me3 (pc' := 80) (S' := [.ref (102 + 23)]) dm_X12_worth_77 (q_getr hm rfl (fun m i l => rg_48 m i l)) rfl rfl rfl ?_
          refine me1 (pc' := 81) (L' := [(2, ii z1), (4, ii (-1)), (0, .ref 102), (1, ii (n : Int)), (3, ii (a : Int))]) (S' := [ii (a : Int), .ref (102 + 23)]) dm_X12_worth_80 rfl rfl rfl rfl ?_
          refine me3 (pc' := 82) (S' := [ii ((t1.2.2.1 48) a)]) dm_X12_worth_81 (q_iald (v := (t1.2.2.1 48) a) (k := 48) (n := 84000) hm (fun m i l I J => rc_48 m i l I J) (by omega) (by omega) (by decide) rfl) rfl rfl rfl ?_
          refine me1 (pc' := 83) (L' := [(3, ii ((t1.2.2.1 48) a)), (2, ii z1), (4, ii (-1)), (0, .ref 102), (1, ii (n : Int))]) (S' := []) dm_X12_worth_82 rfl rfl rfl rfl ?_
          refine me2 (pc' := 18) (S' := []) dm_X12_worth_83 rfl rfl rfl ?_
          exact pg_sub (L := [(0, .ref 102), (1, ii (n : Int)), (2, ii z1), (3, ii (t1.2.2.1 48 a))]) rfl rfl rfl (k t1 z1 hQ1)
theorem dm_X12_worth_42 : mj_dec prog_14_method_103_code 42 = some (.aload_n 0, 1) := by decide +kernel
theorem dm_X12_worth_43 : mj_dec prog_14_method_103_code 43 = some (.aload_n 0, 1) := by decide +kernel
theorem dm_X12_worth_44 : mj_dec prog_14_method_103_code 44 = some (.getfield 78, 3) := by decide +kernel
theorem dm_X12_worth_47 : mj_dec prog_14_method_103_code 47 = some (.iload_n 3, 1) := by decide +kernel
theorem dm_X12_worth_48 : mj_dec prog_14_method_103_code 48 = some (.iaload, 1) := by decide +kernel
theorem dm_X12_worth_49 : mj_dec prog_14_method_103_code 49 = some (.invokevirtual 541, 3) := by decide +kernel
theorem w_act2 {xt : mj_X} {d : Nat} {pre post : mj_H} {t : RS} {P : Option Value → mj_H → Prop} (hm : pre.length = 102) {n a : Nat} {z : Int} (ha : a < 84000) (h5 : t.1 5 = 0) {nn : Nat} {Q1 : RS → Int → Prop} {Q2 : RS → Int → RS → Int → Prop} (hf : t.2.2.1 44 a = (nn : Int)) (hnn : nn < 84000) (hc : pgV xt d 240 [.ref 102, ii (t.2.2.1 44 a)] (rS pre post t) (RA pre post Q1)) (hc2 : ∀ u y, Q1 u y → u.1 5 = 0 → pgV xt d 279 [.ref 102, ii (a : Int), ii (u.2.2.1 46 a), ii y, ii z] (rS pre post u) (RA pre post (Q2 u y))) (kE : ∀ u y, Q1 u y → 0 < u.1 5 → HW xt d pre post u n z (u.2.2.1 48 a) P) (k : ∀ u y u2 y2, Q1 u y → u.1 5 = 0 → Q2 u y u2 y2 → HW xt d pre post u2 n y2 (u2.2.2.1 48 a) P) : HW xt d pre post t n z (a : Int) P := by
  refine me1 (pc' := 19) (L' := [(0, .ref 102), (1, ii (n : Int)), (2, ii z), (3, ii (a : Int))]) (S' := [ii (a : Int)]) dm_X12_worth_18 rfl rfl rfl rfl ?_
  refine y_1lt (a := (a : Int)) (t := 86) (pc' := 22) dm_X12_worth_19 rfl rfl (by omega) (fun hb1 => ?_) (fun hb1 => ?_)
  · exfalso; omega
  · refine me1 (pc' := 23) (L' := [(0, .ref 102), (1, ii (n : Int)), (2, ii z), (3, ii (a : Int))]) (S' := [.ref 102]) dm_X12_worth_22 rfl rfl rfl rfl ?_
    refine me3 (pc' := 26) (S' := [ii (t.1 5)]) dm_X12_worth_23 (q_geti (v := t.1 5) hm rfl (fun m i l => rg_5 m i l) rfl) rfl rfl rfl ?_
    refine y_1ne (a := t.1 5) (t := 86) (pc' := 29) dm_X12_worth_26 rfl rfl (by omega) (fun hb2 => ?_) (fun hb2 => ?_)
    · exfalso; omega
    · refine me1 (pc' := 30) (L' := [(0, .ref 102), (1, ii (n : Int)), (2, ii z), (3, ii (a : Int))]) (S' := [.ref 102]) dm_X12_worth_29 rfl rfl rfl rfl ?_
      refine me3 (pc' := 33) (S' := [.ref (102 + 19)]) dm_X12_worth_30 (q_getr hm rfl (fun m i l => rg_44 m i l)) rfl rfl rfl ?_
      refine me1 (pc' := 34) (L' := [(0, .ref 102), (1, ii (n : Int)), (2, ii z), (3, ii (a : Int))]) (S' := [ii (a : Int), .ref (102 + 19)]) dm_X12_worth_33 rfl rfl rfl rfl ?_
      refine me3 (pc' := 35) (S' := [ii ((t.2.2.1 44) a)]) dm_X12_worth_34 (q_iald (v := (t.2.2.1 44) a) (k := 44) (n := 84000) hm (fun m i l I J => rc_44 m i l I J) (by omega) (by omega) (by decide) rfl) rfl rfl rfl ?_
      refine y_1ge (a := (t.2.2.1 44) a) (t := 42) (pc' := 38) dm_X12_worth_35 rfl rfl (by omega) (fun hb3 => ?_) (fun hb3 => ?_)
      · refine me1 (pc' := 43) (L' := [(0, .ref 102), (1, ii (n : Int)), (2, ii z), (3, ii (a : Int))]) (S' := [.ref 102]) dm_X12_worth_42 rfl rfl rfl rfl ?_
        refine me1 (pc' := 44) (L' := [(0, .ref 102), (1, ii (n : Int)), (2, ii z), (3, ii (a : Int))]) (S' := [.ref 102, .ref 102]) dm_X12_worth_43 rfl rfl rfl rfl ?_
        refine me3 (pc' := 47) (S' := [.ref (102 + 19), .ref 102]) dm_X12_worth_44 (q_getr hm rfl (fun m i l => rg_44 m i l)) rfl rfl rfl ?_
        refine me1 (pc' := 48) (L' := [(0, .ref 102), (1, ii (n : Int)), (2, ii z), (3, ii (a : Int))]) (S' := [ii (a : Int), .ref (102 + 19), .ref 102]) dm_X12_worth_47 rfl rfl rfl rfl ?_
        refine me3 (pc' := 49) (S' := [ii ((t.2.2.1 44) a), .ref 102]) dm_X12_worth_48 (q_iald (v := (t.2.2.1 44) a) (k := 44) (n := 84000) hm (fun m i l I J => rc_44 m i l I J) (by omega) (by omega) (by decide) rfl) rfl rfl rfl ?_
        refine x_cv (pc' := 52) (rest := []) dm_X12_worth_49 rfl (q_inv (As := [ii ((t.2.2.1 44) a)]) (S := []) hm rfl rfl rfl) rfl rfl rfl (hc) ?_
        rintro x1 g1 f1
        obtain ⟨t1, z1, rfl, rfl, hE1, hZ1, hQ1⟩ := f1
        refine me1 (pc' := 54) (L' := [(4, ii z1), (0, .ref 102), (1, ii (n : Int)), (2, ii z), (3, ii (a : Int))]) (S' := []) dm_X12_worth_52 rfl rfl rfl rfl ?_
        refine me1 (pc' := 55) (L' := [(4, ii z1), (0, .ref 102), (1, ii (n : Int)), (2, ii z), (3, ii (a : Int))]) (S' := [.ref 102]) dm_X12_worth_54 rfl rfl rfl rfl ?_
        refine me3 (pc' := 58) (S' := [ii (t1.1 5)]) dm_X12_worth_55 (q_geti (v := t1.1 5) hm rfl (fun m i l => rg_5 m i l) rfl) rfl rfl rfl ?_
        refine y_1ne (a := t1.1 5) (t := 76) (pc' := 61) dm_X12_worth_58 rfl rfl (by omega) (fun hb4 => ?_) (fun hb4 => ?_)
        · refine me1 (pc' := 77) (L' := [(4, ii z1), (0, .ref 102), (1, ii (n : Int)), (2, ii z), (3, ii (a : Int))]) (S' := [.ref 102]) dm_X12_worth_76 rfl rfl rfl rfl ?_
          refine me3 (pc' := 80) (S' := [.ref (102 + 23)]) dm_X12_worth_77 (q_getr hm rfl (fun m i l => rg_48 m i l)) rfl rfl rfl ?_
          refine me1 (pc' := 81) (L' := [(4, ii z1), (0, .ref 102), (1, ii (n : Int)), (2, ii z), (3, ii (a : Int))]) (S' := [ii (a : Int), .ref (102 + 23)]) dm_X12_worth_80 rfl rfl rfl rfl ?_
          refine me3 (pc' := 82) (S' := [ii ((t1.2.2.1 48) a)]) dm_X12_worth_81 (q_iald (v := (t1.2.2.1 48) a) (k := 48) (n := 84000) hm (fun m i l I J => rc_48 m i l I J) (by omega) (by omega) (by decide) rfl) rfl rfl rfl ?_
          refine me1 (pc' := 83) (L' := [(3, ii ((t1.2.2.1 48) a)), (4, ii z1), (0, .ref 102), (1, ii (n : Int)), (2, ii z)]) (S' := []) dm_X12_worth_82 rfl rfl rfl rfl ?_
          refine me2 (pc' := 18) (S' := []) dm_X12_worth_83 rfl rfl rfl ?_
          exact pg_sub (L := [(0, .ref 102), (1, ii (n : Int)), (2, ii z), (3, ii (t1.2.2.1 48 a))]) rfl rfl rfl (kE t1 z1 hQ1 (by omega))
        · refine me1 (pc' := 62) (L' := [(4, ii z1), (0, .ref 102), (1, ii (n : Int)), (2, ii z), (3, ii (a : Int))]) (S' := [.ref 102]) dm_X12_worth_61 rfl rfl rfl rfl ?_
          refine me1 (pc' := 63) (L' := [(4, ii z1), (0, .ref 102), (1, ii (n : Int)), (2, ii z), (3, ii (a : Int))]) (S' := [ii (a : Int), .ref 102]) dm_X12_worth_62 rfl rfl rfl rfl ?_
          refine me1 (pc' := 64) (L' := [(4, ii z1), (0, .ref 102), (1, ii (n : Int)), (2, ii z), (3, ii (a : Int))]) (S' := [.ref 102, ii (a : Int), .ref 102]) dm_X12_worth_63 rfl rfl rfl rfl ?_
          refine me3 (pc' := 67) (S' := [.ref (102 + 21), ii (a : Int), .ref 102]) dm_X12_worth_64 (q_getr hm rfl (fun m i l => rg_46 m i l)) rfl rfl rfl ?_
          refine me1 (pc' := 68) (L' := [(4, ii z1), (0, .ref 102), (1, ii (n : Int)), (2, ii z), (3, ii (a : Int))]) (S' := [ii (a : Int), .ref (102 + 21), ii (a : Int), .ref 102]) dm_X12_worth_67 rfl rfl rfl rfl ?_
          refine me3 (pc' := 69) (S' := [ii ((t1.2.2.1 46) a), ii (a : Int), .ref 102]) dm_X12_worth_68 (q_iald (v := (t1.2.2.1 46) a) (k := 46) (n := 84000) hm (fun m i l I J => rc_46 m i l I J) (by omega) (by omega) (by decide) rfl) rfl rfl rfl ?_
          refine me1 (pc' := 71) (L' := [(4, ii z1), (0, .ref 102), (1, ii (n : Int)), (2, ii z), (3, ii (a : Int))]) (S' := [ii z1, ii ((t1.2.2.1 46) a), ii (a : Int), .ref 102]) dm_X12_worth_69 rfl rfl rfl rfl ?_
          refine me1 (pc' := 72) (L' := [(4, ii z1), (0, .ref 102), (1, ii (n : Int)), (2, ii z), (3, ii (a : Int))]) (S' := [ii z, ii z1, ii ((t1.2.2.1 46) a), ii (a : Int), .ref 102]) dm_X12_worth_71 rfl rfl rfl rfl ?_
          refine x_cv (pc' := 75) (rest := []) dm_X12_worth_72 rfl (q_inv (As := [ii (a : Int), ii ((t1.2.2.1 46) a), ii z1, ii z]) (S := []) hm rfl rfl rfl) rfl rfl rfl (hc2 t1 z1 hQ1 (by omega)) ?_
          rintro x2 g2 f2
          obtain ⟨t2, z2, rfl, rfl, hE2, hZ2, hQ2⟩ := f2
          refine me1 (pc' := 76) (L' := [(2, ii z2), (4, ii z1), (0, .ref 102), (1, ii (n : Int)), (3, ii (a : Int))]) (S' := []) dm_X12_worth_75 rfl rfl rfl rfl ?_
          refine me1 (pc' := 77) (L' := [(2, ii z2), (4, ii z1), (0, .ref 102), (1, ii (n : Int)), (3, ii (a : Int))]) (S' := [.ref 102]) dm_X12_worth_76 rfl rfl rfl rfl ?_
          refine me3 (pc' := 80) (S' := [.ref (102 + 23)]) dm_X12_worth_77 (q_getr hm rfl (fun m i l => rg_48 m i l)) rfl rfl rfl ?_
          refine me1 (pc' := 81) (L' := [(2, ii z2), (4, ii z1), (0, .ref 102), (1, ii (n : Int)), (3, ii (a : Int))]) (S' := [ii (a : Int), .ref (102 + 23)]) dm_X12_worth_80 rfl rfl rfl rfl ?_
          refine me3 (pc' := 82) (S' := [ii ((t2.2.2.1 48) a)]) dm_X12_worth_81 (q_iald (v := (t2.2.2.1 48) a) (k := 48) (n := 84000) hm (fun m i l I J => rc_48 m i l I J) (by omega) (by omega) (by decide) rfl) rfl rfl rfl ?_
          refine me1 (pc' := 83) (L' := [(3, ii ((t2.2.2.1 48) a)), (2, ii z2), (4, ii z1), (0, .ref 102), (1, ii (n : Int))]) (S' := []) dm_X12_worth_82 rfl rfl rfl rfl ?_
          refine me2 (pc' := 18) (S' := []) dm_X12_worth_83 rfl rfl rfl ?_
          exact pg_sub (L := [(0, .ref 102), (1, ii (n : Int)), (2, ii z2), (3, ii (t2.2.2.1 48 a))]) rfl rfl rfl (k t1 z1 t2 z2 hQ1 (by omega) hQ2)
      · exfalso; omega
theorem dm_X12_worth_86 : mj_dec prog_14_method_103_code 86 = some (.aload_n 0, 1) := by decide +kernel
theorem dm_X12_worth_87 : mj_dec prog_14_method_103_code 87 = some (.getfield 181, 3) := by decide +kernel
theorem dm_X12_worth_90 : mj_dec prog_14_method_103_code 90 = some (.ifCond .le 7, 3) := by decide +kernel
theorem dm_X12_worth_97 : mj_dec prog_14_method_103_code 97 = some (.iload_n 2, 1) := by decide +kernel
theorem dm_X12_worth_98 : mj_dec prog_14_method_103_code 98 = some (.ireturn, 1) := by decide +kernel
theorem w_end {xt : mj_X} {d : Nat} {pre post : mj_H} {t : RS} {P : Option Value → mj_H → Prop} (hm : pre.length = 102) {n : Nat} {z x : Int} (hx : x = -1) (h5 : t.1 5 = 0) (k : P (some (ii z)) (rS pre post t)) : HW xt d pre post t n z x P := by
  refine me1 (pc' := 19) (L' := [(0, .ref 102), (1, ii (n : Int)), (2, ii z), (3, ii x)]) (S' := [ii x]) dm_X12_worth_18 rfl rfl rfl rfl ?_
  refine y_1lt (a := x) (t := 86) (pc' := 22) dm_X12_worth_19 rfl rfl (by omega) (fun hb1 => ?_) (fun hb1 => ?_)
  · refine me1 (pc' := 87) (L' := [(0, .ref 102), (1, ii (n : Int)), (2, ii z), (3, ii x)]) (S' := [.ref 102]) dm_X12_worth_86 rfl rfl rfl rfl ?_
    refine me3 (pc' := 90) (S' := [ii (t.1 5)]) dm_X12_worth_87 (q_geti (v := t.1 5) hm rfl (fun m i l => rg_5 m i l) rfl) rfl rfl rfl ?_
    refine y_1le (a := t.1 5) (t := 97) (pc' := 93) dm_X12_worth_90 rfl rfl (by omega) (fun hb2 => ?_) (fun hb2 => ?_)
    · refine me1 (pc' := 98) (L' := [(0, .ref 102), (1, ii (n : Int)), (2, ii z), (3, ii x)]) (S' := [ii z]) dm_X12_worth_97 rfl rfl rfl rfl ?_
      refine y_ret (r := some (ii z)) dm_X12_worth_98 rfl rfl rfl ?_
      exact k
    · exfalso; omega
  · exfalso; omega
theorem dm_X12_worth_93 : mj_dec prog_14_method_103_code 93 = some (.iconst (-1), 1) := by decide +kernel
theorem dm_X12_worth_94 : mj_dec prog_14_method_103_code 94 = some (.goto 4, 3) := by decide +kernel
theorem w_err {xt : mj_X} {d : Nat} {pre post : mj_H} {t : RS} {P : Option Value → mj_H → Prop} (hm : pre.length = 102) {n : Nat} {z x : Int} (hx : -1 ≤ x ∧ x ≤ 84000) (h5 : 0 < t.1 5 ∧ t.1 5 ≤ 100) (k : P (some (ii (-1))) (rS pre post t)) : HW xt d pre post t n z x P := by
  refine me1 (pc' := 19) (L' := [(0, .ref 102), (1, ii (n : Int)), (2, ii z), (3, ii x)]) (S' := [ii x]) dm_X12_worth_18 rfl rfl rfl rfl ?_
  refine y_1lt (a := x) (t := 86) (pc' := 22) dm_X12_worth_19 rfl rfl (by omega) (fun hb1 => ?_) (fun hb1 => ?_)
  · refine me1 (pc' := 87) (L' := [(0, .ref 102), (1, ii (n : Int)), (2, ii z), (3, ii x)]) (S' := [.ref 102]) dm_X12_worth_86 rfl rfl rfl rfl ?_
    refine me3 (pc' := 90) (S' := [ii (t.1 5)]) dm_X12_worth_87 (q_geti (v := t.1 5) hm rfl (fun m i l => rg_5 m i l) rfl) rfl rfl rfl ?_
    refine y_1le (a := t.1 5) (t := 97) (pc' := 93) dm_X12_worth_90 rfl rfl (by omega) (fun hb2 => ?_) (fun hb2 => ?_)
    · exfalso; omega
    · refine me0 (pc' := 94) (S' := [ii (-1)]) dm_X12_worth_93 rfl rfl rfl rfl ?_
      refine me2 (pc' := 98) (S' := [ii (-1)]) dm_X12_worth_94 rfl rfl rfl ?_
      refine y_ret (r := some (ii (-1))) dm_X12_worth_98 rfl rfl rfl ?_
      exact k
  · refine me1 (pc' := 23) (L' := [(0, .ref 102), (1, ii (n : Int)), (2, ii z), (3, ii x)]) (S' := [.ref 102]) dm_X12_worth_22 rfl rfl rfl rfl ?_
    refine me3 (pc' := 26) (S' := [ii (t.1 5)]) dm_X12_worth_23 (q_geti (v := t.1 5) hm rfl (fun m i l => rg_5 m i l) rfl) rfl rfl rfl ?_
    refine y_1ne (a := t.1 5) (t := 86) (pc' := 29) dm_X12_worth_26 rfl rfl (by omega) (fun hb3 => ?_) (fun hb3 => ?_)
    · refine me1 (pc' := 87) (L' := [(0, .ref 102), (1, ii (n : Int)), (2, ii z), (3, ii x)]) (S' := [.ref 102]) dm_X12_worth_86 rfl rfl rfl rfl ?_
      refine me3 (pc' := 90) (S' := [ii (t.1 5)]) dm_X12_worth_87 (q_geti (v := t.1 5) hm rfl (fun m i l => rg_5 m i l) rfl) rfl rfl rfl ?_
      refine y_1le (a := t.1 5) (t := 97) (pc' := 93) dm_X12_worth_90 rfl rfl (by omega) (fun hb4 => ?_) (fun hb4 => ?_)
      · exfalso; omega
      · refine me0 (pc' := 94) (S' := [ii (-1)]) dm_X12_worth_93 rfl rfl rfl rfl ?_
        refine me2 (pc' := 98) (S' := [ii (-1)]) dm_X12_worth_94 rfl rfl rfl ?_
        refine y_ret (r := some (ii (-1))) dm_X12_worth_98 rfl rfl rfl ?_
        exact k
    · exfalso; omega
set_option maxRecDepth 20000 in
theorem pm_X12_nounWorth : mj_mmof pg_ms 240 = some ((⟨"ArrayCalculatorModel", "nounWorth", "(I)I"⟩, prog_14_method_104_code, 3, (Option.some Jvm.ClassFile.FieldType.int)), 12, false, mj_dec prog_14_method_104_code) := rfl
theorem dm_X12_nounWorth_0 : mj_dec prog_14_method_104_code 0 = some (.aload_n 0, 1) := by decide +kernel
theorem dm_X12_nounWorth_1 : mj_dec prog_14_method_104_code 1 = some (.getfield 75, 3) := by decide +kernel
theorem dm_X12_nounWorth_4 : mj_dec prog_14_method_104_code 4 = some (.iload_n 1, 1) := by decide +kernel
theorem dm_X12_nounWorth_5 : mj_dec prog_14_method_104_code 5 = some (.iaload, 1) := by decide +kernel
theorem dm_X12_nounWorth_6 : mj_dec prog_14_method_104_code 6 = some (.tableswitch 131 1 4 #[30, 37, 54, 60], 30) := by decide +kernel
theorem dm_X12_nounWorth_36 : mj_dec prog_14_method_104_code 36 = some (.aload_n 0, 1) := by decide +kernel
theorem dm_X12_nounWorth_37 : mj_dec prog_14_method_104_code 37 = some (.getfield 78, 3) := by decide +kernel
theorem dm_X12_nounWorth_40 : mj_dec prog_14_method_104_code 40 = some (.iload_n 1, 1) := by decide +kernel
theorem dm_X12_nounWorth_41 : mj_dec prog_14_method_104_code 41 = some (.iaload, 1) := by decide +kernel
theorem dm_X12_nounWorth_42 : mj_dec prog_14_method_104_code 42 = some (.ireturn, 1) := by decide +kernel
theorem n_val {xt : mj_X} {d : Nat} {pre post : mj_H} {t : RS} (hm : pre.length = 102) (hd1 : 1 ≤ d) {n : Nat} {Q : RS → Int → Prop} (hn : n < 84000) {q : Nat} (hw : t.2.2.1 43 n = 1) (hq : t.2.2.1 44 n = (q : Int)) (hq2 : q ≤ 310000) (h5 : 0 ≤ t.1 5 ∧ t.1 5 ≤ 100) (k : Q t (q : Int)) : pgV xt d 240 [.ref 102, ii (n : Int)] (rS pre post t) (RA pre post Q) := by
  refine x_enter pm_X12_nounWorth (L0 := [(0, .ref 102), (1, ii (n : Int))]) rfl (Nat.le_of_ble_eq_true rfl) (by omega) ?_
  refine me1 (pc' := 1) (L' := [(0, .ref 102), (1, ii (n : Int))]) (S' := [.ref 102]) dm_X12_nounWorth_0 rfl rfl rfl rfl ?_
  refine me3 (pc' := 4) (S' := [.ref (102 + 18)]) dm_X12_nounWorth_1 (q_getr hm rfl (fun m i l => rg_43 m i l)) rfl rfl rfl ?_
  refine me1 (pc' := 5) (L' := [(0, .ref 102), (1, ii (n : Int))]) (S' := [ii (n : Int), .ref (102 + 18)]) dm_X12_nounWorth_4 rfl rfl rfl rfl ?_
  refine me3 (pc' := 6) (S' := [ii ((t.2.2.1 43) n)]) dm_X12_nounWorth_5 (q_iald (v := (t.2.2.1 43) n) (k := 43) (n := 84000) hm (fun m i l I J => rc_43 m i l I J) (by omega) (by omega) (by decide) rfl) rfl rfl rfl ?_
  refine y_sw (a := (t.2.2.1 43) n) (1) (t := 36) (i := .tableswitch 131 1 4 #[30, 37, 54, 60]) (len := 30) dm_X12_nounWorth_6 rfl rfl rfl (by omega) (by decide) (fun hb1 => ?_) (fun hb1 => ?_)
  · refine me1 (pc' := 37) (L' := [(0, .ref 102), (1, ii (n : Int))]) (S' := [.ref 102]) dm_X12_nounWorth_36 rfl rfl rfl rfl ?_
    refine me3 (pc' := 40) (S' := [.ref (102 + 19)]) dm_X12_nounWorth_37 (q_getr hm rfl (fun m i l => rg_44 m i l)) rfl rfl rfl ?_
    refine me1 (pc' := 41) (L' := [(0, .ref 102), (1, ii (n : Int))]) (S' := [ii (n : Int), .ref (102 + 19)]) dm_X12_nounWorth_40 rfl rfl rfl rfl ?_
    refine me3 (pc' := 42) (S' := [ii ((t.2.2.1 44) n)]) dm_X12_nounWorth_41 (q_iald (v := (t.2.2.1 44) n) (k := 44) (n := 84000) hm (fun m i l I J => rc_44 m i l I J) (by omega) (by omega) (by decide) rfl) rfl rfl rfl ?_
    refine pg_st (S' := [ii (q : Int)]) (congrArg (fun z => ii z :: []) (hq)) ?_
    refine y_ret (r := some (ii (q : Int))) dm_X12_nounWorth_42 rfl rfl rfl ?_
    exact ⟨_, rfl, _, _, rfl, rfl, h5, by omega, k⟩
  refine y_sw (a := (t.2.2.1 43) n) (2) (t := 43) (i := .tableswitch 131 1 4 #[30, 37, 54, 60]) (len := 30) dm_X12_nounWorth_6 rfl rfl rfl (by omega) (by decide) (fun hb2 => ?_) (fun hb2 => ?_)
  · exfalso; omega
  refine y_sw (a := (t.2.2.1 43) n) (3) (t := 60) (i := .tableswitch 131 1 4 #[30, 37, 54, 60]) (len := 30) dm_X12_nounWorth_6 rfl rfl rfl (by omega) (by decide) (fun hb3 => ?_) (fun hb3 => ?_)
  · exfalso; omega
  refine y_sw (a := (t.2.2.1 43) n) (4) (t := 66) (i := .tableswitch 131 1 4 #[30, 37, 54, 60]) (len := 30) dm_X12_nounWorth_6 rfl rfl rfl (by omega) (by decide) (fun hb4 => ?_) (fun hb4 => ?_)
  · exfalso; omega
  exfalso; omega
theorem dm_X12_nounWorth_43 : mj_dec prog_14_method_104_code 43 = some (.aload_n 0, 1) := by decide +kernel
theorem dm_X12_nounWorth_44 : mj_dec prog_14_method_104_code 44 = some (.aload_n 0, 1) := by decide +kernel
theorem dm_X12_nounWorth_45 : mj_dec prog_14_method_104_code 45 = some (.getfield 93, 3) := by decide +kernel
theorem dm_X12_nounWorth_48 : mj_dec prog_14_method_104_code 48 = some (.iload_n 1, 1) := by decide +kernel
theorem dm_X12_nounWorth_49 : mj_dec prog_14_method_104_code 49 = some (.laload, 1) := by decide +kernel
theorem dm_X12_nounWorth_50 : mj_dec prog_14_method_104_code 50 = some (.aload_n 0, 1) := by decide +kernel
theorem dm_X12_nounWorth_51 : mj_dec prog_14_method_104_code 51 = some (.getfield 87, 3) := by decide +kernel
theorem dm_X12_nounWorth_54 : mj_dec prog_14_method_104_code 54 = some (.iload_n 1, 1) := by decide +kernel
theorem dm_X12_nounWorth_55 : mj_dec prog_14_method_104_code 55 = some (.iaload, 1) := by decide +kernel
theorem dm_X12_nounWorth_56 : mj_dec prog_14_method_104_code 56 = some (.invokevirtual 547, 3) := by decide +kernel
theorem dm_X12_nounWorth_59 : mj_dec prog_14_method_104_code 59 = some (.ireturn, 1) := by decide +kernel
theorem n_name {xt : mj_X} {d : Nat} {pre post : mj_H} {t : RS} (hm : pre.length = 102) (hd1 : 1 ≤ d) {n : Nat} {Q : RS → Int → Prop} (hn : n < 84000) (hw : t.2.2.1 43 n = 2) (hc : pgV xt (d - 1) 241 [.ref 102, .long (t.2.2.2 49 n), ii (t.2.2.1 47 n)] (rS pre post t) (RA pre post Q)) : pgV xt d 240 [.ref 102, ii (n : Int)] (rS pre post t) (RA pre post Q) := by
  refine x_enter pm_X12_nounWorth (L0 := [(0, .ref 102), (1, ii (n : Int))]) rfl (Nat.le_of_ble_eq_true rfl) (by omega) ?_
  refine me1 (pc' := 1) (L' := [(0, .ref 102), (1, ii (n : Int))]) (S' := [.ref 102]) dm_X12_nounWorth_0 rfl rfl rfl rfl ?_
  refine me3 (pc' := 4) (S' := [.ref (102 + 18)]) dm_X12_nounWorth_1 (q_getr hm rfl (fun m i l => rg_43 m i l)) rfl rfl rfl ?_
  refine me1 (pc' := 5) (L' := [(0, .ref 102), (1, ii (n : Int))]) (S' := [ii (n : Int), .ref (102 + 18)]) dm_X12_nounWorth_4 rfl rfl rfl rfl ?_
  refine me3 (pc' := 6) (S' := [ii ((t.2.2.1 43) n)]) dm_X12_nounWorth_5 (q_iald (v := (t.2.2.1 43) n) (k := 43) (n := 84000) hm (fun m i l I J => rc_43 m i l I J) (by omega) (by omega) (by decide) rfl) rfl rfl rfl ?_
  refine y_sw (a := (t.2.2.1 43) n) (1) (t := 36) (i := .tableswitch 131 1 4 #[30, 37, 54, 60]) (len := 30) dm_X12_nounWorth_6 rfl rfl rfl (by omega) (by decide) (fun hb1 => ?_) (fun hb1 => ?_)
  · exfalso; omega
  refine y_sw (a := (t.2.2.1 43) n) (2) (t := 43) (i := .tableswitch 131 1 4 #[30, 37, 54, 60]) (len := 30) dm_X12_nounWorth_6 rfl rfl rfl (by omega) (by decide) (fun hb2 => ?_) (fun hb2 => ?_)
  · refine me1 (pc' := 44) (L' := [(0, .ref 102), (1, ii (n : Int))]) (S' := [.ref 102]) dm_X12_nounWorth_43 rfl rfl rfl rfl ?_
    refine me1 (pc' := 45) (L' := [(0, .ref 102), (1, ii (n : Int))]) (S' := [.ref 102, .ref 102]) dm_X12_nounWorth_44 rfl rfl rfl rfl ?_
    refine me3 (pc' := 48) (S' := [.ref (102 + 24), .ref 102]) dm_X12_nounWorth_45 (q_getr hm rfl (fun m i l => rg_49 m i l)) rfl rfl rfl ?_
    refine me1 (pc' := 49) (L' := [(0, .ref 102), (1, ii (n : Int))]) (S' := [ii (n : Int), .ref (102 + 24), .ref 102]) dm_X12_nounWorth_48 rfl rfl rfl rfl ?_
    refine me3 (pc' := 50) (S' := [.long ((t.2.2.2 49) n), .ref 102]) dm_X12_nounWorth_49 (q_lald (v := (t.2.2.2 49) n) (k := 49) (n := 84000) hm (fun m i l I J => rc_49 m i l I J) (by omega) (by omega) (by decide) rfl) rfl rfl rfl ?_
    refine me1 (pc' := 51) (L' := [(0, .ref 102), (1, ii (n : Int))]) (S' := [.ref 102, .long ((t.2.2.2 49) n), .ref 102]) dm_X12_nounWorth_50 rfl rfl rfl rfl ?_
    refine me3 (pc' := 54) (S' := [.ref (102 + 22), .long ((t.2.2.2 49) n), .ref 102]) dm_X12_nounWorth_51 (q_getr hm rfl (fun m i l => rg_47 m i l)) rfl rfl rfl ?_
    refine me1 (pc' := 55) (L' := [(0, .ref 102), (1, ii (n : Int))]) (S' := [ii (n : Int), .ref (102 + 22), .long ((t.2.2.2 49) n), .ref 102]) dm_X12_nounWorth_54 rfl rfl rfl rfl ?_
    refine me3 (pc' := 56) (S' := [ii ((t.2.2.1 47) n), .long ((t.2.2.2 49) n), .ref 102]) dm_X12_nounWorth_55 (q_iald (v := (t.2.2.1 47) n) (k := 47) (n := 84000) hm (fun m i l I J => rc_47 m i l I J) (by omega) (by omega) (by decide) rfl) rfl rfl rfl ?_
    refine x_cv (pc' := 59) (rest := []) dm_X12_nounWorth_56 rfl (q_inv (As := [.long ((t.2.2.2 49) n), ii ((t.2.2.1 47) n)]) (S := []) hm rfl rfl rfl) rfl rfl rfl (hc) ?_
    rintro x1 g1 f1
    obtain ⟨t1, z1, rfl, rfl, hE1, hZ1, hQ1⟩ := f1
    refine y_ret (r := some (ii z1)) dm_X12_nounWorth_59 rfl rfl rfl ?_
    exact ⟨_, rfl, _, _, rfl, rfl, hE1, hZ1, hQ1⟩
  refine y_sw (a := (t.2.2.1 43) n) (3) (t := 60) (i := .tableswitch 131 1 4 #[30, 37, 54, 60]) (len := 30) dm_X12_nounWorth_6 rfl rfl rfl (by omega) (by decide) (fun hb3 => ?_) (fun hb3 => ?_)
  · exfalso; omega
  refine y_sw (a := (t.2.2.1 43) n) (4) (t := 66) (i := .tableswitch 131 1 4 #[30, 37, 54, 60]) (len := 30) dm_X12_nounWorth_6 rfl rfl rfl (by omega) (by decide) (fun hb4 => ?_) (fun hb4 => ?_)
  · exfalso; omega
  exfalso; omega
theorem dm_X12_nounWorth_60 : mj_dec prog_14_method_104_code 60 = some (.aload_n 0, 1) := by decide +kernel
theorem dm_X12_nounWorth_61 : mj_dec prog_14_method_104_code 61 = some (.iload_n 1, 1) := by decide +kernel
theorem dm_X12_nounWorth_62 : mj_dec prog_14_method_104_code 62 = some (.invokevirtual 551, 3) := by decide +kernel
theorem dm_X12_nounWorth_65 : mj_dec prog_14_method_104_code 65 = some (.ireturn, 1) := by decide +kernel
theorem n_list {xt : mj_X} {d : Nat} {pre post : mj_H} {t : RS} (hm : pre.length = 102) (hd1 : 1 ≤ d) {n : Nat} {Q : RS → Int → Prop} (hn : n < 84000) (hw : t.2.2.1 43 n = 3) (hc : pgV xt (d - 1) 242 [.ref 102, ii (n : Int)] (rS pre post t) (RA pre post Q)) : pgV xt d 240 [.ref 102, ii (n : Int)] (rS pre post t) (RA pre post Q) := by
  refine x_enter pm_X12_nounWorth (L0 := [(0, .ref 102), (1, ii (n : Int))]) rfl (Nat.le_of_ble_eq_true rfl) (by omega) ?_
  refine me1 (pc' := 1) (L' := [(0, .ref 102), (1, ii (n : Int))]) (S' := [.ref 102]) dm_X12_nounWorth_0 rfl rfl rfl rfl ?_
  refine me3 (pc' := 4) (S' := [.ref (102 + 18)]) dm_X12_nounWorth_1 (q_getr hm rfl (fun m i l => rg_43 m i l)) rfl rfl rfl ?_
  refine me1 (pc' := 5) (L' := [(0, .ref 102), (1, ii (n : Int))]) (S' := [ii (n : Int), .ref (102 + 18)]) dm_X12_nounWorth_4 rfl rfl rfl rfl ?_
  refine me3 (pc' := 6) (S' := [ii ((t.2.2.1 43) n)]) dm_X12_nounWorth_5 (q_iald (v := (t.2.2.1 43) n) (k := 43) (n := 84000) hm (fun m i l I J => rc_43 m i l I J) (by omega) (by omega) (by decide) rfl) rfl rfl rfl ?_
  refine y_sw (a := (t.2.2.1 43) n) (1) (t := 36) (i := .tableswitch 131 1 4 #[30, 37, 54, 60]) (len := 30) dm_X12_nounWorth_6 rfl rfl rfl (by omega) (by decide) (fun hb1 => ?_) (fun hb1 => ?_)
  · exfalso; omega
  refine y_sw (a := (t.2.2.1 43) n) (2) (t := 43) (i := .tableswitch 131 1 4 #[30, 37, 54, 60]) (len := 30) dm_X12_nounWorth_6 rfl rfl rfl (by omega) (by decide) (fun hb2 => ?_) (fun hb2 => ?_)
  · exfalso; omega
  refine y_sw (a := (t.2.2.1 43) n) (3) (t := 60) (i := .tableswitch 131 1 4 #[30, 37, 54, 60]) (len := 30) dm_X12_nounWorth_6 rfl rfl rfl (by omega) (by decide) (fun hb3 => ?_) (fun hb3 => ?_)
  · refine me1 (pc' := 61) (L' := [(0, .ref 102), (1, ii (n : Int))]) (S' := [.ref 102]) dm_X12_nounWorth_60 rfl rfl rfl rfl ?_
    refine me1 (pc' := 62) (L' := [(0, .ref 102), (1, ii (n : Int))]) (S' := [ii (n : Int), .ref 102]) dm_X12_nounWorth_61 rfl rfl rfl rfl ?_
    refine x_cv (pc' := 65) (rest := []) dm_X12_nounWorth_62 rfl (q_inv (As := [ii (n : Int)]) (S := []) hm rfl rfl rfl) rfl rfl rfl (hc) ?_
    rintro x1 g1 f1
    obtain ⟨t1, z1, rfl, rfl, hE1, hZ1, hQ1⟩ := f1
    refine y_ret (r := some (ii z1)) dm_X12_nounWorth_65 rfl rfl rfl ?_
    exact ⟨_, rfl, _, _, rfl, rfl, hE1, hZ1, hQ1⟩
  refine y_sw (a := (t.2.2.1 43) n) (4) (t := 66) (i := .tableswitch 131 1 4 #[30, 37, 54, 60]) (len := 30) dm_X12_nounWorth_6 rfl rfl rfl (by omega) (by decide) (fun hb4 => ?_) (fun hb4 => ?_)
  · exfalso; omega
  exfalso; omega
theorem dm_X12_nounWorth_137 : mj_dec prog_14_method_104_code 137 = some (.aload_n 0, 1) := by decide +kernel
theorem dm_X12_nounWorth_138 : mj_dec prog_14_method_104_code 138 = some (.iload_n 1, 1) := by decide +kernel
theorem dm_X12_nounWorth_139 : mj_dec prog_14_method_104_code 139 = some (.invokevirtual 554, 3) := by decide +kernel
theorem dm_X12_nounWorth_142 : mj_dec prog_14_method_104_code 142 = some (.ireturn, 1) := by decide +kernel
theorem n_plc {xt : mj_X} {d : Nat} {pre post : mj_H} {t : RS} (hm : pre.length = 102) (hd1 : 1 ≤ d) {n : Nat} {Q : RS → Int → Prop} (hn : n < 84000) (hw : t.2.2.1 43 n = 5) (hc : pgV xt (d - 1) 254 [.ref 102, ii (n : Int)] (rS pre post t) (RA pre post Q)) : pgV xt d 240 [.ref 102, ii (n : Int)] (rS pre post t) (RA pre post Q) := by
  refine x_enter pm_X12_nounWorth (L0 := [(0, .ref 102), (1, ii (n : Int))]) rfl (Nat.le_of_ble_eq_true rfl) (by omega) ?_
  refine me1 (pc' := 1) (L' := [(0, .ref 102), (1, ii (n : Int))]) (S' := [.ref 102]) dm_X12_nounWorth_0 rfl rfl rfl rfl ?_
  refine me3 (pc' := 4) (S' := [.ref (102 + 18)]) dm_X12_nounWorth_1 (q_getr hm rfl (fun m i l => rg_43 m i l)) rfl rfl rfl ?_
  refine me1 (pc' := 5) (L' := [(0, .ref 102), (1, ii (n : Int))]) (S' := [ii (n : Int), .ref (102 + 18)]) dm_X12_nounWorth_4 rfl rfl rfl rfl ?_
  refine me3 (pc' := 6) (S' := [ii ((t.2.2.1 43) n)]) dm_X12_nounWorth_5 (q_iald (v := (t.2.2.1 43) n) (k := 43) (n := 84000) hm (fun m i l I J => rc_43 m i l I J) (by omega) (by omega) (by decide) rfl) rfl rfl rfl ?_
  refine y_sw (a := (t.2.2.1 43) n) (1) (t := 36) (i := .tableswitch 131 1 4 #[30, 37, 54, 60]) (len := 30) dm_X12_nounWorth_6 rfl rfl rfl (by omega) (by decide) (fun hb1 => ?_) (fun hb1 => ?_)
  · exfalso; omega
  refine y_sw (a := (t.2.2.1 43) n) (2) (t := 43) (i := .tableswitch 131 1 4 #[30, 37, 54, 60]) (len := 30) dm_X12_nounWorth_6 rfl rfl rfl (by omega) (by decide) (fun hb2 => ?_) (fun hb2 => ?_)
  · exfalso; omega
  refine y_sw (a := (t.2.2.1 43) n) (3) (t := 60) (i := .tableswitch 131 1 4 #[30, 37, 54, 60]) (len := 30) dm_X12_nounWorth_6 rfl rfl rfl (by omega) (by decide) (fun hb3 => ?_) (fun hb3 => ?_)
  · exfalso; omega
  refine y_sw (a := (t.2.2.1 43) n) (4) (t := 66) (i := .tableswitch 131 1 4 #[30, 37, 54, 60]) (len := 30) dm_X12_nounWorth_6 rfl rfl rfl (by omega) (by decide) (fun hb4 => ?_) (fun hb4 => ?_)
  · exfalso; omega
  refine me2 (pc' := 137) (S' := []) dm_X12_nounWorth_6 (sw_tdef [Int32.ofInt 1, Int32.ofInt 2, Int32.ofInt 3, Int32.ofInt 4] rfl rfl rfl ⟨y_no (by omega) (by decide) hb1, y_no (by omega) (by decide) hb2, y_no (by omega) (by decide) hb3, y_no (by omega) (by decide) hb4, trivial⟩) rfl rfl ?_
  refine me1 (pc' := 138) (L' := [(0, .ref 102), (1, ii (n : Int))]) (S' := [.ref 102]) dm_X12_nounWorth_137 rfl rfl rfl rfl ?_
  refine me1 (pc' := 139) (L' := [(0, .ref 102), (1, ii (n : Int))]) (S' := [ii (n : Int), .ref 102]) dm_X12_nounWorth_138 rfl rfl rfl rfl ?_
  refine x_cv (pc' := 142) (rest := []) dm_X12_nounWorth_139 rfl (q_inv (As := [ii (n : Int)]) (S := []) hm rfl rfl rfl) rfl rfl rfl (hc) ?_
  rintro x1 g1 f1
  obtain ⟨t1, z1, rfl, rfl, hE1, hZ1, hQ1⟩ := f1
  refine y_ret (r := some (ii z1)) dm_X12_nounWorth_142 rfl rfl rfl ?_
  exact ⟨_, rfl, _, _, rfl, rfl, hE1, hZ1, hQ1⟩
theorem dm_X12_nounWorth_66 : mj_dec prog_14_method_104_code 66 = some (.aload_n 0, 1) := by decide +kernel
theorem dm_X12_nounWorth_67 : mj_dec prog_14_method_104_code 67 = some (.aload_n 0, 1) := by decide +kernel
theorem dm_X12_nounWorth_68 : mj_dec prog_14_method_104_code 68 = some (.getfield 78, 3) := by decide +kernel
theorem dm_X12_nounWorth_71 : mj_dec prog_14_method_104_code 71 = some (.iload_n 1, 1) := by decide +kernel
theorem dm_X12_nounWorth_72 : mj_dec prog_14_method_104_code 72 = some (.iaload, 1) := by decide +kernel
theorem dm_X12_nounWorth_73 : mj_dec prog_14_method_104_code 73 = some (.invokevirtual 523, 3) := by decide +kernel
theorem dm_X12_nounWorth_76 : mj_dec prog_14_method_104_code 76 = some (.istore_n 2, 1) := by decide +kernel
theorem dm_X12_nounWorth_77 : mj_dec prog_14_method_104_code 77 = some (.aload_n 0, 1) := by decide +kernel
theorem dm_X12_nounWorth_78 : mj_dec prog_14_method_104_code 78 = some (.getfield 181, 3) := by decide +kernel
theorem dm_X12_nounWorth_81 : mj_dec prog_14_method_104_code 81 = some (.ifCond .le 5, 3) := by decide +kernel
theorem dm_X12_nounWorth_84 : mj_dec prog_14_method_104_code 84 = some (.iconst (-1), 1) := by decide +kernel
theorem dm_X12_nounWorth_85 : mj_dec prog_14_method_104_code 85 = some (.ireturn, 1) := by decide +kernel
theorem n_chE {xt : mj_X} {d : Nat} {pre post : mj_H} {t : RS} (hm : pre.length = 102) (hd1 : 1 ≤ d) {n : Nat} {Q : RS → Int → Prop} (hn : n < 84000) {Q1 : RS → Int → Prop} (hw : t.2.2.1 43 n = 4) (hc : pgV xt (d - 1) 239 [.ref 102, ii (t.2.2.1 44 n)] (rS pre post t) (RA pre post Q1)) (h5 : ∀ u y, Q1 u y → 0 < u.1 5) (k : ∀ u y, Q1 u y → Q u (-1)) : pgV xt d 240 [.ref 102, ii (n : Int)] (rS pre post t) (RA pre post Q) := by
  refine x_enter pm_X12_nounWorth (L0 := [(0, .ref 102), (1, ii (n : Int))]) rfl (Nat.le_of_ble_eq_true rfl) (by omega) ?_
  refine me1 (pc' := 1) (L' := [(0, .ref 102), (1, ii (n : Int))]) (S' := [.ref 102]) dm_X12_nounWorth_0 rfl rfl rfl rfl ?_
  refine me3 (pc' := 4) (S' := [.ref (102 + 18)]) dm_X12_nounWorth_1 (q_getr hm rfl (fun m i l => rg_43 m i l)) rfl rfl rfl ?_
  refine me1 (pc' := 5) (L' := [(0, .ref 102), (1, ii (n : Int))]) (S' := [ii (n : Int), .ref (102 + 18)]) dm_X12_nounWorth_4 rfl rfl rfl rfl ?_
  refine me3 (pc' := 6) (S' := [ii ((t.2.2.1 43) n)]) dm_X12_nounWorth_5 (q_iald (v := (t.2.2.1 43) n) (k := 43) (n := 84000) hm (fun m i l I J => rc_43 m i l I J) (by omega) (by omega) (by decide) rfl) rfl rfl rfl ?_
  refine y_sw (a := (t.2.2.1 43) n) (1) (t := 36) (i := .tableswitch 131 1 4 #[30, 37, 54, 60]) (len := 30) dm_X12_nounWorth_6 rfl rfl rfl (by omega) (by decide) (fun hb1 => ?_) (fun hb1 => ?_)
  · exfalso; omega
  refine y_sw (a := (t.2.2.1 43) n) (2) (t := 43) (i := .tableswitch 131 1 4 #[30, 37, 54, 60]) (len := 30) dm_X12_nounWorth_6 rfl rfl rfl (by omega) (by decide) (fun hb2 => ?_) (fun hb2 => ?_)
  · exfalso; omega
  refine y_sw (a := (t.2.2.1 43) n) (3) (t := 60) (i := .tableswitch 131 1 4 #[30, 37, 54, 60]) (len := 30) dm_X12_nounWorth_6 rfl rfl rfl (by omega) (by decide) (fun hb3 => ?_) (fun hb3 => ?_)
  · exfalso; omega
  refine y_sw (a := (t.2.2.1 43) n) (4) (t := 66) (i := .tableswitch 131 1 4 #[30, 37, 54, 60]) (len := 30) dm_X12_nounWorth_6 rfl rfl rfl (by omega) (by decide) (fun hb4 => ?_) (fun hb4 => ?_)
  · refine me1 (pc' := 67) (L' := [(0, .ref 102), (1, ii (n : Int))]) (S' := [.ref 102]) dm_X12_nounWorth_66 rfl rfl rfl rfl ?_
    refine me1 (pc' := 68) (L' := [(0, .ref 102), (1, ii (n : Int))]) (S' := [.ref 102, .ref 102]) dm_X12_nounWorth_67 rfl rfl rfl rfl ?_
    refine me3 (pc' := 71) (S' := [.ref (102 + 19), .ref 102]) dm_X12_nounWorth_68 (q_getr hm rfl (fun m i l => rg_44 m i l)) rfl rfl rfl ?_
    refine me1 (pc' := 72) (L' := [(0, .ref 102), (1, ii (n : Int))]) (S' := [ii (n : Int), .ref (102 + 19), .ref 102]) dm_X12_nounWorth_71 rfl rfl rfl rfl ?_
    refine me3 (pc' := 73) (S' := [ii ((t.2.2.1 44) n), .ref 102]) dm_X12_nounWorth_72 (q_iald (v := (t.2.2.1 44) n) (k := 44) (n := 84000) hm (fun m i l I J => rc_44 m i l I J) (by omega) (by omega) (by decide) rfl) rfl rfl rfl ?_
    refine x_cv (pc' := 76) (rest := []) dm_X12_nounWorth_73 rfl (q_inv (As := [ii ((t.2.2.1 44) n)]) (S := []) hm rfl rfl rfl) rfl rfl rfl (hc) ?_
    rintro x1 g1 f1
    obtain ⟨t1, z1, rfl, rfl, hE1, hZ1, hQ1⟩ := f1
    have h51 := h5 t1 z1 hQ1
    refine me1 (pc' := 77) (L' := [(2, ii z1), (0, .ref 102), (1, ii (n : Int))]) (S' := []) dm_X12_nounWorth_76 rfl rfl rfl rfl ?_
    refine me1 (pc' := 78) (L' := [(2, ii z1), (0, .ref 102), (1, ii (n : Int))]) (S' := [.ref 102]) dm_X12_nounWorth_77 rfl rfl rfl rfl ?_
    refine me3 (pc' := 81) (S' := [ii (t1.1 5)]) dm_X12_nounWorth_78 (q_geti (v := t1.1 5) hm rfl (fun m i l => rg_5 m i l) rfl) rfl rfl rfl ?_
    refine y_1le (a := t1.1 5) (t := 86) (pc' := 84) dm_X12_nounWorth_81 rfl rfl (by omega) (fun hb5 => ?_) (fun hb5 => ?_)
    · exfalso; omega
    · refine me0 (pc' := 85) (S' := [ii (-1)]) dm_X12_nounWorth_84 rfl rfl rfl rfl ?_
      refine y_ret (r := some (ii (-1))) dm_X12_nounWorth_85 rfl rfl rfl ?_
      exact ⟨_, rfl, _, _, rfl, rfl, hE1, by omega, k t1 z1 hQ1⟩
  exfalso; omega
theorem dm_X12_nounWorth_86 : mj_dec prog_14_method_104_code 86 = some (.aload_n 0, 1) := by decide +kernel
theorem dm_X12_nounWorth_87 : mj_dec prog_14_method_104_code 87 = some (.iload_n 2, 1) := by decide +kernel
theorem dm_X12_nounWorth_88 : mj_dec prog_14_method_104_code 88 = some (.invokevirtual 146, 3) := by decide +kernel
theorem dm_X12_nounWorth_91 : mj_dec prog_14_method_104_code 91 = some (.ifCond .eq 15, 3) := by decide +kernel
theorem dm_X12_nounWorth_94 : mj_dec prog_14_method_104_code 94 = some (.aload_n 0, 1) := by decide +kernel
theorem dm_X12_nounWorth_95 : mj_dec prog_14_method_104_code 95 = some (.iconst 5, 1) := by decide +kernel
theorem dm_X12_nounWorth_96 : mj_dec prog_14_method_104_code 96 = some (.aload_n 0, 1) := by decide +kernel
theorem dm_X12_nounWorth_97 : mj_dec prog_14_method_104_code 97 = some (.getfield 87, 3) := by decide +kernel
theorem dm_X12_nounWorth_100 : mj_dec prog_14_method_104_code 100 = some (.iload_n 1, 1) := by decide +kernel
theorem dm_X12_nounWorth_101 : mj_dec prog_14_method_104_code 101 = some (.iaload, 1) := by decide +kernel
theorem dm_X12_nounWorth_102 : mj_dec prog_14_method_104_code 102 = some (.invokevirtual 190, 3) := by decide +kernel
theorem dm_X12_nounWorth_105 : mj_dec prog_14_method_104_code 105 = some (.ireturn, 1) := by decide +kernel
theorem n_chK {xt : mj_X} {d : Nat} {pre post : mj_H} {t : RS} (hm : pre.length = 102) (hd1 : 1 ≤ d) {n : Nat} {Q : RS → Int → Prop} (hn : n < 84000) {Q1 : RS → Int → Prop} (hw : t.2.2.1 43 n = 4) (hc : pgV xt (d - 1) 239 [.ref 102, ii (t.2.2.1 44 n)] (rS pre post t) (RA pre post Q1)) {c : VV} (h5 : ∀ u y, Q1 u y → u.1 5 = 0 ∧ rB u ∧ (0 ≤ u.1 10 ∧ u.1 10 ≤ 100) ∧ ∃ q : Nat, y = (q : Int) ∧ rv u 7 q c) (hd2 : 2 ≤ d) (hk : vk c ≠ 0 ∧ vk c ≤ 10) (k : ∀ u y, Q1 u y → Q (failS u 5 (u.2.2.1 47 n)) (-1)) : pgV xt d 240 [.ref 102, ii (n : Int)] (rS pre post t) (RA pre post Q) := by
  refine x_enter pm_X12_nounWorth (L0 := [(0, .ref 102), (1, ii (n : Int))]) rfl (Nat.le_of_ble_eq_true rfl) (by omega) ?_
  refine me1 (pc' := 1) (L' := [(0, .ref 102), (1, ii (n : Int))]) (S' := [.ref 102]) dm_X12_nounWorth_0 rfl rfl rfl rfl ?_
  refine me3 (pc' := 4) (S' := [.ref (102 + 18)]) dm_X12_nounWorth_1 (q_getr hm rfl (fun m i l => rg_43 m i l)) rfl rfl rfl ?_
  refine me1 (pc' := 5) (L' := [(0, .ref 102), (1, ii (n : Int))]) (S' := [ii (n : Int), .ref (102 + 18)]) dm_X12_nounWorth_4 rfl rfl rfl rfl ?_
  refine me3 (pc' := 6) (S' := [ii ((t.2.2.1 43) n)]) dm_X12_nounWorth_5 (q_iald (v := (t.2.2.1 43) n) (k := 43) (n := 84000) hm (fun m i l I J => rc_43 m i l I J) (by omega) (by omega) (by decide) rfl) rfl rfl rfl ?_
  refine y_sw (a := (t.2.2.1 43) n) (1) (t := 36) (i := .tableswitch 131 1 4 #[30, 37, 54, 60]) (len := 30) dm_X12_nounWorth_6 rfl rfl rfl (by omega) (by decide) (fun hb1 => ?_) (fun hb1 => ?_)
  · exfalso; omega
  refine y_sw (a := (t.2.2.1 43) n) (2) (t := 43) (i := .tableswitch 131 1 4 #[30, 37, 54, 60]) (len := 30) dm_X12_nounWorth_6 rfl rfl rfl (by omega) (by decide) (fun hb2 => ?_) (fun hb2 => ?_)
  · exfalso; omega
  refine y_sw (a := (t.2.2.1 43) n) (3) (t := 60) (i := .tableswitch 131 1 4 #[30, 37, 54, 60]) (len := 30) dm_X12_nounWorth_6 rfl rfl rfl (by omega) (by decide) (fun hb3 => ?_) (fun hb3 => ?_)
  · exfalso; omega
  refine y_sw (a := (t.2.2.1 43) n) (4) (t := 66) (i := .tableswitch 131 1 4 #[30, 37, 54, 60]) (len := 30) dm_X12_nounWorth_6 rfl rfl rfl (by omega) (by decide) (fun hb4 => ?_) (fun hb4 => ?_)
  · refine me1 (pc' := 67) (L' := [(0, .ref 102), (1, ii (n : Int))]) (S' := [.ref 102]) dm_X12_nounWorth_66 rfl rfl rfl rfl ?_
    refine me1 (pc' := 68) (L' := [(0, .ref 102), (1, ii (n : Int))]) (S' := [.ref 102, .ref 102]) dm_X12_nounWorth_67 rfl rfl rfl rfl ?_
    refine me3 (pc' := 71) (S' := [.ref (102 + 19), .ref 102]) dm_X12_nounWorth_68 (q_getr hm rfl (fun m i l => rg_44 m i l)) rfl rfl rfl ?_
    refine me1 (pc' := 72) (L' := [(0, .ref 102), (1, ii (n : Int))]) (S' := [ii (n : Int), .ref (102 + 19), .ref 102]) dm_X12_nounWorth_71 rfl rfl rfl rfl ?_
    refine me3 (pc' := 73) (S' := [ii ((t.2.2.1 44) n), .ref 102]) dm_X12_nounWorth_72 (q_iald (v := (t.2.2.1 44) n) (k := 44) (n := 84000) hm (fun m i l I J => rc_44 m i l I J) (by omega) (by omega) (by decide) rfl) rfl rfl rfl ?_
    refine x_cv (pc' := 76) (rest := []) dm_X12_nounWorth_73 rfl (q_inv (As := [ii ((t.2.2.1 44) n)]) (S := []) hm rfl rfl rfl) rfl rfl rfl (hc) ?_
    rintro x1 g1 f1
    obtain ⟨t1, z1, rfl, rfl, hE1, hZ1, hQ1⟩ := f1
    obtain ⟨h51, hB1, hca1, q1, rfl, hv1⟩ := h5 t1 z1 hQ1
    refine me1 (pc' := 77) (L' := [(2, ii (q1 : Int)), (0, .ref 102), (1, ii (n : Int))]) (S' := []) dm_X12_nounWorth_76 rfl rfl rfl rfl ?_
    refine me1 (pc' := 78) (L' := [(2, ii (q1 : Int)), (0, .ref 102), (1, ii (n : Int))]) (S' := [.ref 102]) dm_X12_nounWorth_77 rfl rfl rfl rfl ?_
    refine me3 (pc' := 81) (S' := [ii (t1.1 5)]) dm_X12_nounWorth_78 (q_geti (v := t1.1 5) hm rfl (fun m i l => rg_5 m i l) rfl) rfl rfl rfl ?_
    refine y_1le (a := t1.1 5) (t := 86) (pc' := 84) dm_X12_nounWorth_81 rfl rfl (by omega) (fun hb5 => ?_) (fun hb5 => ?_)
    · refine me1 (pc' := 87) (L' := [(2, ii (q1 : Int)), (0, .ref 102), (1, ii (n : Int))]) (S' := [.ref 102]) dm_X12_nounWorth_86 rfl rfl rfl rfl ?_
      refine me1 (pc' := 88) (L' := [(2, ii (q1 : Int)), (0, .ref 102), (1, ii (n : Int))]) (S' := [ii (q1 : Int), .ref 102]) dm_X12_nounWorth_87 rfl rfl rfl rfl ?_
      refine x_cp (pc' := 91) (v := ii (vk c : Int)) (rest := []) dm_X12_nounWorth_88 rfl (q_inv (As := [ii (q1 : Int)]) (S := []) hm rfl rfl rfl) rfl rfl rfl (r_kindOf_ (e := 6) hm (by omega) hB1 hv1) ?_
      refine y_1eq (a := (vk c : Int)) (t := 106) (pc' := 94) dm_X12_nounWorth_91 rfl rfl (by omega) (fun hb6 => ?_) (fun hb6 => ?_)
      · exfalso; omega
      · refine me1 (pc' := 95) (L' := [(2, ii (q1 : Int)), (0, .ref 102), (1, ii (n : Int))]) (S' := [.ref 102]) dm_X12_nounWorth_94 rfl rfl rfl rfl ?_
        refine me0 (pc' := 96) (S' := [ii 5, .ref 102]) dm_X12_nounWorth_95 rfl rfl rfl rfl ?_
        refine me1 (pc' := 97) (L' := [(2, ii (q1 : Int)), (0, .ref 102), (1, ii (n : Int))]) (S' := [.ref 102, ii 5, .ref 102]) dm_X12_nounWorth_96 rfl rfl rfl rfl ?_
        refine me3 (pc' := 100) (S' := [.ref (102 + 22), ii 5, .ref 102]) dm_X12_nounWorth_97 (q_getr hm rfl (fun m i l => rg_47 m i l)) rfl rfl rfl ?_
        refine me1 (pc' := 101) (L' := [(2, ii (q1 : Int)), (0, .ref 102), (1, ii (n : Int))]) (S' := [ii (n : Int), .ref (102 + 22), ii 5, .ref 102]) dm_X12_nounWorth_100 rfl rfl rfl rfl ?_
        refine me3 (pc' := 102) (S' := [ii ((t1.2.2.1 47) n), ii 5, .ref 102]) dm_X12_nounWorth_101 (q_iald (v := (t1.2.2.1 47) n) (k := 47) (n := 84000) hm (fun m i l I J => rc_47 m i l I J) (by omega) (by omega) (by decide) rfl) rfl rfl rfl ?_
        refine x_cv (pc' := 105) (rest := []) dm_X12_nounWorth_102 rfl (q_inv (As := [ii 5, ii ((t1.2.2.1 47) n)]) (S := []) hm rfl rfl rfl) rfl rfl rfl (r_fail_ (s := t1) hm (by omega) h51 hca1.1 hca1.2) ?_
        rintro _ _ ⟨rfl, rfl⟩
        refine y_ret (r := some (ii (-1))) dm_X12_nounWorth_105 rfl rfl rfl ?_
        exact ⟨_, rfl, _, _, rfl, rfl, by rw [failS_5]; decide, by omega, k t1 _ hQ1⟩
    · exfalso; omega
  exfalso; omega
theorem dm_X12_nounWorth_106 : mj_dec prog_14_method_104_code 106 = some (.aload_n 0, 1) := by decide +kernel
theorem dm_X12_nounWorth_107 : mj_dec prog_14_method_104_code 107 = some (.aload_n 0, 1) := by decide +kernel
theorem dm_X12_nounWorth_108 : mj_dec prog_14_method_104_code 108 = some (.iload_n 2, 1) := by decide +kernel
theorem dm_X12_nounWorth_109 : mj_dec prog_14_method_104_code 109 = some (.iconst 0, 1) := by decide +kernel
theorem dm_X12_nounWorth_110 : mj_dec prog_14_method_104_code 110 = some (.invokevirtual 138, 3) := by decide +kernel
theorem dm_X12_nounWorth_113 : mj_dec prog_14_method_104_code 113 = some (.lconst 0, 1) := by decide +kernel
theorem dm_X12_nounWorth_114 : mj_dec prog_14_method_104_code 114 = some (.lcmp, 1) := by decide +kernel
theorem dm_X12_nounWorth_115 : mj_dec prog_14_method_104_code 115 = some (.ifCond .eq 12, 3) := by decide +kernel
theorem dm_X12_nounWorth_118 : mj_dec prog_14_method_104_code 118 = some (.aload_n 0, 1) := by decide +kernel
theorem dm_X12_nounWorth_119 : mj_dec prog_14_method_104_code 119 = some (.getfield 81, 3) := by decide +kernel
theorem dm_X12_nounWorth_122 : mj_dec prog_14_method_104_code 122 = some (.iload_n 1, 1) := by decide +kernel
theorem dm_X12_nounWorth_123 : mj_dec prog_14_method_104_code 123 = some (.iaload, 1) := by decide +kernel
theorem dm_X12_nounWorth_124 : mj_dec prog_14_method_104_code 124 = some (.goto 9, 3) := by decide +kernel
theorem dm_X12_nounWorth_133 : mj_dec prog_14_method_104_code 133 = some (.invokevirtual 523, 3) := by decide +kernel
theorem dm_X12_nounWorth_136 : mj_dec prog_14_method_104_code 136 = some (.ireturn, 1) := by decide +kernel
theorem n_chT {xt : mj_X} {d : Nat} {pre post : mj_H} {t : RS} (hm : pre.length = 102) (hd1 : 1 ≤ d) {n : Nat} {Q : RS → Int → Prop} (hn : n < 84000) {Q1 : RS → Int → Prop} (hw : t.2.2.1 43 n = 4) (hc : pgV xt (d - 1) 239 [.ref 102, ii (t.2.2.1 44 n)] (rS pre post t) (RA pre post Q1)) {c : VV} (h5 : ∀ u y, Q1 u y → u.1 5 = 0 ∧ rB u ∧ (0 ≤ u.1 10 ∧ u.1 10 ≤ 100) ∧ ∃ q : Nat, y = (q : Int) ∧ rv u 7 q c) {Q2 : RS → Int → Prop} (hd2 : 2 ≤ d) (hk : vk c = 0) (hvn : vn c 0 ≠ Int64.ofInt 0) (hc2 : ∀ u y, Q1 u y → pgV xt (d - 1) 239 [.ref 102, ii (u.2.2.1 45 n)] (rS pre post u) (RA pre post Q)) : pgV xt d 240 [.ref 102, ii (n : Int)] (rS pre post t) (RA pre post Q) := by
  refine x_enter pm_X12_nounWorth (L0 := [(0, .ref 102), (1, ii (n : Int))]) rfl (Nat.le_of_ble_eq_true rfl) (by omega) ?_
  refine me1 (pc' := 1) (L' := [(0, .ref 102), (1, ii (n : Int))]) (S' := [.ref 102]) dm_X12_nounWorth_0 rfl rfl rfl rfl ?_
  refine me3 (pc' := 4) (S' := [.ref (102 + 18)]) dm_X12_nounWorth_1 (q_getr hm rfl (fun m i l => rg_43 m i l)) rfl rfl rfl ?_
  refine me1 (pc' := 5) (L' := [(0, .ref 102), (1, ii (n : Int))]) (S' := [ii (n : Int), .ref (102 + 18)]) dm_X12_nounWorth_4 rfl rfl rfl rfl ?_
  refine me3 (pc' := 6) (S' := [ii ((t.2.2.1 43) n)]) dm_X12_nounWorth_5 (q_iald (v := (t.2.2.1 43) n) (k := 43) (n := 84000) hm (fun m i l I J => rc_43 m i l I J) (by omega) (by omega) (by decide) rfl) rfl rfl rfl ?_
  refine y_sw (a := (t.2.2.1 43) n) (1) (t := 36) (i := .tableswitch 131 1 4 #[30, 37, 54, 60]) (len := 30) dm_X12_nounWorth_6 rfl rfl rfl (by omega) (by decide) (fun hb1 => ?_) (fun hb1 => ?_)
  · exfalso; omega
  refine y_sw (a := (t.2.2.1 43) n) (2) (t := 43) (i := .tableswitch 131 1 4 #[30, 37, 54, 60]) (len := 30) dm_X12_nounWorth_6 rfl rfl rfl (by omega) (by decide) (fun hb2 => ?_) (fun hb2 => ?_)
  · exfalso; omega
  refine y_sw (a := (t.2.2.1 43) n) (3) (t := 60) (i := .tableswitch 131 1 4 #[30, 37, 54, 60]) (len := 30) dm_X12_nounWorth_6 rfl rfl rfl (by omega) (by decide) (fun hb3 => ?_) (fun hb3 => ?_)
  · exfalso; omega
  refine y_sw (a := (t.2.2.1 43) n) (4) (t := 66) (i := .tableswitch 131 1 4 #[30, 37, 54, 60]) (len := 30) dm_X12_nounWorth_6 rfl rfl rfl (by omega) (by decide) (fun hb4 => ?_) (fun hb4 => ?_)
  · refine me1 (pc' := 67) (L' := [(0, .ref 102), (1, ii (n : Int))]) (S' := [.ref 102]) dm_X12_nounWorth_66 rfl rfl rfl rfl ?_
    refine me1 (pc' := 68) (L' := [(0, .ref 102), (1, ii (n : Int))]) (S' := [.ref 102, .ref 102]) dm_X12_nounWorth_67 rfl rfl rfl rfl ?_
    refine me3 (pc' := 71) (S' := [.ref (102 + 19), .ref 102]) dm_X12_nounWorth_68 (q_getr hm rfl (fun m i l => rg_44 m i l)) rfl rfl rfl ?_
    refine me1 (pc' := 72) (L' := [(0, .ref 102), (1, ii (n : Int))]) (S' := [ii (n : Int), .ref (102 + 19), .ref 102]) dm_X12_nounWorth_71 rfl rfl rfl rfl ?_
    refine me3 (pc' := 73) (S' := [ii ((t.2.2.1 44) n), .ref 102]) dm_X12_nounWorth_72 (q_iald (v := (t.2.2.1 44) n) (k := 44) (n := 84000) hm (fun m i l I J => rc_44 m i l I J) (by omega) (by omega) (by decide) rfl) rfl rfl rfl ?_
    refine x_cv (pc' := 76) (rest := []) dm_X12_nounWorth_73 rfl (q_inv (As := [ii ((t.2.2.1 44) n)]) (S := []) hm rfl rfl rfl) rfl rfl rfl (hc) ?_
    rintro x1 g1 f1
    obtain ⟨t1, z1, rfl, rfl, hE1, hZ1, hQ1⟩ := f1
    obtain ⟨h51, hB1, hca1, q1, rfl, hv1⟩ := h5 t1 z1 hQ1
    refine me1 (pc' := 77) (L' := [(2, ii (q1 : Int)), (0, .ref 102), (1, ii (n : Int))]) (S' := []) dm_X12_nounWorth_76 rfl rfl rfl rfl ?_
    refine me1 (pc' := 78) (L' := [(2, ii (q1 : Int)), (0, .ref 102), (1, ii (n : Int))]) (S' := [.ref 102]) dm_X12_nounWorth_77 rfl rfl rfl rfl ?_
    refine me3 (pc' := 81) (S' := [ii (t1.1 5)]) dm_X12_nounWorth_78 (q_geti (v := t1.1 5) hm rfl (fun m i l => rg_5 m i l) rfl) rfl rfl rfl ?_
    refine y_1le (a := t1.1 5) (t := 86) (pc' := 84) dm_X12_nounWorth_81 rfl rfl (by omega) (fun hb5 => ?_) (fun hb5 => ?_)
    · refine me1 (pc' := 87) (L' := [(2, ii (q1 : Int)), (0, .ref 102), (1, ii (n : Int))]) (S' := [.ref 102]) dm_X12_nounWorth_86 rfl rfl rfl rfl ?_
      refine me1 (pc' := 88) (L' := [(2, ii (q1 : Int)), (0, .ref 102), (1, ii (n : Int))]) (S' := [ii (q1 : Int), .ref 102]) dm_X12_nounWorth_87 rfl rfl rfl rfl ?_
      refine x_cp (pc' := 91) (v := ii (vk c : Int)) (rest := []) dm_X12_nounWorth_88 rfl (q_inv (As := [ii (q1 : Int)]) (S := []) hm rfl rfl rfl) rfl rfl rfl (r_kindOf_ (e := 6) hm (by omega) hB1 hv1) ?_
      refine y_1eq (a := (vk c : Int)) (t := 106) (pc' := 94) dm_X12_nounWorth_91 rfl rfl (by omega) (fun hb6 => ?_) (fun hb6 => ?_)
      · refine me1 (pc' := 107) (L' := [(2, ii (q1 : Int)), (0, .ref 102), (1, ii (n : Int))]) (S' := [.ref 102]) dm_X12_nounWorth_106 rfl rfl rfl rfl ?_
        refine me1 (pc' := 108) (L' := [(2, ii (q1 : Int)), (0, .ref 102), (1, ii (n : Int))]) (S' := [.ref 102, .ref 102]) dm_X12_nounWorth_107 rfl rfl rfl rfl ?_
        refine me1 (pc' := 109) (L' := [(2, ii (q1 : Int)), (0, .ref 102), (1, ii (n : Int))]) (S' := [ii (q1 : Int), .ref 102, .ref 102]) dm_X12_nounWorth_108 rfl rfl rfl rfl ?_
        refine me0 (pc' := 110) (S' := [ii 0, ii (q1 : Int), .ref 102, .ref 102]) dm_X12_nounWorth_109 rfl rfl rfl rfl ?_
        refine x_cp (pc' := 113) (v := .long (vn c 0)) (rest := [.ref 102]) dm_X12_nounWorth_110 rfl (q_inv (As := [ii (q1 : Int), ii 0]) (S := [.ref 102]) hm rfl rfl rfl) rfl rfl rfl (r_number_ (k := 0) (e := 6) hm (by omega) hB1 hv1 (by omega) (by rw [vq_1 (rv_wf hv1).1 (by omega)]; omega)) ?_
        refine me0 (pc' := 114) (S' := [.long (Int64.ofInt 0), .long (vn c 0), .ref 102]) dm_X12_nounWorth_113 rfl rfl rfl rfl ?_
        refine y_leq (x := vn c 0) (y := Int64.ofInt 0) (t := 127) (pc1 := 115) (pc' := 118) dm_X12_nounWorth_114 rfl dm_X12_nounWorth_115 rfl rfl (fun hb7 => ?_) (fun hb7 => ?_)
        · exact absurd hb7 (by exact hvn)
        · refine me1 (pc' := 119) (L' := [(2, ii (q1 : Int)), (0, .ref 102), (1, ii (n : Int))]) (S' := [.ref 102, .ref 102]) dm_X12_nounWorth_118 rfl rfl rfl rfl ?_
          refine me3 (pc' := 122) (S' := [.ref (102 + 20), .ref 102]) dm_X12_nounWorth_119 (q_getr hm rfl (fun m i l => rg_45 m i l)) rfl rfl rfl ?_
          refine me1 (pc' := 123) (L' := [(2, ii (q1 : Int)), (0, .ref 102), (1, ii (n : Int))]) (S' := [ii (n : Int), .ref (102 + 20), .ref 102]) dm_X12_nounWorth_122 rfl rfl rfl rfl ?_
          refine me3 (pc' := 124) (S' := [ii ((t1.2.2.1 45) n), .ref 102]) dm_X12_nounWorth_123 (q_iald (v := (t1.2.2.1 45) n) (k := 45) (n := 84000) hm (fun m i l I J => rc_45 m i l I J) (by omega) (by omega) (by decide) rfl) rfl rfl rfl ?_
          refine me2 (pc' := 133) (S' := [ii ((t1.2.2.1 45) n), .ref 102]) dm_X12_nounWorth_124 rfl rfl rfl ?_
          refine x_cv (pc' := 136) (rest := []) dm_X12_nounWorth_133 rfl (q_inv (As := [ii ((t1.2.2.1 45) n)]) (S := []) hm rfl rfl rfl) rfl rfl rfl (hc2 t1 _ hQ1) ?_
          rintro x2 g2 f2
          obtain ⟨t2, z2, rfl, rfl, hE2, hZ2, hQ2⟩ := f2
          refine y_ret (r := some (ii z2)) dm_X12_nounWorth_136 rfl rfl rfl ?_
          exact ⟨_, rfl, _, _, rfl, rfl, hE2, hZ2, hQ2⟩
      · exfalso; omega
    · exfalso; omega
  exfalso; omega
theorem dm_X12_nounWorth_127 : mj_dec prog_14_method_104_code 127 = some (.aload_n 0, 1) := by decide +kernel
theorem dm_X12_nounWorth_128 : mj_dec prog_14_method_104_code 128 = some (.getfield 84, 3) := by decide +kernel
theorem dm_X12_nounWorth_131 : mj_dec prog_14_method_104_code 131 = some (.iload_n 1, 1) := by decide +kernel
theorem dm_X12_nounWorth_132 : mj_dec prog_14_method_104_code 132 = some (.iaload, 1) := by decide +kernel
theorem n_chF {xt : mj_X} {d : Nat} {pre post : mj_H} {t : RS} (hm : pre.length = 102) (hd1 : 1 ≤ d) {n : Nat} {Q : RS → Int → Prop} (hn : n < 84000) {Q1 : RS → Int → Prop} (hw : t.2.2.1 43 n = 4) (hc : pgV xt (d - 1) 239 [.ref 102, ii (t.2.2.1 44 n)] (rS pre post t) (RA pre post Q1)) {c : VV} (h5 : ∀ u y, Q1 u y → u.1 5 = 0 ∧ rB u ∧ (0 ≤ u.1 10 ∧ u.1 10 ≤ 100) ∧ ∃ q : Nat, y = (q : Int) ∧ rv u 7 q c) {Q2 : RS → Int → Prop} (hd2 : 2 ≤ d) (hk : vk c = 0) (hvn : vn c 0 = Int64.ofInt 0) (hc2 : ∀ u y, Q1 u y → pgV xt (d - 1) 239 [.ref 102, ii (u.2.2.1 46 n)] (rS pre post u) (RA pre post Q)) : pgV xt d 240 [.ref 102, ii (n : Int)] (rS pre post t) (RA pre post Q) := by
  refine x_enter pm_X12_nounWorth (L0 := [(0, .ref 102), (1, ii (n : Int))]) rfl (Nat.le_of_ble_eq_true rfl) (by omega) ?_
  refine me1 (pc' := 1) (L' := [(0, .ref 102), (1, ii (n : Int))]) (S' := [.ref 102]) dm_X12_nounWorth_0 rfl rfl rfl rfl ?_
  refine me3 (pc' := 4) (S' := [.ref (102 + 18)]) dm_X12_nounWorth_1 (q_getr hm rfl (fun m i l => rg_43 m i l)) rfl rfl rfl ?_
  refine me1 (pc' := 5) (L' := [(0, .ref 102), (1, ii (n : Int))]) (S' := [ii (n : Int), .ref (102 + 18)]) dm_X12_nounWorth_4 rfl rfl rfl rfl ?_
  refine me3 (pc' := 6) (S' := [ii ((t.2.2.1 43) n)]) dm_X12_nounWorth_5 (q_iald (v := (t.2.2.1 43) n) (k := 43) (n := 84000) hm (fun m i l I J => rc_43 m i l I J) (by omega) (by omega) (by decide) rfl) rfl rfl rfl ?_
  refine y_sw (a := (t.2.2.1 43) n) (1) (t := 36) (i := .tableswitch 131 1 4 #[30, 37, 54, 60]) (len := 30) dm_X12_nounWorth_6 rfl rfl rfl (by omega) (by decide) (fun hb1 => ?_) (fun hb1 => ?_)
  · exfalso; omega
  refine y_sw (a := (t.2.2.1 43) n) (2) (t := 43) (i := .tableswitch 131 1 4 #[30, 37, 54, 60]) (len := 30) dm_X12_nounWorth_6 rfl rfl rfl (by omega) (by decide) (fun hb2 => ?_) (fun hb2 => ?_)
  · exfalso; omega
  refine y_sw (a := (t.2.2.1 43) n) (3) (t := 60) (i := .tableswitch 131 1 4 #[30, 37, 54, 60]) (len := 30) dm_X12_nounWorth_6 rfl rfl rfl (by omega) (by decide) (fun hb3 => ?_) (fun hb3 => ?_)
  · exfalso; omega
  refine y_sw (a := (t.2.2.1 43) n) (4) (t := 66) (i := .tableswitch 131 1 4 #[30, 37, 54, 60]) (len := 30) dm_X12_nounWorth_6 rfl rfl rfl (by omega) (by decide) (fun hb4 => ?_) (fun hb4 => ?_)
  · refine me1 (pc' := 67) (L' := [(0, .ref 102), (1, ii (n : Int))]) (S' := [.ref 102]) dm_X12_nounWorth_66 rfl rfl rfl rfl ?_
    refine me1 (pc' := 68) (L' := [(0, .ref 102), (1, ii (n : Int))]) (S' := [.ref 102, .ref 102]) dm_X12_nounWorth_67 rfl rfl rfl rfl ?_
    refine me3 (pc' := 71) (S' := [.ref (102 + 19), .ref 102]) dm_X12_nounWorth_68 (q_getr hm rfl (fun m i l => rg_44 m i l)) rfl rfl rfl ?_
    refine me1 (pc' := 72) (L' := [(0, .ref 102), (1, ii (n : Int))]) (S' := [ii (n : Int), .ref (102 + 19), .ref 102]) dm_X12_nounWorth_71 rfl rfl rfl rfl ?_
    refine me3 (pc' := 73) (S' := [ii ((t.2.2.1 44) n), .ref 102]) dm_X12_nounWorth_72 (q_iald (v := (t.2.2.1 44) n) (k := 44) (n := 84000) hm (fun m i l I J => rc_44 m i l I J) (by omega) (by omega) (by decide) rfl) rfl rfl rfl ?_
    refine x_cv (pc' := 76) (rest := []) dm_X12_nounWorth_73 rfl (q_inv (As := [ii ((t.2.2.1 44) n)]) (S := []) hm rfl rfl rfl) rfl rfl rfl (hc) ?_
    rintro x1 g1 f1
    obtain ⟨t1, z1, rfl, rfl, hE1, hZ1, hQ1⟩ := f1
    obtain ⟨h51, hB1, hca1, q1, rfl, hv1⟩ := h5 t1 z1 hQ1
    refine me1 (pc' := 77) (L' := [(2, ii (q1 : Int)), (0, .ref 102), (1, ii (n : Int))]) (S' := []) dm_X12_nounWorth_76 rfl rfl rfl rfl ?_
    refine me1 (pc' := 78) (L' := [(2, ii (q1 : Int)), (0, .ref 102), (1, ii (n : Int))]) (S' := [.ref 102]) dm_X12_nounWorth_77 rfl rfl rfl rfl ?_
    refine me3 (pc' := 81) (S' := [ii (t1.1 5)]) dm_X12_nounWorth_78 (q_geti (v := t1.1 5) hm rfl (fun m i l => rg_5 m i l) rfl) rfl rfl rfl ?_
    refine y_1le (a := t1.1 5) (t := 86) (pc' := 84) dm_X12_nounWorth_81 rfl rfl (by omega) (fun hb5 => ?_) (fun hb5 => ?_)
    · refine me1 (pc' := 87) (L' := [(2, ii (q1 : Int)), (0, .ref 102), (1, ii (n : Int))]) (S' := [.ref 102]) dm_X12_nounWorth_86 rfl rfl rfl rfl ?_
      refine me1 (pc' := 88) (L' := [(2, ii (q1 : Int)), (0, .ref 102), (1, ii (n : Int))]) (S' := [ii (q1 : Int), .ref 102]) dm_X12_nounWorth_87 rfl rfl rfl rfl ?_
      refine x_cp (pc' := 91) (v := ii (vk c : Int)) (rest := []) dm_X12_nounWorth_88 rfl (q_inv (As := [ii (q1 : Int)]) (S := []) hm rfl rfl rfl) rfl rfl rfl (r_kindOf_ (e := 6) hm (by omega) hB1 hv1) ?_
      refine y_1eq (a := (vk c : Int)) (t := 106) (pc' := 94) dm_X12_nounWorth_91 rfl rfl (by omega) (fun hb6 => ?_) (fun hb6 => ?_)
      · refine me1 (pc' := 107) (L' := [(2, ii (q1 : Int)), (0, .ref 102), (1, ii (n : Int))]) (S' := [.ref 102]) dm_X12_nounWorth_106 rfl rfl rfl rfl ?_
        refine me1 (pc' := 108) (L' := [(2, ii (q1 : Int)), (0, .ref 102), (1, ii (n : Int))]) (S' := [.ref 102, .ref 102]) dm_X12_nounWorth_107 rfl rfl rfl rfl ?_
        refine me1 (pc' := 109) (L' := [(2, ii (q1 : Int)), (0, .ref 102), (1, ii (n : Int))]) (S' := [ii (q1 : Int), .ref 102, .ref 102]) dm_X12_nounWorth_108 rfl rfl rfl rfl ?_
        refine me0 (pc' := 110) (S' := [ii 0, ii (q1 : Int), .ref 102, .ref 102]) dm_X12_nounWorth_109 rfl rfl rfl rfl ?_
        refine x_cp (pc' := 113) (v := .long (vn c 0)) (rest := [.ref 102]) dm_X12_nounWorth_110 rfl (q_inv (As := [ii (q1 : Int), ii 0]) (S := [.ref 102]) hm rfl rfl rfl) rfl rfl rfl (r_number_ (k := 0) (e := 6) hm (by omega) hB1 hv1 (by omega) (by rw [vq_1 (rv_wf hv1).1 (by omega)]; omega)) ?_
        refine me0 (pc' := 114) (S' := [.long (Int64.ofInt 0), .long (vn c 0), .ref 102]) dm_X12_nounWorth_113 rfl rfl rfl rfl ?_
        refine y_leq (x := vn c 0) (y := Int64.ofInt 0) (t := 127) (pc1 := 115) (pc' := 118) dm_X12_nounWorth_114 rfl dm_X12_nounWorth_115 rfl rfl (fun hb7 => ?_) (fun hb7 => ?_)
        · refine me1 (pc' := 128) (L' := [(2, ii (q1 : Int)), (0, .ref 102), (1, ii (n : Int))]) (S' := [.ref 102, .ref 102]) dm_X12_nounWorth_127 rfl rfl rfl rfl ?_
          refine me3 (pc' := 131) (S' := [.ref (102 + 21), .ref 102]) dm_X12_nounWorth_128 (q_getr hm rfl (fun m i l => rg_46 m i l)) rfl rfl rfl ?_
          refine me1 (pc' := 132) (L' := [(2, ii (q1 : Int)), (0, .ref 102), (1, ii (n : Int))]) (S' := [ii (n : Int), .ref (102 + 21), .ref 102]) dm_X12_nounWorth_131 rfl rfl rfl rfl ?_
          refine me3 (pc' := 133) (S' := [ii ((t1.2.2.1 46) n), .ref 102]) dm_X12_nounWorth_132 (q_iald (v := (t1.2.2.1 46) n) (k := 46) (n := 84000) hm (fun m i l I J => rc_46 m i l I J) (by omega) (by omega) (by decide) rfl) rfl rfl rfl ?_
          refine x_cv (pc' := 136) (rest := []) dm_X12_nounWorth_133 rfl (q_inv (As := [ii ((t1.2.2.1 46) n)]) (S := []) hm rfl rfl rfl) rfl rfl rfl (hc2 t1 _ hQ1) ?_
          rintro x2 g2 f2
          obtain ⟨t2, z2, rfl, rfl, hE2, hZ2, hQ2⟩ := f2
          refine y_ret (r := some (ii z2)) dm_X12_nounWorth_136 rfl rfl rfl ?_
          exact ⟨_, rfl, _, _, rfl, rfl, hE2, hZ2, hQ2⟩
        · exact absurd hb7 (by exact fun z => z hvn)
      · exfalso; omega
    · exfalso; omega
  exfalso; omega
set_option maxRecDepth 20000 in
theorem pm_X12_nameWorth : mj_mmof pg_ms 241 = some ((⟨"ArrayCalculatorModel", "nameWorth", "(JI)I"⟩, prog_14_method_106_code, 5, (Option.some Jvm.ClassFile.FieldType.int)), 12, false, mj_dec prog_14_method_106_code) := rfl
theorem dm_X12_nameWorth_0 : mj_dec prog_14_method_106_code 0 = some (.lload_n 1, 1) := by decide +kernel
theorem dm_X12_nameWorth_1 : mj_dec prog_14_method_106_code 1 = some (.ldc2_w 239, 3) := by decide +kernel
theorem dm_X12_nameWorth_4 : mj_dec prog_14_method_106_code 4 = some (.lcmp, 1) := by decide +kernel
theorem dm_X12_nameWorth_5 : mj_dec prog_14_method_106_code 5 = some (.ifCond .eq 11, 3) := by decide +kernel
theorem dm_X12_nameWorth_16 : mj_dec prog_14_method_106_code 16 = some (.aload_n 0, 1) := by decide +kernel
theorem dm_X12_nameWorth_17 : mj_dec prog_14_method_106_code 17 = some (.getfield 184, 3) := by decide +kernel
theorem dm_X12_nameWorth_20 : mj_dec prog_14_method_106_code 20 = some (.ifCond .ne 7, 3) := by decide +kernel
theorem dm_X12_nameWorth_23 : mj_dec prog_14_method_106_code 23 = some (.iconst (-1), 1) := by decide +kernel
theorem dm_X12_nameWorth_24 : mj_dec prog_14_method_106_code 24 = some (.goto 22, 3) := by decide +kernel
theorem dm_X12_nameWorth_46 : mj_dec prog_14_method_106_code 46 = some (.istore 4, 2) := by decide +kernel
theorem dm_X12_nameWorth_48 : mj_dec prog_14_method_106_code 48 = some (.iload 4, 2) := by decide +kernel
theorem dm_X12_nameWorth_50 : mj_dec prog_14_method_106_code 50 = some (.ifCond .ge 12, 3) := by decide +kernel
theorem dm_X12_nameWorth_53 : mj_dec prog_14_method_106_code 53 = some (.aload_n 0, 1) := by decide +kernel
theorem dm_X12_nameWorth_54 : mj_dec prog_14_method_106_code 54 = some (.iconst 2, 1) := by decide +kernel
theorem dm_X12_nameWorth_55 : mj_dec prog_14_method_106_code 55 = some (.iload_n 3, 1) := by decide +kernel
theorem dm_X12_nameWorth_56 : mj_dec prog_14_method_106_code 56 = some (.invokevirtual 190, 3) := by decide +kernel
theorem dm_X12_nameWorth_59 : mj_dec prog_14_method_106_code 59 = some (.goto 5, 3) := by decide +kernel
theorem dm_X12_nameWorth_64 : mj_dec prog_14_method_106_code 64 = some (.ireturn, 1) := by decide +kernel
theorem nm_x0 {xt : mj_X} {d : Nat} {pre post : mj_H} {t : RS} (hm : pre.length = 102) (hd1 : 1 ≤ d) {key : Int64} {p : Int} {Q : RS → Int → Prop} (h5 : t.1 5 = 0) (hca : 0 ≤ t.1 10 ∧ t.1 10 ≤ 100) (hX : key = Int64.ofInt 120) (hd2 : 2 ≤ d) (hc0 : t.1 10 = 0) (k : Q (failS t 2 p) (-1)) : pgV xt d 241 [.ref 102, .long key, ii p] (rS pre post t) (RA pre post Q) := by
  refine x_enter pm_X12_nameWorth (L0 := [(0, .ref 102), (1, .long key), (3, ii p)]) rfl (Nat.le_of_ble_eq_true rfl) (by omega) ?_
  refine me1 (pc' := 1) (L' := [(0, .ref 102), (1, .long key), (3, ii p)]) (S' := [.long key]) dm_X12_nameWorth_0 rfl rfl rfl rfl ?_
  refine me3 (pc' := 4) (S' := [.long (Int64.ofInt 120), .long key]) dm_X12_nameWorth_1 rfl rfl rfl rfl ?_
  refine y_leq (x := key) (y := Int64.ofInt 120) (t := 16) (pc1 := 5) (pc' := 8) dm_X12_nameWorth_4 rfl dm_X12_nameWorth_5 rfl rfl (fun hb1 => ?_) (fun hb1 => ?_)
  · refine me1 (pc' := 17) (L' := [(0, .ref 102), (1, .long key), (3, ii p)]) (S' := [.ref 102]) dm_X12_nameWorth_16 rfl rfl rfl rfl ?_
    refine me3 (pc' := 20) (S' := [ii (t.1 10)]) dm_X12_nameWorth_17 (q_geti (v := t.1 10) hm rfl (fun m i l => rg_10 m i l) rfl) rfl rfl rfl ?_
    refine y_1ne (a := t.1 10) (t := 27) (pc' := 23) dm_X12_nameWorth_20 rfl rfl (by omega) (fun hb2 => ?_) (fun hb2 => ?_)
    · exfalso; omega
    · refine me0 (pc' := 24) (S' := [ii (-1)]) dm_X12_nameWorth_23 rfl rfl rfl rfl ?_
      refine me2 (pc' := 46) (S' := [ii (-1)]) dm_X12_nameWorth_24 rfl rfl rfl ?_
      refine me1 (pc' := 48) (L' := [(4, ii (-1)), (0, .ref 102), (1, .long key), (3, ii p)]) (S' := []) dm_X12_nameWorth_46 rfl rfl rfl rfl ?_
      refine me1 (pc' := 50) (L' := [(4, ii (-1)), (0, .ref 102), (1, .long key), (3, ii p)]) (S' := [ii (-1)]) dm_X12_nameWorth_48 rfl rfl rfl rfl ?_
      refine me_1f (pc' := 53) dm_X12_nameWorth_50 rfl (by decide) rfl ?_
      refine me1 (pc' := 54) (L' := [(4, ii (-1)), (0, .ref 102), (1, .long key), (3, ii p)]) (S' := [.ref 102]) dm_X12_nameWorth_53 rfl rfl rfl rfl ?_
      refine me0 (pc' := 55) (S' := [ii 2, .ref 102]) dm_X12_nameWorth_54 rfl rfl rfl rfl ?_
      refine me1 (pc' := 56) (L' := [(4, ii (-1)), (0, .ref 102), (1, .long key), (3, ii p)]) (S' := [ii p, ii 2, .ref 102]) dm_X12_nameWorth_55 rfl rfl rfl rfl ?_
      refine x_cv (pc' := 59) (rest := []) dm_X12_nameWorth_56 rfl (q_inv (As := [ii 2, ii p]) (S := []) hm rfl rfl rfl) rfl rfl rfl (r_fail_ (s := t) hm (by omega) h5 hca.1 hca.2) ?_
      rintro _ _ ⟨rfl, rfl⟩
      refine me2 (pc' := 64) (S' := [ii (-1)]) dm_X12_nameWorth_59 rfl rfl rfl ?_
      refine y_ret (r := some (ii (-1))) dm_X12_nameWorth_64 rfl rfl rfl ?_
      exact ⟨_, rfl, _, _, rfl, rfl, by rw [failS_5]; decide, by omega, k⟩
  · exact absurd hb1 (by exact fun z => z hX)
theorem dm_X12_nameWorth_27 : mj_dec prog_14_method_106_code 27 = some (.lload_n 1, 1) := by decide +kernel
theorem dm_X12_nameWorth_28 : mj_dec prog_14_method_106_code 28 = some (.ldc2_w 239, 3) := by decide +kernel
theorem dm_X12_nameWorth_31 : mj_dec prog_14_method_106_code 31 = some (.lcmp, 1) := by decide +kernel
theorem dm_X12_nameWorth_32 : mj_dec prog_14_method_106_code 32 = some (.ifCond .ne 10, 3) := by decide +kernel
theorem dm_X12_nameWorth_35 : mj_dec prog_14_method_106_code 35 = some (.aload_n 0, 1) := by decide +kernel
theorem dm_X12_nameWorth_36 : mj_dec prog_14_method_106_code 36 = some (.getfield 96, 3) := by decide +kernel
theorem dm_X12_nameWorth_39 : mj_dec prog_14_method_106_code 39 = some (.goto 7, 3) := by decide +kernel
theorem nm_xN {xt : mj_X} {d : Nat} {pre post : mj_H} {t : RS} (hm : pre.length = 102) (hd1 : 1 ≤ d) {key : Int64} {p : Int} {Q : RS → Int → Prop} (h5 : t.1 5 = 0) (hca : 0 ≤ t.1 10 ∧ t.1 10 ≤ 100) (hX : key = Int64.ofInt 120) (hd2 : 2 ≤ d) (hc0 : t.1 10 ≠ 0) (hv : t.1 58 = -1) (k : Q (failS t 2 p) (-1)) : pgV xt d 241 [.ref 102, .long key, ii p] (rS pre post t) (RA pre post Q) := by
  refine x_enter pm_X12_nameWorth (L0 := [(0, .ref 102), (1, .long key), (3, ii p)]) rfl (Nat.le_of_ble_eq_true rfl) (by omega) ?_
  refine me1 (pc' := 1) (L' := [(0, .ref 102), (1, .long key), (3, ii p)]) (S' := [.long key]) dm_X12_nameWorth_0 rfl rfl rfl rfl ?_
  refine me3 (pc' := 4) (S' := [.long (Int64.ofInt 120), .long key]) dm_X12_nameWorth_1 rfl rfl rfl rfl ?_
  refine y_leq (x := key) (y := Int64.ofInt 120) (t := 16) (pc1 := 5) (pc' := 8) dm_X12_nameWorth_4 rfl dm_X12_nameWorth_5 rfl rfl (fun hb1 => ?_) (fun hb1 => ?_)
  · refine me1 (pc' := 17) (L' := [(0, .ref 102), (1, .long key), (3, ii p)]) (S' := [.ref 102]) dm_X12_nameWorth_16 rfl rfl rfl rfl ?_
    refine me3 (pc' := 20) (S' := [ii (t.1 10)]) dm_X12_nameWorth_17 (q_geti (v := t.1 10) hm rfl (fun m i l => rg_10 m i l) rfl) rfl rfl rfl ?_
    refine y_1ne (a := t.1 10) (t := 27) (pc' := 23) dm_X12_nameWorth_20 rfl rfl (by omega) (fun hb2 => ?_) (fun hb2 => ?_)
    · refine me1 (pc' := 28) (L' := [(0, .ref 102), (1, .long key), (3, ii p)]) (S' := [.long key]) dm_X12_nameWorth_27 rfl rfl rfl rfl ?_
      refine me3 (pc' := 31) (S' := [.long (Int64.ofInt 120), .long key]) dm_X12_nameWorth_28 rfl rfl rfl rfl ?_
      refine y_lne (x := key) (y := Int64.ofInt 120) (t := 42) (pc1 := 32) (pc' := 35) dm_X12_nameWorth_31 rfl dm_X12_nameWorth_32 rfl rfl (fun hb3 => ?_) (fun hb3 => ?_)
      · exact absurd hb3 (by exact fun z => z hX)
      · refine me1 (pc' := 36) (L' := [(0, .ref 102), (1, .long key), (3, ii p)]) (S' := [.ref 102]) dm_X12_nameWorth_35 rfl rfl rfl rfl ?_
        refine me3 (pc' := 39) (S' := [ii (t.1 58)]) dm_X12_nameWorth_36 (q_geti (v := t.1 58) hm rfl (fun m i l => rg_58 m i l) rfl) rfl rfl rfl ?_
        refine me2 (pc' := 46) (S' := [ii (t.1 58)]) dm_X12_nameWorth_39 rfl rfl rfl ?_
        refine me1 (pc' := 48) (L' := [(4, ii (t.1 58)), (0, .ref 102), (1, .long key), (3, ii p)]) (S' := []) dm_X12_nameWorth_46 rfl rfl rfl rfl ?_
        refine me1 (pc' := 50) (L' := [(4, ii (t.1 58)), (0, .ref 102), (1, .long key), (3, ii p)]) (S' := [ii (t.1 58)]) dm_X12_nameWorth_48 rfl rfl rfl rfl ?_
        refine y_1ge (a := t.1 58) (t := 62) (pc' := 53) dm_X12_nameWorth_50 rfl rfl (by omega) (fun hb4 => ?_) (fun hb4 => ?_)
        · exfalso; omega
        · refine me1 (pc' := 54) (L' := [(4, ii (t.1 58)), (0, .ref 102), (1, .long key), (3, ii p)]) (S' := [.ref 102]) dm_X12_nameWorth_53 rfl rfl rfl rfl ?_
          refine me0 (pc' := 55) (S' := [ii 2, .ref 102]) dm_X12_nameWorth_54 rfl rfl rfl rfl ?_
          refine me1 (pc' := 56) (L' := [(4, ii (t.1 58)), (0, .ref 102), (1, .long key), (3, ii p)]) (S' := [ii p, ii 2, .ref 102]) dm_X12_nameWorth_55 rfl rfl rfl rfl ?_
          refine x_cv (pc' := 59) (rest := []) dm_X12_nameWorth_56 rfl (q_inv (As := [ii 2, ii p]) (S := []) hm rfl rfl rfl) rfl rfl rfl (r_fail_ (s := t) hm (by omega) h5 hca.1 hca.2) ?_
          rintro _ _ ⟨rfl, rfl⟩
          refine me2 (pc' := 64) (S' := [ii (-1)]) dm_X12_nameWorth_59 rfl rfl rfl ?_
          refine y_ret (r := some (ii (-1))) dm_X12_nameWorth_64 rfl rfl rfl ?_
          exact ⟨_, rfl, _, _, rfl, rfl, by rw [failS_5]; decide, by omega, k⟩
    · exfalso; omega
  · exact absurd hb1 (by exact fun z => z hX)
theorem dm_X12_nameWorth_62 : mj_dec prog_14_method_106_code 62 = some (.iload 4, 2) := by decide +kernel
theorem nm_xV {xt : mj_X} {d : Nat} {pre post : mj_H} {t : RS} (hm : pre.length = 102) (hd1 : 1 ≤ d) {key : Int64} {p : Int} {Q : RS → Int → Prop} (h5 : t.1 5 = 0) (hca : 0 ≤ t.1 10 ∧ t.1 10 ≤ 100) (hX : key = Int64.ofInt 120) {q : Nat} (hc0 : t.1 10 ≠ 0) (hv : t.1 58 = (q : Int)) (hq : q ≤ 310000) (k : Q t (q : Int)) : pgV xt d 241 [.ref 102, .long key, ii p] (rS pre post t) (RA pre post Q) := by
  refine x_enter pm_X12_nameWorth (L0 := [(0, .ref 102), (1, .long key), (3, ii p)]) rfl (Nat.le_of_ble_eq_true rfl) (by omega) ?_
  refine me1 (pc' := 1) (L' := [(0, .ref 102), (1, .long key), (3, ii p)]) (S' := [.long key]) dm_X12_nameWorth_0 rfl rfl rfl rfl ?_
  refine me3 (pc' := 4) (S' := [.long (Int64.ofInt 120), .long key]) dm_X12_nameWorth_1 rfl rfl rfl rfl ?_
  refine y_leq (x := key) (y := Int64.ofInt 120) (t := 16) (pc1 := 5) (pc' := 8) dm_X12_nameWorth_4 rfl dm_X12_nameWorth_5 rfl rfl (fun hb1 => ?_) (fun hb1 => ?_)
  · refine me1 (pc' := 17) (L' := [(0, .ref 102), (1, .long key), (3, ii p)]) (S' := [.ref 102]) dm_X12_nameWorth_16 rfl rfl rfl rfl ?_
    refine me3 (pc' := 20) (S' := [ii (t.1 10)]) dm_X12_nameWorth_17 (q_geti (v := t.1 10) hm rfl (fun m i l => rg_10 m i l) rfl) rfl rfl rfl ?_
    refine y_1ne (a := t.1 10) (t := 27) (pc' := 23) dm_X12_nameWorth_20 rfl rfl (by omega) (fun hb2 => ?_) (fun hb2 => ?_)
    · refine me1 (pc' := 28) (L' := [(0, .ref 102), (1, .long key), (3, ii p)]) (S' := [.long key]) dm_X12_nameWorth_27 rfl rfl rfl rfl ?_
      refine me3 (pc' := 31) (S' := [.long (Int64.ofInt 120), .long key]) dm_X12_nameWorth_28 rfl rfl rfl rfl ?_
      refine y_lne (x := key) (y := Int64.ofInt 120) (t := 42) (pc1 := 32) (pc' := 35) dm_X12_nameWorth_31 rfl dm_X12_nameWorth_32 rfl rfl (fun hb3 => ?_) (fun hb3 => ?_)
      · exact absurd hb3 (by exact fun z => z hX)
      · refine me1 (pc' := 36) (L' := [(0, .ref 102), (1, .long key), (3, ii p)]) (S' := [.ref 102]) dm_X12_nameWorth_35 rfl rfl rfl rfl ?_
        refine me3 (pc' := 39) (S' := [ii (t.1 58)]) dm_X12_nameWorth_36 (q_geti (v := t.1 58) hm rfl (fun m i l => rg_58 m i l) rfl) rfl rfl rfl ?_
        refine me2 (pc' := 46) (S' := [ii (t.1 58)]) dm_X12_nameWorth_39 rfl rfl rfl ?_
        refine pg_st (S' := [ii (q : Int)]) (congrArg (fun z => ii z :: []) (hv)) ?_
        refine me1 (pc' := 48) (L' := [(4, ii (q : Int)), (0, .ref 102), (1, .long key), (3, ii p)]) (S' := []) dm_X12_nameWorth_46 rfl rfl rfl rfl ?_
        refine me1 (pc' := 50) (L' := [(4, ii (q : Int)), (0, .ref 102), (1, .long key), (3, ii p)]) (S' := [ii (q : Int)]) dm_X12_nameWorth_48 rfl rfl rfl rfl ?_
        refine y_1ge (a := (q : Int)) (t := 62) (pc' := 53) dm_X12_nameWorth_50 rfl rfl (by omega) (fun hb4 => ?_) (fun hb4 => ?_)
        · refine me1 (pc' := 64) (L' := [(4, ii (q : Int)), (0, .ref 102), (1, .long key), (3, ii p)]) (S' := [ii (q : Int)]) dm_X12_nameWorth_62 rfl rfl rfl rfl ?_
          refine y_ret (r := some (ii (q : Int))) dm_X12_nameWorth_64 rfl rfl rfl ?_
          exact ⟨_, rfl, _, _, rfl, rfl, by omega, by omega, k⟩
        · exfalso; omega
    · exfalso; omega
  · exact absurd hb1 (by exact fun z => z hX)
theorem dm_X12_nameWorth_8 : mj_dec prog_14_method_106_code 8 = some (.lload_n 1, 1) := by decide +kernel
theorem dm_X12_nameWorth_9 : mj_dec prog_14_method_106_code 9 = some (.ldc2_w 490, 3) := by decide +kernel
theorem dm_X12_nameWorth_12 : mj_dec prog_14_method_106_code 12 = some (.lcmp, 1) := by decide +kernel
theorem dm_X12_nameWorth_13 : mj_dec prog_14_method_106_code 13 = some (.ifCond .ne 52, 3) := by decide +kernel
theorem nm_y0 {xt : mj_X} {d : Nat} {pre post : mj_H} {t : RS} (hm : pre.length = 102) (hd1 : 1 ≤ d) {key : Int64} {p : Int} {Q : RS → Int → Prop} (h5 : t.1 5 = 0) (hca : 0 ≤ t.1 10 ∧ t.1 10 ≤ 100) (hX : key ≠ Int64.ofInt 120) (hY : key = Int64.ofInt 121) (hd2 : 2 ≤ d) (hc0 : t.1 10 = 0) (k : Q (failS t 2 p) (-1)) : pgV xt d 241 [.ref 102, .long key, ii p] (rS pre post t) (RA pre post Q) := by
  refine x_enter pm_X12_nameWorth (L0 := [(0, .ref 102), (1, .long key), (3, ii p)]) rfl (Nat.le_of_ble_eq_true rfl) (by omega) ?_
  refine me1 (pc' := 1) (L' := [(0, .ref 102), (1, .long key), (3, ii p)]) (S' := [.long key]) dm_X12_nameWorth_0 rfl rfl rfl rfl ?_
  refine me3 (pc' := 4) (S' := [.long (Int64.ofInt 120), .long key]) dm_X12_nameWorth_1 rfl rfl rfl rfl ?_
  refine y_leq (x := key) (y := Int64.ofInt 120) (t := 16) (pc1 := 5) (pc' := 8) dm_X12_nameWorth_4 rfl dm_X12_nameWorth_5 rfl rfl (fun hb1 => ?_) (fun hb1 => ?_)
  · exact absurd hb1 (by exact hX)
  · refine me1 (pc' := 9) (L' := [(0, .ref 102), (1, .long key), (3, ii p)]) (S' := [.long key]) dm_X12_nameWorth_8 rfl rfl rfl rfl ?_
    refine me3 (pc' := 12) (S' := [.long (Int64.ofInt 121), .long key]) dm_X12_nameWorth_9 rfl rfl rfl rfl ?_
    refine y_lne (x := key) (y := Int64.ofInt 121) (t := 65) (pc1 := 13) (pc' := 16) dm_X12_nameWorth_12 rfl dm_X12_nameWorth_13 rfl rfl (fun hb2 => ?_) (fun hb2 => ?_)
    · exact absurd hb2 (by exact fun z => z hY)
    · refine me1 (pc' := 17) (L' := [(0, .ref 102), (1, .long key), (3, ii p)]) (S' := [.ref 102]) dm_X12_nameWorth_16 rfl rfl rfl rfl ?_
      refine me3 (pc' := 20) (S' := [ii (t.1 10)]) dm_X12_nameWorth_17 (q_geti (v := t.1 10) hm rfl (fun m i l => rg_10 m i l) rfl) rfl rfl rfl ?_
      refine y_1ne (a := t.1 10) (t := 27) (pc' := 23) dm_X12_nameWorth_20 rfl rfl (by omega) (fun hb3 => ?_) (fun hb3 => ?_)
      · exfalso; omega
      · refine me0 (pc' := 24) (S' := [ii (-1)]) dm_X12_nameWorth_23 rfl rfl rfl rfl ?_
        refine me2 (pc' := 46) (S' := [ii (-1)]) dm_X12_nameWorth_24 rfl rfl rfl ?_
        refine me1 (pc' := 48) (L' := [(4, ii (-1)), (0, .ref 102), (1, .long key), (3, ii p)]) (S' := []) dm_X12_nameWorth_46 rfl rfl rfl rfl ?_
        refine me1 (pc' := 50) (L' := [(4, ii (-1)), (0, .ref 102), (1, .long key), (3, ii p)]) (S' := [ii (-1)]) dm_X12_nameWorth_48 rfl rfl rfl rfl ?_
        refine me_1f (pc' := 53) dm_X12_nameWorth_50 rfl (by decide) rfl ?_
        refine me1 (pc' := 54) (L' := [(4, ii (-1)), (0, .ref 102), (1, .long key), (3, ii p)]) (S' := [.ref 102]) dm_X12_nameWorth_53 rfl rfl rfl rfl ?_
        refine me0 (pc' := 55) (S' := [ii 2, .ref 102]) dm_X12_nameWorth_54 rfl rfl rfl rfl ?_
        refine me1 (pc' := 56) (L' := [(4, ii (-1)), (0, .ref 102), (1, .long key), (3, ii p)]) (S' := [ii p, ii 2, .ref 102]) dm_X12_nameWorth_55 rfl rfl rfl rfl ?_
        refine x_cv (pc' := 59) (rest := []) dm_X12_nameWorth_56 rfl (q_inv (As := [ii 2, ii p]) (S := []) hm rfl rfl rfl) rfl rfl rfl (r_fail_ (s := t) hm (by omega) h5 hca.1 hca.2) ?_
        rintro _ _ ⟨rfl, rfl⟩
        refine me2 (pc' := 64) (S' := [ii (-1)]) dm_X12_nameWorth_59 rfl rfl rfl ?_
        refine y_ret (r := some (ii (-1))) dm_X12_nameWorth_64 rfl rfl rfl ?_
        exact ⟨_, rfl, _, _, rfl, rfl, by rw [failS_5]; decide, by omega, k⟩
theorem dm_X12_nameWorth_42 : mj_dec prog_14_method_106_code 42 = some (.aload_n 0, 1) := by decide +kernel
theorem dm_X12_nameWorth_43 : mj_dec prog_14_method_106_code 43 = some (.getfield 99, 3) := by decide +kernel
theorem nm_yN {xt : mj_X} {d : Nat} {pre post : mj_H} {t : RS} (hm : pre.length = 102) (hd1 : 1 ≤ d) {key : Int64} {p : Int} {Q : RS → Int → Prop} (h5 : t.1 5 = 0) (hca : 0 ≤ t.1 10 ∧ t.1 10 ≤ 100) (hX : key ≠ Int64.ofInt 120) (hY : key = Int64.ofInt 121) (hd2 : 2 ≤ d) (hc0 : t.1 10 ≠ 0) (hv : t.1 59 = -1) (k : Q (failS t 2 p) (-1)) : pgV xt d 241 [.ref 102, .long key, ii p] (rS pre post t) (RA pre post Q) := by
  refine x_enter pm_X12_nameWorth (L0 := [(0, .ref 102), (1, .long key), (3, ii p)]) rfl (Nat.le_of_ble_eq_true rfl) (by omega) ?_
  refine me1 (pc' := 1) (L' := [(0, .ref 102), (1, .long key), (3, ii p)]) (S' := [.long key]) dm_X12_nameWorth_0 rfl rfl rfl rfl ?_
  refine me3 (pc' := 4) (S' := [.long (Int64.ofInt 120), .long key]) dm_X12_nameWorth_1 rfl rfl rfl rfl ?_
  refine y_leq (x := key) (y := Int64.ofInt 120) (t := 16) (pc1 := 5) (pc' := 8) dm_X12_nameWorth_4 rfl dm_X12_nameWorth_5 rfl rfl (fun hb1 => ?_) (fun hb1 => ?_)
  · exact absurd hb1 (by exact hX)
  · refine me1 (pc' := 9) (L' := [(0, .ref 102), (1, .long key), (3, ii p)]) (S' := [.long key]) dm_X12_nameWorth_8 rfl rfl rfl rfl ?_
    refine me3 (pc' := 12) (S' := [.long (Int64.ofInt 121), .long key]) dm_X12_nameWorth_9 rfl rfl rfl rfl ?_
    refine y_lne (x := key) (y := Int64.ofInt 121) (t := 65) (pc1 := 13) (pc' := 16) dm_X12_nameWorth_12 rfl dm_X12_nameWorth_13 rfl rfl (fun hb2 => ?_) (fun hb2 => ?_)
    · exact absurd hb2 (by exact fun z => z hY)
    · refine me1 (pc' := 17) (L' := [(0, .ref 102), (1, .long key), (3, ii p)]) (S' := [.ref 102]) dm_X12_nameWorth_16 rfl rfl rfl rfl ?_
      refine me3 (pc' := 20) (S' := [ii (t.1 10)]) dm_X12_nameWorth_17 (q_geti (v := t.1 10) hm rfl (fun m i l => rg_10 m i l) rfl) rfl rfl rfl ?_
      refine y_1ne (a := t.1 10) (t := 27) (pc' := 23) dm_X12_nameWorth_20 rfl rfl (by omega) (fun hb3 => ?_) (fun hb3 => ?_)
      · refine me1 (pc' := 28) (L' := [(0, .ref 102), (1, .long key), (3, ii p)]) (S' := [.long key]) dm_X12_nameWorth_27 rfl rfl rfl rfl ?_
        refine me3 (pc' := 31) (S' := [.long (Int64.ofInt 120), .long key]) dm_X12_nameWorth_28 rfl rfl rfl rfl ?_
        refine y_lne (x := key) (y := Int64.ofInt 120) (t := 42) (pc1 := 32) (pc' := 35) dm_X12_nameWorth_31 rfl dm_X12_nameWorth_32 rfl rfl (fun hb4 => ?_) (fun hb4 => ?_)
        · refine me1 (pc' := 43) (L' := [(0, .ref 102), (1, .long key), (3, ii p)]) (S' := [.ref 102]) dm_X12_nameWorth_42 rfl rfl rfl rfl ?_
          refine me3 (pc' := 46) (S' := [ii (t.1 59)]) dm_X12_nameWorth_43 (q_geti (v := t.1 59) hm rfl (fun m i l => rg_59 m i l) rfl) rfl rfl rfl ?_
          refine me1 (pc' := 48) (L' := [(4, ii (t.1 59)), (0, .ref 102), (1, .long key), (3, ii p)]) (S' := []) dm_X12_nameWorth_46 rfl rfl rfl rfl ?_
          refine me1 (pc' := 50) (L' := [(4, ii (t.1 59)), (0, .ref 102), (1, .long key), (3, ii p)]) (S' := [ii (t.1 59)]) dm_X12_nameWorth_48 rfl rfl rfl rfl ?_
          refine y_1ge (a := t.1 59) (t := 62) (pc' := 53) dm_X12_nameWorth_50 rfl rfl (by omega) (fun hb5 => ?_) (fun hb5 => ?_)
          · exfalso; omega
          · refine me1 (pc' := 54) (L' := [(4, ii (t.1 59)), (0, .ref 102), (1, .long key), (3, ii p)]) (S' := [.ref 102]) dm_X12_nameWorth_53 rfl rfl rfl rfl ?_
            refine me0 (pc' := 55) (S' := [ii 2, .ref 102]) dm_X12_nameWorth_54 rfl rfl rfl rfl ?_
            refine me1 (pc' := 56) (L' := [(4, ii (t.1 59)), (0, .ref 102), (1, .long key), (3, ii p)]) (S' := [ii p, ii 2, .ref 102]) dm_X12_nameWorth_55 rfl rfl rfl rfl ?_
            refine x_cv (pc' := 59) (rest := []) dm_X12_nameWorth_56 rfl (q_inv (As := [ii 2, ii p]) (S := []) hm rfl rfl rfl) rfl rfl rfl (r_fail_ (s := t) hm (by omega) h5 hca.1 hca.2) ?_
            rintro _ _ ⟨rfl, rfl⟩
            refine me2 (pc' := 64) (S' := [ii (-1)]) dm_X12_nameWorth_59 rfl rfl rfl ?_
            refine y_ret (r := some (ii (-1))) dm_X12_nameWorth_64 rfl rfl rfl ?_
            exact ⟨_, rfl, _, _, rfl, rfl, by rw [failS_5]; decide, by omega, k⟩
        · exact absurd hb4 (by exact hX)
      · exfalso; omega
theorem nm_yV {xt : mj_X} {d : Nat} {pre post : mj_H} {t : RS} (hm : pre.length = 102) (hd1 : 1 ≤ d) {key : Int64} {p : Int} {Q : RS → Int → Prop} (h5 : t.1 5 = 0) (hca : 0 ≤ t.1 10 ∧ t.1 10 ≤ 100) (hX : key ≠ Int64.ofInt 120) (hY : key = Int64.ofInt 121) {q : Nat} (hc0 : t.1 10 ≠ 0) (hv : t.1 59 = (q : Int)) (hq : q ≤ 310000) (k : Q t (q : Int)) : pgV xt d 241 [.ref 102, .long key, ii p] (rS pre post t) (RA pre post Q) := by
  refine x_enter pm_X12_nameWorth (L0 := [(0, .ref 102), (1, .long key), (3, ii p)]) rfl (Nat.le_of_ble_eq_true rfl) (by omega) ?_
  refine me1 (pc' := 1) (L' := [(0, .ref 102), (1, .long key), (3, ii p)]) (S' := [.long key]) dm_X12_nameWorth_0 rfl rfl rfl rfl ?_
  refine me3 (pc' := 4) (S' := [.long (Int64.ofInt 120), .long key]) dm_X12_nameWorth_1 rfl rfl rfl rfl ?_
  refine y_leq (x := key) (y := Int64.ofInt 120) (t := 16) (pc1 := 5) (pc' := 8) dm_X12_nameWorth_4 rfl dm_X12_nameWorth_5 rfl rfl (fun hb1 => ?_) (fun hb1 => ?_)
  · exact absurd hb1 (by exact hX)
  · refine me1 (pc' := 9) (L' := [(0, .ref 102), (1, .long key), (3, ii p)]) (S' := [.long key]) dm_X12_nameWorth_8 rfl rfl rfl rfl ?_
    refine me3 (pc' := 12) (S' := [.long (Int64.ofInt 121), .long key]) dm_X12_nameWorth_9 rfl rfl rfl rfl ?_
    refine y_lne (x := key) (y := Int64.ofInt 121) (t := 65) (pc1 := 13) (pc' := 16) dm_X12_nameWorth_12 rfl dm_X12_nameWorth_13 rfl rfl (fun hb2 => ?_) (fun hb2 => ?_)
    · exact absurd hb2 (by exact fun z => z hY)
    · refine me1 (pc' := 17) (L' := [(0, .ref 102), (1, .long key), (3, ii p)]) (S' := [.ref 102]) dm_X12_nameWorth_16 rfl rfl rfl rfl ?_
      refine me3 (pc' := 20) (S' := [ii (t.1 10)]) dm_X12_nameWorth_17 (q_geti (v := t.1 10) hm rfl (fun m i l => rg_10 m i l) rfl) rfl rfl rfl ?_
      refine y_1ne (a := t.1 10) (t := 27) (pc' := 23) dm_X12_nameWorth_20 rfl rfl (by omega) (fun hb3 => ?_) (fun hb3 => ?_)
      · refine me1 (pc' := 28) (L' := [(0, .ref 102), (1, .long key), (3, ii p)]) (S' := [.long key]) dm_X12_nameWorth_27 rfl rfl rfl rfl ?_
        refine me3 (pc' := 31) (S' := [.long (Int64.ofInt 120), .long key]) dm_X12_nameWorth_28 rfl rfl rfl rfl ?_
        refine y_lne (x := key) (y := Int64.ofInt 120) (t := 42) (pc1 := 32) (pc' := 35) dm_X12_nameWorth_31 rfl dm_X12_nameWorth_32 rfl rfl (fun hb4 => ?_) (fun hb4 => ?_)
        · refine me1 (pc' := 43) (L' := [(0, .ref 102), (1, .long key), (3, ii p)]) (S' := [.ref 102]) dm_X12_nameWorth_42 rfl rfl rfl rfl ?_
          refine me3 (pc' := 46) (S' := [ii (t.1 59)]) dm_X12_nameWorth_43 (q_geti (v := t.1 59) hm rfl (fun m i l => rg_59 m i l) rfl) rfl rfl rfl ?_
          refine pg_st (S' := [ii (q : Int)]) (congrArg (fun z => ii z :: []) (hv)) ?_
          refine me1 (pc' := 48) (L' := [(4, ii (q : Int)), (0, .ref 102), (1, .long key), (3, ii p)]) (S' := []) dm_X12_nameWorth_46 rfl rfl rfl rfl ?_
          refine me1 (pc' := 50) (L' := [(4, ii (q : Int)), (0, .ref 102), (1, .long key), (3, ii p)]) (S' := [ii (q : Int)]) dm_X12_nameWorth_48 rfl rfl rfl rfl ?_
          refine y_1ge (a := (q : Int)) (t := 62) (pc' := 53) dm_X12_nameWorth_50 rfl rfl (by omega) (fun hb5 => ?_) (fun hb5 => ?_)
          · refine me1 (pc' := 64) (L' := [(4, ii (q : Int)), (0, .ref 102), (1, .long key), (3, ii p)]) (S' := [ii (q : Int)]) dm_X12_nameWorth_62 rfl rfl rfl rfl ?_
            refine y_ret (r := some (ii (q : Int))) dm_X12_nameWorth_64 rfl rfl rfl ?_
            exact ⟨_, rfl, _, _, rfl, rfl, by omega, by omega, k⟩
          · exfalso; omega
        · exact absurd hb4 (by exact hX)
      · exfalso; omega
theorem dm_X12_nameWorth_65 : mj_dec prog_14_method_106_code 65 = some (.aload_n 0, 1) := by decide +kernel
theorem dm_X12_nameWorth_66 : mj_dec prog_14_method_106_code 66 = some (.lload_n 1, 1) := by decide +kernel
theorem dm_X12_nameWorth_67 : mj_dec prog_14_method_106_code 67 = some (.invokevirtual 367, 3) := by decide +kernel
theorem dm_X12_nameWorth_70 : mj_dec prog_14_method_106_code 70 = some (.istore 4, 2) := by decide +kernel
theorem dm_X12_nameWorth_72 : mj_dec prog_14_method_106_code 72 = some (.iload 4, 2) := by decide +kernel
theorem dm_X12_nameWorth_74 : mj_dec prog_14_method_106_code 74 = some (.ifCond .ge 12, 3) := by decide +kernel
theorem dm_X12_nameWorth_77 : mj_dec prog_14_method_106_code 77 = some (.aload_n 0, 1) := by decide +kernel
theorem dm_X12_nameWorth_78 : mj_dec prog_14_method_106_code 78 = some (.iconst 2, 1) := by decide +kernel
theorem dm_X12_nameWorth_79 : mj_dec prog_14_method_106_code 79 = some (.iload_n 3, 1) := by decide +kernel
theorem dm_X12_nameWorth_80 : mj_dec prog_14_method_106_code 80 = some (.invokevirtual 190, 3) := by decide +kernel
theorem dm_X12_nameWorth_83 : mj_dec prog_14_method_106_code 83 = some (.goto 10, 3) := by decide +kernel
theorem dm_X12_nameWorth_93 : mj_dec prog_14_method_106_code 93 = some (.ireturn, 1) := by decide +kernel
theorem nm_N {xt : mj_X} {d : Nat} {pre post : mj_H} {t : RS} (hm : pre.length = 102) (hd1 : 1 ≤ d) {key : Int64} {p : Int} {Q : RS → Int → Prop} (h5 : t.1 5 = 0) (hca : 0 ≤ t.1 10 ∧ t.1 10 ≤ 100) (hX : key ≠ Int64.ofInt 120) (hY : key ≠ Int64.ofInt 121) {n m : Nat} (hn : t.1 23 = (n : Int)) (hmn : t.1 24 = (m : Int)) (hn4 : n ≤ 40) (hm4 : m ≤ 40) (hd2 : 2 ≤ d) (hf : ¬ fndK (t.2.2.2 19) n key < n) (k : Q (failS t 2 p) (-1)) : pgV xt d 241 [.ref 102, .long key, ii p] (rS pre post t) (RA pre post Q) := by
  refine x_enter pm_X12_nameWorth (L0 := [(0, .ref 102), (1, .long key), (3, ii p)]) rfl (Nat.le_of_ble_eq_true rfl) (by omega) ?_
  refine me1 (pc' := 1) (L' := [(0, .ref 102), (1, .long key), (3, ii p)]) (S' := [.long key]) dm_X12_nameWorth_0 rfl rfl rfl rfl ?_
  refine me3 (pc' := 4) (S' := [.long (Int64.ofInt 120), .long key]) dm_X12_nameWorth_1 rfl rfl rfl rfl ?_
  refine y_leq (x := key) (y := Int64.ofInt 120) (t := 16) (pc1 := 5) (pc' := 8) dm_X12_nameWorth_4 rfl dm_X12_nameWorth_5 rfl rfl (fun hb1 => ?_) (fun hb1 => ?_)
  · exact absurd hb1 (by exact hX)
  · refine me1 (pc' := 9) (L' := [(0, .ref 102), (1, .long key), (3, ii p)]) (S' := [.long key]) dm_X12_nameWorth_8 rfl rfl rfl rfl ?_
    refine me3 (pc' := 12) (S' := [.long (Int64.ofInt 121), .long key]) dm_X12_nameWorth_9 rfl rfl rfl rfl ?_
    refine y_lne (x := key) (y := Int64.ofInt 121) (t := 65) (pc1 := 13) (pc' := 16) dm_X12_nameWorth_12 rfl dm_X12_nameWorth_13 rfl rfl (fun hb2 => ?_) (fun hb2 => ?_)
    · refine me1 (pc' := 66) (L' := [(0, .ref 102), (1, .long key), (3, ii p)]) (S' := [.ref 102]) dm_X12_nameWorth_65 rfl rfl rfl rfl ?_
      refine me1 (pc' := 67) (L' := [(0, .ref 102), (1, .long key), (3, ii p)]) (S' := [.long key, .ref 102]) dm_X12_nameWorth_66 rfl rfl rfl rfl ?_
      refine x_cp (pc' := 70) (v := ii (fndR (t.2.2.2 19) n key)) (rest := []) dm_X12_nameWorth_67 rfl (q_inv (As := [.long key]) (S := []) hm rfl rfl rfl) rfl rfl rfl (r_valueNamed_ (n := n) (m := m) hm (by omega) hn hmn hn4 hm4) ?_
      refine pg_st (S' := [ii (-1)]) (congrArg (fun z => ii z :: []) (fndR_n hf)) ?_
      refine me1 (pc' := 72) (L' := [(4, ii (-1)), (0, .ref 102), (1, .long key), (3, ii p)]) (S' := []) dm_X12_nameWorth_70 rfl rfl rfl rfl ?_
      refine me1 (pc' := 74) (L' := [(4, ii (-1)), (0, .ref 102), (1, .long key), (3, ii p)]) (S' := [ii (-1)]) dm_X12_nameWorth_72 rfl rfl rfl rfl ?_
      refine me_1f (pc' := 77) dm_X12_nameWorth_74 rfl (by decide) rfl ?_
      refine me1 (pc' := 78) (L' := [(4, ii (-1)), (0, .ref 102), (1, .long key), (3, ii p)]) (S' := [.ref 102]) dm_X12_nameWorth_77 rfl rfl rfl rfl ?_
      refine me0 (pc' := 79) (S' := [ii 2, .ref 102]) dm_X12_nameWorth_78 rfl rfl rfl rfl ?_
      refine me1 (pc' := 80) (L' := [(4, ii (-1)), (0, .ref 102), (1, .long key), (3, ii p)]) (S' := [ii p, ii 2, .ref 102]) dm_X12_nameWorth_79 rfl rfl rfl rfl ?_
      refine x_cv (pc' := 83) (rest := []) dm_X12_nameWorth_80 rfl (q_inv (As := [ii 2, ii p]) (S := []) hm rfl rfl rfl) rfl rfl rfl (r_fail_ (s := t) hm (by omega) h5 hca.1 hca.2) ?_
      rintro _ _ ⟨rfl, rfl⟩
      refine me2 (pc' := 93) (S' := [ii (-1)]) dm_X12_nameWorth_83 rfl rfl rfl ?_
      refine y_ret (r := some (ii (-1))) dm_X12_nameWorth_93 rfl rfl rfl ?_
      exact ⟨_, rfl, _, _, rfl, rfl, by rw [failS_5]; decide, by omega, k⟩
    · exact absurd hb2 (by exact hY)
theorem dm_X12_nameWorth_86 : mj_dec prog_14_method_106_code 86 = some (.aload_n 0, 1) := by decide +kernel
theorem dm_X12_nameWorth_87 : mj_dec prog_14_method_106_code 87 = some (.getfield 49, 3) := by decide +kernel
theorem dm_X12_nameWorth_90 : mj_dec prog_14_method_106_code 90 = some (.iload 4, 2) := by decide +kernel
theorem dm_X12_nameWorth_92 : mj_dec prog_14_method_106_code 92 = some (.iaload, 1) := by decide +kernel
theorem nm_V {xt : mj_X} {d : Nat} {pre post : mj_H} {t : RS} (hm : pre.length = 102) (hd1 : 1 ≤ d) {key : Int64} {p : Int} {Q : RS → Int → Prop} (h5 : t.1 5 = 0) (hca : 0 ≤ t.1 10 ∧ t.1 10 ≤ 100) (hX : key ≠ Int64.ofInt 120) (hY : key ≠ Int64.ofInt 121) {n m : Nat} (hn : t.1 23 = (n : Int)) (hmn : t.1 24 = (m : Int)) (hn4 : n ≤ 40) (hm4 : m ≤ 40) (hd2 : 2 ≤ d) {j q : Nat} (hf : fndK (t.2.2.2 19) n key = j) (hj : j < n) (hv : t.2.2.1 21 j = (q : Int)) (hq : q ≤ 310000) (k : Q t (q : Int)) : pgV xt d 241 [.ref 102, .long key, ii p] (rS pre post t) (RA pre post Q) := by
  refine x_enter pm_X12_nameWorth (L0 := [(0, .ref 102), (1, .long key), (3, ii p)]) rfl (Nat.le_of_ble_eq_true rfl) (by omega) ?_
  refine me1 (pc' := 1) (L' := [(0, .ref 102), (1, .long key), (3, ii p)]) (S' := [.long key]) dm_X12_nameWorth_0 rfl rfl rfl rfl ?_
  refine me3 (pc' := 4) (S' := [.long (Int64.ofInt 120), .long key]) dm_X12_nameWorth_1 rfl rfl rfl rfl ?_
  refine y_leq (x := key) (y := Int64.ofInt 120) (t := 16) (pc1 := 5) (pc' := 8) dm_X12_nameWorth_4 rfl dm_X12_nameWorth_5 rfl rfl (fun hb1 => ?_) (fun hb1 => ?_)
  · exact absurd hb1 (by exact hX)
  · refine me1 (pc' := 9) (L' := [(0, .ref 102), (1, .long key), (3, ii p)]) (S' := [.long key]) dm_X12_nameWorth_8 rfl rfl rfl rfl ?_
    refine me3 (pc' := 12) (S' := [.long (Int64.ofInt 121), .long key]) dm_X12_nameWorth_9 rfl rfl rfl rfl ?_
    refine y_lne (x := key) (y := Int64.ofInt 121) (t := 65) (pc1 := 13) (pc' := 16) dm_X12_nameWorth_12 rfl dm_X12_nameWorth_13 rfl rfl (fun hb2 => ?_) (fun hb2 => ?_)
    · refine me1 (pc' := 66) (L' := [(0, .ref 102), (1, .long key), (3, ii p)]) (S' := [.ref 102]) dm_X12_nameWorth_65 rfl rfl rfl rfl ?_
      refine me1 (pc' := 67) (L' := [(0, .ref 102), (1, .long key), (3, ii p)]) (S' := [.long key, .ref 102]) dm_X12_nameWorth_66 rfl rfl rfl rfl ?_
      refine x_cp (pc' := 70) (v := ii (fndR (t.2.2.2 19) n key)) (rest := []) dm_X12_nameWorth_67 rfl (q_inv (As := [.long key]) (S := []) hm rfl rfl rfl) rfl rfl rfl (r_valueNamed_ (n := n) (m := m) hm (by omega) hn hmn hn4 hm4) ?_
      refine pg_st (S' := [ii ((j : Nat) : Int)]) (congrArg (fun z => ii z :: []) (by rw [fndR_y (by omega), hf])) ?_
      refine me1 (pc' := 72) (L' := [(4, ii ((j : Nat) : Int)), (0, .ref 102), (1, .long key), (3, ii p)]) (S' := []) dm_X12_nameWorth_70 rfl rfl rfl rfl ?_
      refine me1 (pc' := 74) (L' := [(4, ii ((j : Nat) : Int)), (0, .ref 102), (1, .long key), (3, ii p)]) (S' := [ii ((j : Nat) : Int)]) dm_X12_nameWorth_72 rfl rfl rfl rfl ?_
      refine y_1ge (a := ((j : Nat) : Int)) (t := 86) (pc' := 77) dm_X12_nameWorth_74 rfl rfl (by omega) (fun hb3 => ?_) (fun hb3 => ?_)
      · refine me1 (pc' := 87) (L' := [(4, ii ((j : Nat) : Int)), (0, .ref 102), (1, .long key), (3, ii p)]) (S' := [.ref 102]) dm_X12_nameWorth_86 rfl rfl rfl rfl ?_
        refine me3 (pc' := 90) (S' := [.ref (102 + 10)]) dm_X12_nameWorth_87 (q_getr hm rfl (fun m i l => rg_21 m i l)) rfl rfl rfl ?_
        refine me1 (pc' := 92) (L' := [(4, ii ((j : Nat) : Int)), (0, .ref 102), (1, .long key), (3, ii p)]) (S' := [ii ((j : Nat) : Int), .ref (102 + 10)]) dm_X12_nameWorth_90 rfl rfl rfl rfl ?_
        refine me3 (pc' := 93) (S' := [ii ((t.2.2.1 21) j)]) dm_X12_nameWorth_92 (q_iald (v := (t.2.2.1 21) j) (k := 21) (n := 40) hm (fun m i l I J => rc_21 m i l I J) (by omega) (by omega) (by decide) rfl) rfl rfl rfl ?_
        refine pg_st (S' := [ii (q : Int)]) (congrArg (fun z => ii z :: []) (hv)) ?_
        refine y_ret (r := some (ii (q : Int))) dm_X12_nameWorth_93 rfl rfl rfl ?_
        exact ⟨_, rfl, _, _, rfl, rfl, by omega, by omega, k⟩
      · exfalso; omega
    · exact absurd hb2 (by exact hY)
abbrev HP1 (xt : mj_X) (d : Nat) (pre post : mj_H) (t : RS) (b a : Int) (P : Option Value → mj_H → Prop) : Prop := pgE xt d 12 5 false (Option.some Jvm.ClassFile.FieldType.int) (mj_dec prog_14_method_105_code) 7 [(0, .ref 102), (2, ii b), (3, ii a)] [] (rI pre post t.1 t.2.1 t.2.2.1 t.2.2.2) (P)
abbrev HP2 (xt : mj_X) (d : Nat) (pre post : mj_H) (t : RS) (b v : Int) (P : Option Value → mj_H → Prop) : Prop := pgE xt d 12 5 false (Option.some Jvm.ClassFile.FieldType.int) (mj_dec prog_14_method_105_code) 71 [(0, .ref 102), (2, ii b), (4, ii v)] [] (rI pre post t.1 t.2.1 t.2.2.1 t.2.2.2) (P)
set_option maxRecDepth 20000 in
theorem pm_X12_placesWorth : mj_mmof pg_ms 254 = some ((⟨"ArrayCalculatorModel", "placesWorth", "(I)I"⟩, prog_14_method_105_code, 5, (Option.some Jvm.ClassFile.FieldType.int)), 12, false, mj_dec prog_14_method_105_code) := rfl
theorem dm_X12_placesWorth_0 : mj_dec prog_14_method_105_code 0 = some (.aload_n 0, 1) := by decide +kernel
theorem dm_X12_placesWorth_1 : mj_dec prog_14_method_105_code 1 = some (.getfield 202, 3) := by decide +kernel
theorem dm_X12_placesWorth_4 : mj_dec prog_14_method_105_code 4 = some (.istore_n 2, 1) := by decide +kernel
theorem dm_X12_placesWorth_5 : mj_dec prog_14_method_105_code 5 = some (.iload_n 1, 1) := by decide +kernel
theorem dm_X12_placesWorth_6 : mj_dec prog_14_method_105_code 6 = some (.istore_n 3, 1) := by decide +kernel
theorem p_start {xt : mj_X} {d : Nat} {pre post : mj_H} {t : RS} (hm : pre.length = 102) (hd1 : 1 ≤ d) {n : Nat} {Q : RS → Int → Prop} (k : HP1 xt (d - 1) pre post t (t.1 13) (n : Int) (fun r h' => ∃ x, r = some x ∧ RA pre post Q x h')) : pgV xt d 254 [.ref 102, ii (n : Int)] (rS pre post t) (RA pre post Q) := by
  refine x_enter pm_X12_placesWorth (L0 := [(0, .ref 102), (1, ii (n : Int))]) rfl (Nat.le_of_ble_eq_true rfl) (by omega) ?_
  refine me1 (pc' := 1) (L' := [(0, .ref 102), (1, ii (n : Int))]) (S' := [.ref 102]) dm_X12_placesWorth_0 rfl rfl rfl rfl ?_
  refine me3 (pc' := 4) (S' := [ii (t.1 13)]) dm_X12_placesWorth_1 (q_geti (v := t.1 13) hm rfl (fun m i l => rg_13 m i l) rfl) rfl rfl rfl ?_
  refine me1 (pc' := 5) (L' := [(2, ii (t.1 13)), (0, .ref 102), (1, ii (n : Int))]) (S' := []) dm_X12_placesWorth_4 rfl rfl rfl rfl ?_
  refine me1 (pc' := 6) (L' := [(2, ii (t.1 13)), (0, .ref 102), (1, ii (n : Int))]) (S' := [ii (n : Int)]) dm_X12_placesWorth_5 rfl rfl rfl rfl ?_
  refine me1 (pc' := 7) (L' := [(3, ii (n : Int)), (2, ii (t.1 13)), (0, .ref 102), (1, ii (n : Int))]) (S' := []) dm_X12_placesWorth_6 rfl rfl rfl rfl ?_
  exact pg_sub (L := [(0, .ref 102), (2, ii (t.1 13)), (3, ii (n : Int))]) rfl rfl rfl (k)
theorem dm_X12_placesWorth_7 : mj_dec prog_14_method_105_code 7 = some (.aload_n 0, 1) := by decide +kernel
theorem dm_X12_placesWorth_8 : mj_dec prog_14_method_105_code 8 = some (.getfield 75, 3) := by decide +kernel
theorem dm_X12_placesWorth_11 : mj_dec prog_14_method_105_code 11 = some (.iload_n 3, 1) := by decide +kernel
theorem dm_X12_placesWorth_12 : mj_dec prog_14_method_105_code 12 = some (.iaload, 1) := by decide +kernel
theorem dm_X12_placesWorth_13 : mj_dec prog_14_method_105_code 13 = some (.iconst 5, 1) := by decide +kernel
theorem dm_X12_placesWorth_14 : mj_dec prog_14_method_105_code 14 = some (.if_icmp .ne 39, 3) := by decide +kernel
theorem dm_X12_placesWorth_17 : mj_dec prog_14_method_105_code 17 = some (.aload_n 0, 1) := by decide +kernel
theorem dm_X12_placesWorth_18 : mj_dec prog_14_method_105_code 18 = some (.getfield 181, 3) := by decide +kernel
theorem dm_X12_placesWorth_21 : mj_dec prog_14_method_105_code 21 = some (.ifCond .ne 32, 3) := by decide +kernel
theorem dm_X12_placesWorth_24 : mj_dec prog_14_method_105_code 24 = some (.aload_n 0, 1) := by decide +kernel
theorem dm_X12_placesWorth_25 : mj_dec prog_14_method_105_code 25 = some (.iload_n 3, 1) := by decide +kernel
theorem dm_X12_placesWorth_26 : mj_dec prog_14_method_105_code 26 = some (.invokevirtual 264, 3) := by decide +kernel
theorem dm_X12_placesWorth_29 : mj_dec prog_14_method_105_code 29 = some (.aload_n 0, 1) := by decide +kernel
theorem dm_X12_placesWorth_30 : mj_dec prog_14_method_105_code 30 = some (.aload_n 0, 1) := by decide +kernel
theorem dm_X12_placesWorth_31 : mj_dec prog_14_method_105_code 31 = some (.aload_n 0, 1) := by decide +kernel
theorem dm_X12_placesWorth_32 : mj_dec prog_14_method_105_code 32 = some (.getfield 81, 3) := by decide +kernel
theorem dm_X12_placesWorth_35 : mj_dec prog_14_method_105_code 35 = some (.iload_n 3, 1) := by decide +kernel
theorem dm_X12_placesWorth_36 : mj_dec prog_14_method_105_code 36 = some (.iaload, 1) := by decide +kernel
theorem dm_X12_placesWorth_37 : mj_dec prog_14_method_105_code 37 = some (.invokevirtual 523, 3) := by decide +kernel
theorem dm_X12_placesWorth_40 : mj_dec prog_14_method_105_code 40 = some (.invokevirtual 264, 3) := by decide +kernel
theorem dm_X12_placesWorth_43 : mj_dec prog_14_method_105_code 43 = some (.aload_n 0, 1) := by decide +kernel
theorem dm_X12_placesWorth_44 : mj_dec prog_14_method_105_code 44 = some (.getfield 78, 3) := by decide +kernel
theorem dm_X12_placesWorth_47 : mj_dec prog_14_method_105_code 47 = some (.iload_n 3, 1) := by decide +kernel
theorem dm_X12_placesWorth_48 : mj_dec prog_14_method_105_code 48 = some (.iaload, 1) := by decide +kernel
theorem dm_X12_placesWorth_49 : mj_dec prog_14_method_105_code 49 = some (.istore_n 3, 1) := by decide +kernel
theorem dm_X12_placesWorth_50 : mj_dec prog_14_method_105_code 50 = some (.goto (-43), 3) := by decide +kernel
theorem p_turn1 {xt : mj_X} {d : Nat} {pre post : mj_H} {t : RS} {P : Option Value → mj_H → Prop} (hm : pre.length = 102) {a w0 : Nat} {b : Int} (ha : a < 84000) (h5 : t.1 5 = 0) {Q1 : RS → Int → Prop} (hd1 : 1 ≤ d) (hwh : t.2.2.1 43 a = 5) (hw : t.1 13 = (w0 : Int)) (hw0 : w0 < 8192) (hw2 : ∀ u y, Q1 u y → ∃ w1 : Nat, u.1 13 = (w1 : Int) ∧ w1 < 8192) (hc : pgV xt d 239 [.ref 102, ii (t.2.2.1 45 a)] (rS pre post (pshS t w0 (a : Int))) (RA pre post Q1)) (k : ∀ u y (w1 : Nat), Q1 u y → u.1 13 = (w1 : Int) → HP1 xt d pre post (pshS u w1 y) b (u.2.2.1 44 a) P) : HP1 xt d pre post t b (a : Int) P := by
  refine me1 (pc' := 8) (L' := [(0, .ref 102), (2, ii b), (3, ii (a : Int))]) (S' := [.ref 102]) dm_X12_placesWorth_7 rfl rfl rfl rfl ?_
  refine me3 (pc' := 11) (S' := [.ref (102 + 18)]) dm_X12_placesWorth_8 (q_getr hm rfl (fun m i l => rg_43 m i l)) rfl rfl rfl ?_
  refine me1 (pc' := 12) (L' := [(0, .ref 102), (2, ii b), (3, ii (a : Int))]) (S' := [ii (a : Int), .ref (102 + 18)]) dm_X12_placesWorth_11 rfl rfl rfl rfl ?_
  refine me3 (pc' := 13) (S' := [ii ((t.2.2.1 43) a)]) dm_X12_placesWorth_12 (q_iald (v := (t.2.2.1 43) a) (k := 43) (n := 84000) hm (fun m i l I J => rc_43 m i l I J) (by omega) (by omega) (by decide) rfl) rfl rfl rfl ?_
  refine me0 (pc' := 14) (S' := [ii 5, ii ((t.2.2.1 43) a)]) dm_X12_placesWorth_13 rfl rfl rfl rfl ?_
  refine y_2ne (a := (t.2.2.1 43) a) (b := 5) (t := 53) (pc' := 17) dm_X12_placesWorth_14 rfl rfl (by omega) (fun hb1 => ?_) (fun hb1 => ?_)
  · exfalso; omega
  · refine me1 (pc' := 18) (L' := [(0, .ref 102), (2, ii b), (3, ii (a : Int))]) (S' := [.ref 102]) dm_X12_placesWorth_17 rfl rfl rfl rfl ?_
    refine me3 (pc' := 21) (S' := [ii (t.1 5)]) dm_X12_placesWorth_18 (q_geti (v := t.1 5) hm rfl (fun m i l => rg_5 m i l) rfl) rfl rfl rfl ?_
    refine y_1ne (a := t.1 5) (t := 53) (pc' := 24) dm_X12_placesWorth_21 rfl rfl (by omega) (fun hb2 => ?_) (fun hb2 => ?_)
    · exfalso; omega
    · refine me1 (pc' := 25) (L' := [(0, .ref 102), (2, ii b), (3, ii (a : Int))]) (S' := [.ref 102]) dm_X12_placesWorth_24 rfl rfl rfl rfl ?_
      refine me1 (pc' := 26) (L' := [(0, .ref 102), (2, ii b), (3, ii (a : Int))]) (S' := [ii (a : Int), .ref 102]) dm_X12_placesWorth_25 rfl rfl rfl rfl ?_
      refine x_cn (pc' := 29) (rest := []) dm_X12_placesWorth_26 rfl (q_inv (As := [ii (a : Int)]) (S := []) hm rfl rfl rfl) rfl rfl rfl (r_push_ (s := t) (n := w0) hm (by omega) hw (by omega)) ?_
      rintro _ rfl
      refine me1 (pc' := 30) (L' := [(0, .ref 102), (2, ii b), (3, ii (a : Int))]) (S' := [.ref 102]) dm_X12_placesWorth_29 rfl rfl rfl rfl ?_
      refine me1 (pc' := 31) (L' := [(0, .ref 102), (2, ii b), (3, ii (a : Int))]) (S' := [.ref 102, .ref 102]) dm_X12_placesWorth_30 rfl rfl rfl rfl ?_
      refine me1 (pc' := 32) (L' := [(0, .ref 102), (2, ii b), (3, ii (a : Int))]) (S' := [.ref 102, .ref 102, .ref 102]) dm_X12_placesWorth_31 rfl rfl rfl rfl ?_
      refine me3 (pc' := 35) (S' := [.ref (102 + 20), .ref 102, .ref 102]) dm_X12_placesWorth_32 (q_getr hm rfl (fun m i l => rg_45 m i l)) rfl rfl rfl ?_
      refine me1 (pc' := 36) (L' := [(0, .ref 102), (2, ii b), (3, ii (a : Int))]) (S' := [ii (a : Int), .ref (102 + 20), .ref 102, .ref 102]) dm_X12_placesWorth_35 rfl rfl rfl rfl ?_
      refine me3 (pc' := 37) (S' := [ii ((((pshS t w0 (a : Int)).2.2.1) 45) a), .ref 102, .ref 102]) dm_X12_placesWorth_36 (q_iald (v := (((pshS t w0 (a : Int)).2.2.1) 45) a) (k := 45) (n := 84000) hm (fun m i l I J => rc_45 m i l I J) (by omega) (by omega) (by decide) rfl) rfl rfl rfl ?_
      refine x_cv (pc' := 40) (rest := [.ref 102]) dm_X12_placesWorth_37 rfl (q_inv (As := [ii ((((pshS t w0 (a : Int)).2.2.1) 45) a)]) (S := [.ref 102]) hm rfl rfl rfl) rfl rfl rfl (hc) ?_
      rintro x1 g1 f1
      obtain ⟨t1, z1, rfl, rfl, hE1, hZ1, hQ1⟩ := f1
      obtain ⟨w1, hw1, hw1b⟩ := hw2 t1 z1 hQ1
      refine x_cn (pc' := 43) (rest := []) dm_X12_placesWorth_40 rfl (q_inv (As := [ii z1]) (S := []) hm rfl rfl rfl) rfl rfl rfl (r_push_ (s := t1) (n := w1) hm (by omega) hw1 (by omega)) ?_
      rintro _ rfl
      refine me1 (pc' := 44) (L' := [(0, .ref 102), (2, ii b), (3, ii (a : Int))]) (S' := [.ref 102]) dm_X12_placesWorth_43 rfl rfl rfl rfl ?_
      refine me3 (pc' := 47) (S' := [.ref (102 + 19)]) dm_X12_placesWorth_44 (q_getr hm rfl (fun m i l => rg_44 m i l)) rfl rfl rfl ?_
      refine me1 (pc' := 48) (L' := [(0, .ref 102), (2, ii b), (3, ii (a : Int))]) (S' := [ii (a : Int), .ref (102 + 19)]) dm_X12_placesWorth_47 rfl rfl rfl rfl ?_
      refine me3 (pc' := 49) (S' := [ii ((((pshS t1 w1 z1).2.2.1) 44) a)]) dm_X12_placesWorth_48 (q_iald (v := (((pshS t1 w1 z1).2.2.1) 44) a) (k := 44) (n := 84000) hm (fun m i l I J => rc_44 m i l I J) (by omega) (by omega) (by decide) rfl) rfl rfl rfl ?_
      refine me1 (pc' := 50) (L' := [(3, ii ((((pshS t1 w1 z1).2.2.1) 44) a)), (0, .ref 102), (2, ii b)]) (S' := []) dm_X12_placesWorth_49 rfl rfl rfl rfl ?_
      refine me2 (pc' := 7) (S' := []) dm_X12_placesWorth_50 rfl rfl rfl ?_
      exact pg_sub (L := [(0, .ref 102), (2, ii b), (3, ii (t1.2.2.1 44 a))]) rfl rfl rfl (k t1 z1 w1 hQ1 hw1)
theorem dm_X12_placesWorth_53 : mj_dec prog_14_method_105_code 53 = some (.aload_n 0, 1) := by decide +kernel
theorem dm_X12_placesWorth_54 : mj_dec prog_14_method_105_code 54 = some (.getfield 181, 3) := by decide +kernel
theorem dm_X12_placesWorth_57 : mj_dec prog_14_method_105_code 57 = some (.ifCond .le 7, 3) := by decide +kernel
theorem dm_X12_placesWorth_64 : mj_dec prog_14_method_105_code 64 = some (.aload_n 0, 1) := by decide +kernel
theorem dm_X12_placesWorth_65 : mj_dec prog_14_method_105_code 65 = some (.iload_n 3, 1) := by decide +kernel
theorem dm_X12_placesWorth_66 : mj_dec prog_14_method_105_code 66 = some (.invokevirtual 541, 3) := by decide +kernel
theorem dm_X12_placesWorth_69 : mj_dec prog_14_method_105_code 69 = some (.istore 4, 2) := by decide +kernel
theorem p_mid {xt : mj_X} {d : Nat} {pre post : mj_H} {t : RS} {P : Option Value → mj_H → Prop} (hm : pre.length = 102) {a : Nat} {b : Int} (ha : a < 84000) (h5 : t.1 5 = 0) {Q1 : RS → Int → Prop} (hwh : t.2.2.1 43 a ≠ 5 ∧ 0 ≤ t.2.2.1 43 a ∧ t.2.2.1 43 a ≤ 100) (hc : pgV xt d 240 [.ref 102, ii (a : Int)] (rS pre post t) (RA pre post Q1)) (k : ∀ u y, Q1 u y → HP2 xt d pre post u b y P) : HP1 xt d pre post t b (a : Int) P := by
  refine me1 (pc' := 8) (L' := [(0, .ref 102), (2, ii b), (3, ii (a : Int))]) (S' := [.ref 102]) dm_X12_placesWorth_7 rfl rfl rfl rfl ?_
  refine me3 (pc' := 11) (S' := [.ref (102 + 18)]) dm_X12_placesWorth_8 (q_getr hm rfl (fun m i l => rg_43 m i l)) rfl rfl rfl ?_
  refine me1 (pc' := 12) (L' := [(0, .ref 102), (2, ii b), (3, ii (a : Int))]) (S' := [ii (a : Int), .ref (102 + 18)]) dm_X12_placesWorth_11 rfl rfl rfl rfl ?_
  refine me3 (pc' := 13) (S' := [ii ((t.2.2.1 43) a)]) dm_X12_placesWorth_12 (q_iald (v := (t.2.2.1 43) a) (k := 43) (n := 84000) hm (fun m i l I J => rc_43 m i l I J) (by omega) (by omega) (by decide) rfl) rfl rfl rfl ?_
  refine me0 (pc' := 14) (S' := [ii 5, ii ((t.2.2.1 43) a)]) dm_X12_placesWorth_13 rfl rfl rfl rfl ?_
  refine y_2ne (a := (t.2.2.1 43) a) (b := 5) (t := 53) (pc' := 17) dm_X12_placesWorth_14 rfl rfl (by omega) (fun hb1 => ?_) (fun hb1 => ?_)
  · refine me1 (pc' := 54) (L' := [(0, .ref 102), (2, ii b), (3, ii (a : Int))]) (S' := [.ref 102]) dm_X12_placesWorth_53 rfl rfl rfl rfl ?_
    refine me3 (pc' := 57) (S' := [ii (t.1 5)]) dm_X12_placesWorth_54 (q_geti (v := t.1 5) hm rfl (fun m i l => rg_5 m i l) rfl) rfl rfl rfl ?_
    refine y_1le (a := t.1 5) (t := 64) (pc' := 60) dm_X12_placesWorth_57 rfl rfl (by omega) (fun hb2 => ?_) (fun hb2 => ?_)
    · refine me1 (pc' := 65) (L' := [(0, .ref 102), (2, ii b), (3, ii (a : Int))]) (S' := [.ref 102]) dm_X12_placesWorth_64 rfl rfl rfl rfl ?_
      refine me1 (pc' := 66) (L' := [(0, .ref 102), (2, ii b), (3, ii (a : Int))]) (S' := [ii (a : Int), .ref 102]) dm_X12_placesWorth_65 rfl rfl rfl rfl ?_
      refine x_cv (pc' := 69) (rest := []) dm_X12_placesWorth_66 rfl (q_inv (As := [ii (a : Int)]) (S := []) hm rfl rfl rfl) rfl rfl rfl (hc) ?_
      rintro x1 g1 f1
      obtain ⟨t1, z1, rfl, rfl, hE1, hZ1, hQ1⟩ := f1
      refine me1 (pc' := 71) (L' := [(4, ii z1), (0, .ref 102), (2, ii b), (3, ii (a : Int))]) (S' := []) dm_X12_placesWorth_69 rfl rfl rfl rfl ?_
      exact pg_sub (L := [(0, .ref 102), (2, ii b), (4, ii z1)]) rfl rfl rfl (k t1 z1 hQ1)
    · exfalso; omega
  · exfalso; omega
theorem dm_X12_placesWorth_60 : mj_dec prog_14_method_105_code 60 = some (.iconst (-1), 1) := by decide +kernel
theorem dm_X12_placesWorth_61 : mj_dec prog_14_method_105_code 61 = some (.goto 8, 3) := by decide +kernel
theorem dm_X12_placesWorth_71 : mj_dec prog_14_method_105_code 71 = some (.aload_n 0, 1) := by decide +kernel
theorem dm_X12_placesWorth_72 : mj_dec prog_14_method_105_code 72 = some (.getfield 202, 3) := by decide +kernel
theorem dm_X12_placesWorth_75 : mj_dec prog_14_method_105_code 75 = some (.iload_n 2, 1) := by decide +kernel
theorem dm_X12_placesWorth_76 : mj_dec prog_14_method_105_code 76 = some (.if_icmp .le 58, 3) := by decide +kernel
theorem dm_X12_placesWorth_79 : mj_dec prog_14_method_105_code 79 = some (.aload_n 0, 1) := by decide +kernel
theorem dm_X12_placesWorth_80 : mj_dec prog_14_method_105_code 80 = some (.getfield 181, 3) := by decide +kernel
theorem dm_X12_placesWorth_83 : mj_dec prog_14_method_105_code 83 = some (.ifCond .ne 51, 3) := by decide +kernel
theorem dm_X12_placesWorth_134 : mj_dec prog_14_method_105_code 134 = some (.aload_n 0, 1) := by decide +kernel
theorem dm_X12_placesWorth_135 : mj_dec prog_14_method_105_code 135 = some (.getfield 181, 3) := by decide +kernel
theorem dm_X12_placesWorth_138 : mj_dec prog_14_method_105_code 138 = some (.ifCond .le 7, 3) := by decide +kernel
theorem dm_X12_placesWorth_141 : mj_dec prog_14_method_105_code 141 = some (.iconst (-1), 1) := by decide +kernel
theorem dm_X12_placesWorth_142 : mj_dec prog_14_method_105_code 142 = some (.goto 5, 3) := by decide +kernel
theorem dm_X12_placesWorth_147 : mj_dec prog_14_method_105_code 147 = some (.ireturn, 1) := by decide +kernel
theorem p_midE {xt : mj_X} {d : Nat} {pre post : mj_H} {t : RS} {P : Option Value → mj_H → Prop} (hm : pre.length = 102) {a : Nat} {b : Int} (ha : a < 84000) (h5 : 0 < t.1 5 ∧ t.1 5 ≤ 100) (hwh : 0 ≤ t.2.2.1 43 a ∧ t.2.2.1 43 a ≤ 100) (hb : 0 ≤ b ∧ b ≤ 8192) (hw : 0 ≤ t.1 13 ∧ t.1 13 ≤ 8192) (k : P (some (ii (-1))) (rS pre post t)) : HP1 xt d pre post t b (a : Int) P := by
  refine me1 (pc' := 8) (L' := [(0, .ref 102), (2, ii b), (3, ii (a : Int))]) (S' := [.ref 102]) dm_X12_placesWorth_7 rfl rfl rfl rfl ?_
  refine me3 (pc' := 11) (S' := [.ref (102 + 18)]) dm_X12_placesWorth_8 (q_getr hm rfl (fun m i l => rg_43 m i l)) rfl rfl rfl ?_
  refine me1 (pc' := 12) (L' := [(0, .ref 102), (2, ii b), (3, ii (a : Int))]) (S' := [ii (a : Int), .ref (102 + 18)]) dm_X12_placesWorth_11 rfl rfl rfl rfl ?_
  refine me3 (pc' := 13) (S' := [ii ((t.2.2.1 43) a)]) dm_X12_placesWorth_12 (q_iald (v := (t.2.2.1 43) a) (k := 43) (n := 84000) hm (fun m i l I J => rc_43 m i l I J) (by omega) (by omega) (by decide) rfl) rfl rfl rfl ?_
  refine me0 (pc' := 14) (S' := [ii 5, ii ((t.2.2.1 43) a)]) dm_X12_placesWorth_13 rfl rfl rfl rfl ?_
  refine y_2ne (a := (t.2.2.1 43) a) (b := 5) (t := 53) (pc' := 17) dm_X12_placesWorth_14 rfl rfl (by omega) (fun hb1 => ?_) (fun hb1 => ?_)
  · refine me1 (pc' := 54) (L' := [(0, .ref 102), (2, ii b), (3, ii (a : Int))]) (S' := [.ref 102]) dm_X12_placesWorth_53 rfl rfl rfl rfl ?_
    refine me3 (pc' := 57) (S' := [ii (t.1 5)]) dm_X12_placesWorth_54 (q_geti (v := t.1 5) hm rfl (fun m i l => rg_5 m i l) rfl) rfl rfl rfl ?_
    refine y_1le (a := t.1 5) (t := 64) (pc' := 60) dm_X12_placesWorth_57 rfl rfl (by omega) (fun hb2 => ?_) (fun hb2 => ?_)
    · exfalso; omega
    · refine me0 (pc' := 61) (S' := [ii (-1)]) dm_X12_placesWorth_60 rfl rfl rfl rfl ?_
      refine me2 (pc' := 69) (S' := [ii (-1)]) dm_X12_placesWorth_61 rfl rfl rfl ?_
      refine me1 (pc' := 71) (L' := [(4, ii (-1)), (0, .ref 102), (2, ii b), (3, ii (a : Int))]) (S' := []) dm_X12_placesWorth_69 rfl rfl rfl rfl ?_
      refine me1 (pc' := 72) (L' := [(4, ii (-1)), (0, .ref 102), (2, ii b), (3, ii (a : Int))]) (S' := [.ref 102]) dm_X12_placesWorth_71 rfl rfl rfl rfl ?_
      refine me3 (pc' := 75) (S' := [ii (t.1 13)]) dm_X12_placesWorth_72 (q_geti (v := t.1 13) hm rfl (fun m i l => rg_13 m i l) rfl) rfl rfl rfl ?_
      refine me1 (pc' := 76) (L' := [(4, ii (-1)), (0, .ref 102), (2, ii b), (3, ii (a : Int))]) (S' := [ii b, ii (t.1 13)]) dm_X12_placesWorth_75 rfl rfl rfl rfl ?_
      refine y_2le (a := t.1 13) (b := b) (t := 134) (pc' := 79) dm_X12_placesWorth_76 rfl rfl (by omega) (fun hb3 => ?_) (fun hb3 => ?_)
      · refine me1 (pc' := 135) (L' := [(4, ii (-1)), (0, .ref 102), (2, ii b), (3, ii (a : Int))]) (S' := [.ref 102]) dm_X12_placesWorth_134 rfl rfl rfl rfl ?_
        refine me3 (pc' := 138) (S' := [ii (t.1 5)]) dm_X12_placesWorth_135 (q_geti (v := t.1 5) hm rfl (fun m i l => rg_5 m i l) rfl) rfl rfl rfl ?_
        refine y_1le (a := t.1 5) (t := 145) (pc' := 141) dm_X12_placesWorth_138 rfl rfl (by omega) (fun hb4 => ?_) (fun hb4 => ?_)
        · exfalso; omega
        · refine me0 (pc' := 142) (S' := [ii (-1)]) dm_X12_placesWorth_141 rfl rfl rfl rfl ?_
          refine me2 (pc' := 147) (S' := [ii (-1)]) dm_X12_placesWorth_142 rfl rfl rfl ?_
          refine y_ret (r := some (ii (-1))) dm_X12_placesWorth_147 rfl rfl rfl ?_
          exact k
      · refine me1 (pc' := 80) (L' := [(4, ii (-1)), (0, .ref 102), (2, ii b), (3, ii (a : Int))]) (S' := [.ref 102]) dm_X12_placesWorth_79 rfl rfl rfl rfl ?_
        refine me3 (pc' := 83) (S' := [ii (t.1 5)]) dm_X12_placesWorth_80 (q_geti (v := t.1 5) hm rfl (fun m i l => rg_5 m i l) rfl) rfl rfl rfl ?_
        refine y_1ne (a := t.1 5) (t := 134) (pc' := 86) dm_X12_placesWorth_83 rfl rfl (by omega) (fun hb5 => ?_) (fun hb5 => ?_)
        · refine me1 (pc' := 135) (L' := [(4, ii (-1)), (0, .ref 102), (2, ii b), (3, ii (a : Int))]) (S' := [.ref 102]) dm_X12_placesWorth_134 rfl rfl rfl rfl ?_
          refine me3 (pc' := 138) (S' := [ii (t.1 5)]) dm_X12_placesWorth_135 (q_geti (v := t.1 5) hm rfl (fun m i l => rg_5 m i l) rfl) rfl rfl rfl ?_
          refine y_1le (a := t.1 5) (t := 145) (pc' := 141) dm_X12_placesWorth_138 rfl rfl (by omega) (fun hb6 => ?_) (fun hb6 => ?_)
          · exfalso; omega
          · refine me0 (pc' := 142) (S' := [ii (-1)]) dm_X12_placesWorth_141 rfl rfl rfl rfl ?_
            refine me2 (pc' := 147) (S' := [ii (-1)]) dm_X12_placesWorth_142 rfl rfl rfl ?_
            refine y_ret (r := some (ii (-1))) dm_X12_placesWorth_147 rfl rfl rfl ?_
            exact k
        · exfalso; omega
  · refine me1 (pc' := 18) (L' := [(0, .ref 102), (2, ii b), (3, ii (a : Int))]) (S' := [.ref 102]) dm_X12_placesWorth_17 rfl rfl rfl rfl ?_
    refine me3 (pc' := 21) (S' := [ii (t.1 5)]) dm_X12_placesWorth_18 (q_geti (v := t.1 5) hm rfl (fun m i l => rg_5 m i l) rfl) rfl rfl rfl ?_
    refine y_1ne (a := t.1 5) (t := 53) (pc' := 24) dm_X12_placesWorth_21 rfl rfl (by omega) (fun hb7 => ?_) (fun hb7 => ?_)
    · refine me1 (pc' := 54) (L' := [(0, .ref 102), (2, ii b), (3, ii (a : Int))]) (S' := [.ref 102]) dm_X12_placesWorth_53 rfl rfl rfl rfl ?_
      refine me3 (pc' := 57) (S' := [ii (t.1 5)]) dm_X12_placesWorth_54 (q_geti (v := t.1 5) hm rfl (fun m i l => rg_5 m i l) rfl) rfl rfl rfl ?_
      refine y_1le (a := t.1 5) (t := 64) (pc' := 60) dm_X12_placesWorth_57 rfl rfl (by omega) (fun hb8 => ?_) (fun hb8 => ?_)
      · exfalso; omega
      · refine me0 (pc' := 61) (S' := [ii (-1)]) dm_X12_placesWorth_60 rfl rfl rfl rfl ?_
        refine me2 (pc' := 69) (S' := [ii (-1)]) dm_X12_placesWorth_61 rfl rfl rfl ?_
        refine me1 (pc' := 71) (L' := [(4, ii (-1)), (0, .ref 102), (2, ii b), (3, ii (a : Int))]) (S' := []) dm_X12_placesWorth_69 rfl rfl rfl rfl ?_
        refine me1 (pc' := 72) (L' := [(4, ii (-1)), (0, .ref 102), (2, ii b), (3, ii (a : Int))]) (S' := [.ref 102]) dm_X12_placesWorth_71 rfl rfl rfl rfl ?_
        refine me3 (pc' := 75) (S' := [ii (t.1 13)]) dm_X12_placesWorth_72 (q_geti (v := t.1 13) hm rfl (fun m i l => rg_13 m i l) rfl) rfl rfl rfl ?_
        refine me1 (pc' := 76) (L' := [(4, ii (-1)), (0, .ref 102), (2, ii b), (3, ii (a : Int))]) (S' := [ii b, ii (t.1 13)]) dm_X12_placesWorth_75 rfl rfl rfl rfl ?_
        refine y_2le (a := t.1 13) (b := b) (t := 134) (pc' := 79) dm_X12_placesWorth_76 rfl rfl (by omega) (fun hb9 => ?_) (fun hb9 => ?_)
        · refine me1 (pc' := 135) (L' := [(4, ii (-1)), (0, .ref 102), (2, ii b), (3, ii (a : Int))]) (S' := [.ref 102]) dm_X12_placesWorth_134 rfl rfl rfl rfl ?_
          refine me3 (pc' := 138) (S' := [ii (t.1 5)]) dm_X12_placesWorth_135 (q_geti (v := t.1 5) hm rfl (fun m i l => rg_5 m i l) rfl) rfl rfl rfl ?_
          refine y_1le (a := t.1 5) (t := 145) (pc' := 141) dm_X12_placesWorth_138 rfl rfl (by omega) (fun hb10 => ?_) (fun hb10 => ?_)
          · exfalso; omega
          · refine me0 (pc' := 142) (S' := [ii (-1)]) dm_X12_placesWorth_141 rfl rfl rfl rfl ?_
            refine me2 (pc' := 147) (S' := [ii (-1)]) dm_X12_placesWorth_142 rfl rfl rfl ?_
            refine y_ret (r := some (ii (-1))) dm_X12_placesWorth_147 rfl rfl rfl ?_
            exact k
        · refine me1 (pc' := 80) (L' := [(4, ii (-1)), (0, .ref 102), (2, ii b), (3, ii (a : Int))]) (S' := [.ref 102]) dm_X12_placesWorth_79 rfl rfl rfl rfl ?_
          refine me3 (pc' := 83) (S' := [ii (t.1 5)]) dm_X12_placesWorth_80 (q_geti (v := t.1 5) hm rfl (fun m i l => rg_5 m i l) rfl) rfl rfl rfl ?_
          refine y_1ne (a := t.1 5) (t := 134) (pc' := 86) dm_X12_placesWorth_83 rfl rfl (by omega) (fun hb11 => ?_) (fun hb11 => ?_)
          · refine me1 (pc' := 135) (L' := [(4, ii (-1)), (0, .ref 102), (2, ii b), (3, ii (a : Int))]) (S' := [.ref 102]) dm_X12_placesWorth_134 rfl rfl rfl rfl ?_
            refine me3 (pc' := 138) (S' := [ii (t.1 5)]) dm_X12_placesWorth_135 (q_geti (v := t.1 5) hm rfl (fun m i l => rg_5 m i l) rfl) rfl rfl rfl ?_
            refine y_1le (a := t.1 5) (t := 145) (pc' := 141) dm_X12_placesWorth_138 rfl rfl (by omega) (fun hb12 => ?_) (fun hb12 => ?_)
            · exfalso; omega
            · refine me0 (pc' := 142) (S' := [ii (-1)]) dm_X12_placesWorth_141 rfl rfl rfl rfl ?_
              refine me2 (pc' := 147) (S' := [ii (-1)]) dm_X12_placesWorth_142 rfl rfl rfl ?_
              refine y_ret (r := some (ii (-1))) dm_X12_placesWorth_147 rfl rfl rfl ?_
              exact k
          · exfalso; omega
    · exfalso; omega
theorem dm_X12_placesWorth_86 : mj_dec prog_14_method_105_code 86 = some (.aload_n 0, 1) := by decide +kernel
theorem dm_X12_placesWorth_87 : mj_dec prog_14_method_105_code 87 = some (.dup, 1) := by decide +kernel
theorem dm_X12_placesWorth_88 : mj_dec prog_14_method_105_code 88 = some (.getfield 202, 3) := by decide +kernel
theorem dm_X12_placesWorth_91 : mj_dec prog_14_method_105_code 91 = some (.iconst 2, 1) := by decide +kernel
theorem dm_X12_placesWorth_92 : mj_dec prog_14_method_105_code 92 = some (.isub, 1) := by decide +kernel
theorem dm_X12_placesWorth_93 : mj_dec prog_14_method_105_code 93 = some (.putfield 202, 3) := by decide +kernel
theorem dm_X12_placesWorth_96 : mj_dec prog_14_method_105_code 96 = some (.aload_n 0, 1) := by decide +kernel
theorem dm_X12_placesWorth_97 : mj_dec prog_14_method_105_code 97 = some (.bipush 64, 2) := by decide +kernel
theorem dm_X12_placesWorth_99 : mj_dec prog_14_method_105_code 99 = some (.iload 4, 2) := by decide +kernel
theorem dm_X12_placesWorth_101 : mj_dec prog_14_method_105_code 101 = some (.aload_n 0, 1) := by decide +kernel
theorem dm_X12_placesWorth_102 : mj_dec prog_14_method_105_code 102 = some (.getfield 30, 3) := by decide +kernel
theorem dm_X12_placesWorth_105 : mj_dec prog_14_method_105_code 105 = some (.aload_n 0, 1) := by decide +kernel
theorem dm_X12_placesWorth_106 : mj_dec prog_14_method_105_code 106 = some (.getfield 202, 3) := by decide +kernel
theorem dm_X12_placesWorth_109 : mj_dec prog_14_method_105_code 109 = some (.iconst 1, 1) := by decide +kernel
theorem dm_X12_placesWorth_110 : mj_dec prog_14_method_105_code 110 = some (.iadd, 1) := by decide +kernel
theorem dm_X12_placesWorth_111 : mj_dec prog_14_method_105_code 111 = some (.iaload, 1) := by decide +kernel
theorem dm_X12_placesWorth_112 : mj_dec prog_14_method_105_code 112 = some (.aload_n 0, 1) := by decide +kernel
theorem dm_X12_placesWorth_113 : mj_dec prog_14_method_105_code 113 = some (.getfield 87, 3) := by decide +kernel
theorem dm_X12_placesWorth_116 : mj_dec prog_14_method_105_code 116 = some (.aload_n 0, 1) := by decide +kernel
theorem dm_X12_placesWorth_117 : mj_dec prog_14_method_105_code 117 = some (.getfield 30, 3) := by decide +kernel
theorem dm_X12_placesWorth_120 : mj_dec prog_14_method_105_code 120 = some (.aload_n 0, 1) := by decide +kernel
theorem dm_X12_placesWorth_121 : mj_dec prog_14_method_105_code 121 = some (.getfield 202, 3) := by decide +kernel
theorem dm_X12_placesWorth_124 : mj_dec prog_14_method_105_code 124 = some (.iaload, 1) := by decide +kernel
theorem dm_X12_placesWorth_125 : mj_dec prog_14_method_105_code 125 = some (.iaload, 1) := by decide +kernel
theorem dm_X12_placesWorth_126 : mj_dec prog_14_method_105_code 126 = some (.invokevirtual 557, 3) := by decide +kernel
theorem dm_X12_placesWorth_129 : mj_dec prog_14_method_105_code 129 = some (.istore 4, 2) := by decide +kernel
theorem dm_X12_placesWorth_131 : mj_dec prog_14_method_105_code 131 = some (.goto (-60), 3) := by decide +kernel
theorem p_turn2 {xt : mj_X} {d : Nat} {pre post : mj_H} {t : RS} {P : Option Value → mj_H → Prop} (hm : pre.length = 102) {a w0 : Nat} {b v : Int} (ha : a < 84000) (h5 : t.1 5 = 0) {Q1 : RS → Int → Prop} (hw : t.1 13 = ((w0 + 2 : Nat) : Int)) (hw0 : w0 + 2 ≤ 8192) (hb : 0 ≤ b ∧ b ≤ (w0 : Int)) (he : t.2.2.1 12 w0 = (a : Int)) (hc : pgV xt d 255 [.ref 102, ii 64, ii v, ii (t.2.2.1 12 (w0 + 1)), ii (t.2.2.1 47 a)] (rS pre post (gaB t w0)) (RA pre post Q1)) (k : ∀ u y, Q1 u y → HP2 xt d pre post u b y P) : HP2 xt d pre post t b v P := by
  refine me1 (pc' := 72) (L' := [(0, .ref 102), (2, ii b), (4, ii v)]) (S' := [.ref 102]) dm_X12_placesWorth_71 rfl rfl rfl rfl ?_
  refine me3 (pc' := 75) (S' := [ii (t.1 13)]) dm_X12_placesWorth_72 (q_geti (v := t.1 13) hm rfl (fun m i l => rg_13 m i l) rfl) rfl rfl rfl ?_
  refine me1 (pc' := 76) (L' := [(0, .ref 102), (2, ii b), (4, ii v)]) (S' := [ii b, ii (t.1 13)]) dm_X12_placesWorth_75 rfl rfl rfl rfl ?_
  refine y_2le (a := t.1 13) (b := b) (t := 134) (pc' := 79) dm_X12_placesWorth_76 rfl rfl (by omega) (fun hb1 => ?_) (fun hb1 => ?_)
  · exfalso; omega
  · refine me1 (pc' := 80) (L' := [(0, .ref 102), (2, ii b), (4, ii v)]) (S' := [.ref 102]) dm_X12_placesWorth_79 rfl rfl rfl rfl ?_
    refine me3 (pc' := 83) (S' := [ii (t.1 5)]) dm_X12_placesWorth_80 (q_geti (v := t.1 5) hm rfl (fun m i l => rg_5 m i l) rfl) rfl rfl rfl ?_
    refine y_1ne (a := t.1 5) (t := 134) (pc' := 86) dm_X12_placesWorth_83 rfl rfl (by omega) (fun hb2 => ?_) (fun hb2 => ?_)
    · exfalso; omega
    · refine me1 (pc' := 87) (L' := [(0, .ref 102), (2, ii b), (4, ii v)]) (S' := [.ref 102]) dm_X12_placesWorth_86 rfl rfl rfl rfl ?_
      refine me0 (pc' := 88) (S' := [.ref 102, .ref 102]) dm_X12_placesWorth_87 rfl rfl rfl rfl ?_
      refine me3 (pc' := 91) (S' := [ii (t.1 13), .ref 102]) dm_X12_placesWorth_88 (q_geti (v := t.1 13) hm rfl (fun m i l => rg_13 m i l) rfl) rfl rfl rfl ?_
      refine me0 (pc' := 92) (S' := [ii 2, ii (t.1 13), .ref 102]) dm_X12_placesWorth_91 rfl rfl rfl rfl ?_
      refine y_isub (a := t.1 13) (b := 2) dm_X12_placesWorth_92 (pc' := 93) rfl ?_
      refine me3 (pc' := 96) (S' := []) (h1 := rI pre post (va_up t.1 13 ((t.1 13) - 2)) t.2.1 t.2.2.1 t.2.2.2) dm_X12_placesWorth_93 (q_puti hm rfl rfl (fun m i l v => rf_13 m i l v)) rfl rfl rfl ?_
      refine pg_cast (h2 := rI pre post ((gaB t w0).1) ((gaB t w0).2.1) ((gaB t w0).2.2.1) ((gaB t w0).2.2.2)) (by unfold gaB; rw [show t.1 13 - 2 = ((w0 : Nat) : Int) by omega]) ?_
      refine me1 (pc' := 97) (L' := [(0, .ref 102), (2, ii b), (4, ii v)]) (S' := [.ref 102]) dm_X12_placesWorth_96 rfl rfl rfl rfl ?_
      refine me0 (pc' := 99) (S' := [ii 64, .ref 102]) dm_X12_placesWorth_97 rfl rfl rfl rfl ?_
      refine me1 (pc' := 101) (L' := [(0, .ref 102), (2, ii b), (4, ii v)]) (S' := [ii v, ii 64, .ref 102]) dm_X12_placesWorth_99 rfl rfl rfl rfl ?_
      refine me1 (pc' := 102) (L' := [(0, .ref 102), (2, ii b), (4, ii v)]) (S' := [.ref 102, ii v, ii 64, .ref 102]) dm_X12_placesWorth_101 rfl rfl rfl rfl ?_
      refine me3 (pc' := 105) (S' := [.ref (102 + 4), ii v, ii 64, .ref 102]) dm_X12_placesWorth_102 (q_getr hm rfl (fun m i l => rg_12 m i l)) rfl rfl rfl ?_
      refine me1 (pc' := 106) (L' := [(0, .ref 102), (2, ii b), (4, ii v)]) (S' := [.ref 102, .ref (102 + 4), ii v, ii 64, .ref 102]) dm_X12_placesWorth_105 rfl rfl rfl rfl ?_
      refine me3 (pc' := 109) (S' := [ii (((gaB t w0).1) 13), .ref (102 + 4), ii v, ii 64, .ref 102]) dm_X12_placesWorth_106 (q_geti (v := ((gaB t w0).1) 13) hm rfl (fun m i l => rg_13 m i l) rfl) rfl rfl rfl ?_
      refine pg_st (S' := [ii ((w0 : Nat) : Int), .ref (102 + 4), ii v, ii 64, .ref 102]) (congrArg (fun z => ii z :: [.ref (102 + 4), ii v, ii 64, .ref 102]) (gaB_13)) ?_
      refine me0 (pc' := 110) (S' := [ii 1, ii ((w0 : Nat) : Int), .ref (102 + 4), ii v, ii 64, .ref 102]) dm_X12_placesWorth_109 rfl rfl rfl rfl ?_
      refine y_iadd (a := ((w0 : Nat) : Int)) (b := 1) dm_X12_placesWorth_110 (pc' := 111) rfl ?_
      refine pg_st (S' := [ii ((w0 + 1 : Nat) : Int), .ref (102 + 4), ii v, ii 64, .ref 102]) (congrArg (fun z => ii z :: [.ref (102 + 4), ii v, ii 64, .ref 102]) (by push_cast; rfl)) ?_
      refine me3 (pc' := 112) (S' := [ii ((((gaB t w0).2.2.1) 12) (w0 + 1)), ii v, ii 64, .ref 102]) dm_X12_placesWorth_111 (q_iald (v := (((gaB t w0).2.2.1) 12) (w0 + 1)) (k := 12) (n := 8192) hm (fun m i l I J => rc_12 m i l I J) (by omega) (by omega) (by decide) rfl) rfl rfl rfl ?_
      refine me1 (pc' := 113) (L' := [(0, .ref 102), (2, ii b), (4, ii v)]) (S' := [.ref 102, ii ((((gaB t w0).2.2.1) 12) (w0 + 1)), ii v, ii 64, .ref 102]) dm_X12_placesWorth_112 rfl rfl rfl rfl ?_
      refine me3 (pc' := 116) (S' := [.ref (102 + 22), ii ((((gaB t w0).2.2.1) 12) (w0 + 1)), ii v, ii 64, .ref 102]) dm_X12_placesWorth_113 (q_getr hm rfl (fun m i l => rg_47 m i l)) rfl rfl rfl ?_
      refine me1 (pc' := 117) (L' := [(0, .ref 102), (2, ii b), (4, ii v)]) (S' := [.ref 102, .ref (102 + 22), ii ((((gaB t w0).2.2.1) 12) (w0 + 1)), ii v, ii 64, .ref 102]) dm_X12_placesWorth_116 rfl rfl rfl rfl ?_
      refine me3 (pc' := 120) (S' := [.ref (102 + 4), .ref (102 + 22), ii ((((gaB t w0).2.2.1) 12) (w0 + 1)), ii v, ii 64, .ref 102]) dm_X12_placesWorth_117 (q_getr hm rfl (fun m i l => rg_12 m i l)) rfl rfl rfl ?_
      refine me1 (pc' := 121) (L' := [(0, .ref 102), (2, ii b), (4, ii v)]) (S' := [.ref 102, .ref (102 + 4), .ref (102 + 22), ii ((((gaB t w0).2.2.1) 12) (w0 + 1)), ii v, ii 64, .ref 102]) dm_X12_placesWorth_120 rfl rfl rfl rfl ?_
      refine me3 (pc' := 124) (S' := [ii (((gaB t w0).1) 13), .ref (102 + 4), .ref (102 + 22), ii ((((gaB t w0).2.2.1) 12) (w0 + 1)), ii v, ii 64, .ref 102]) dm_X12_placesWorth_121 (q_geti (v := ((gaB t w0).1) 13) hm rfl (fun m i l => rg_13 m i l) rfl) rfl rfl rfl ?_
      refine pg_st (S' := [ii ((w0 : Nat) : Int), .ref (102 + 4), .ref (102 + 22), ii ((((gaB t w0).2.2.1) 12) (w0 + 1)), ii v, ii 64, .ref 102]) (congrArg (fun z => ii z :: [.ref (102 + 4), .ref (102 + 22), ii ((((gaB t w0).2.2.1) 12) (w0 + 1)), ii v, ii 64, .ref 102]) (gaB_13)) ?_
      refine me3 (pc' := 125) (S' := [ii ((((gaB t w0).2.2.1) 12) w0), .ref (102 + 22), ii ((((gaB t w0).2.2.1) 12) (w0 + 1)), ii v, ii 64, .ref 102]) dm_X12_placesWorth_124 (q_iald (v := (((gaB t w0).2.2.1) 12) w0) (k := 12) (n := 8192) hm (fun m i l I J => rc_12 m i l I J) (by omega) (by omega) (by decide) rfl) rfl rfl rfl ?_
      refine pg_st (S' := [ii (a : Int), .ref (102 + 22), ii ((((gaB t w0).2.2.1) 12) (w0 + 1)), ii v, ii 64, .ref 102]) (congrArg (fun z => ii z :: [.ref (102 + 22), ii ((((gaB t w0).2.2.1) 12) (w0 + 1)), ii v, ii 64, .ref 102]) (he)) ?_
      refine me3 (pc' := 126) (S' := [ii ((((gaB t w0).2.2.1) 47) a), ii ((((gaB t w0).2.2.1) 12) (w0 + 1)), ii v, ii 64, .ref 102]) dm_X12_placesWorth_125 (q_iald (v := (((gaB t w0).2.2.1) 47) a) (k := 47) (n := 84000) hm (fun m i l I J => rc_47 m i l I J) (by omega) (by omega) (by decide) rfl) rfl rfl rfl ?_
      refine x_cv (pc' := 129) (rest := []) dm_X12_placesWorth_126 rfl (q_inv (As := [ii 64, ii v, ii ((((gaB t w0).2.2.1) 12) (w0 + 1)), ii ((((gaB t w0).2.2.1) 47) a)]) (S := []) hm rfl rfl rfl) rfl rfl rfl (hc) ?_
      rintro x1 g1 f1
      obtain ⟨t1, z1, rfl, rfl, hE1, hZ1, hQ1⟩ := f1
      refine me1 (pc' := 131) (L' := [(4, ii z1), (0, .ref 102), (2, ii b)]) (S' := []) dm_X12_placesWorth_129 rfl rfl rfl rfl ?_
      refine me2 (pc' := 71) (S' := []) dm_X12_placesWorth_131 rfl rfl rfl ?_
      exact pg_sub (L := [(0, .ref 102), (2, ii b), (4, ii z1)]) rfl rfl rfl (k t1 z1 hQ1)
theorem dm_X12_placesWorth_145 : mj_dec prog_14_method_105_code 145 = some (.iload 4, 2) := by decide +kernel
theorem p_end {xt : mj_X} {d : Nat} {pre post : mj_H} {t : RS} {P : Option Value → mj_H → Prop} (hm : pre.length = 102) {b v : Int} (h5 : t.1 5 = 0) (hb : 0 ≤ b ∧ b ≤ 8192) (hw : t.1 13 = b) (k : P (some (ii v)) (rS pre post t)) : HP2 xt d pre post t b v P := by
  refine me1 (pc' := 72) (L' := [(0, .ref 102), (2, ii b), (4, ii v)]) (S' := [.ref 102]) dm_X12_placesWorth_71 rfl rfl rfl rfl ?_
  refine me3 (pc' := 75) (S' := [ii (t.1 13)]) dm_X12_placesWorth_72 (q_geti (v := t.1 13) hm rfl (fun m i l => rg_13 m i l) rfl) rfl rfl rfl ?_
  refine me1 (pc' := 76) (L' := [(0, .ref 102), (2, ii b), (4, ii v)]) (S' := [ii b, ii (t.1 13)]) dm_X12_placesWorth_75 rfl rfl rfl rfl ?_
  refine y_2le (a := t.1 13) (b := b) (t := 134) (pc' := 79) dm_X12_placesWorth_76 rfl rfl (by omega) (fun hb1 => ?_) (fun hb1 => ?_)
  · refine me1 (pc' := 135) (L' := [(0, .ref 102), (2, ii b), (4, ii v)]) (S' := [.ref 102]) dm_X12_placesWorth_134 rfl rfl rfl rfl ?_
    refine me3 (pc' := 138) (S' := [ii (t.1 5)]) dm_X12_placesWorth_135 (q_geti (v := t.1 5) hm rfl (fun m i l => rg_5 m i l) rfl) rfl rfl rfl ?_
    refine y_1le (a := t.1 5) (t := 145) (pc' := 141) dm_X12_placesWorth_138 rfl rfl (by omega) (fun hb2 => ?_) (fun hb2 => ?_)
    · refine me1 (pc' := 147) (L' := [(0, .ref 102), (2, ii b), (4, ii v)]) (S' := [ii v]) dm_X12_placesWorth_145 rfl rfl rfl rfl ?_
      refine y_ret (r := some (ii v)) dm_X12_placesWorth_147 rfl rfl rfl ?_
      exact k
    · exfalso; omega
  · exfalso; omega
theorem p_err {xt : mj_X} {d : Nat} {pre post : mj_H} {t : RS} {P : Option Value → mj_H → Prop} (hm : pre.length = 102) {b v : Int} (h5 : 0 < t.1 5 ∧ t.1 5 ≤ 100) (hb : 0 ≤ b ∧ b ≤ 8192) (hw : 0 ≤ t.1 13 ∧ t.1 13 ≤ 8192) (k : P (some (ii (-1))) (rS pre post t)) : HP2 xt d pre post t b v P := by
  refine me1 (pc' := 72) (L' := [(0, .ref 102), (2, ii b), (4, ii v)]) (S' := [.ref 102]) dm_X12_placesWorth_71 rfl rfl rfl rfl ?_
  refine me3 (pc' := 75) (S' := [ii (t.1 13)]) dm_X12_placesWorth_72 (q_geti (v := t.1 13) hm rfl (fun m i l => rg_13 m i l) rfl) rfl rfl rfl ?_
  refine me1 (pc' := 76) (L' := [(0, .ref 102), (2, ii b), (4, ii v)]) (S' := [ii b, ii (t.1 13)]) dm_X12_placesWorth_75 rfl rfl rfl rfl ?_
  refine y_2le (a := t.1 13) (b := b) (t := 134) (pc' := 79) dm_X12_placesWorth_76 rfl rfl (by omega) (fun hb1 => ?_) (fun hb1 => ?_)
  · refine me1 (pc' := 135) (L' := [(0, .ref 102), (2, ii b), (4, ii v)]) (S' := [.ref 102]) dm_X12_placesWorth_134 rfl rfl rfl rfl ?_
    refine me3 (pc' := 138) (S' := [ii (t.1 5)]) dm_X12_placesWorth_135 (q_geti (v := t.1 5) hm rfl (fun m i l => rg_5 m i l) rfl) rfl rfl rfl ?_
    refine y_1le (a := t.1 5) (t := 145) (pc' := 141) dm_X12_placesWorth_138 rfl rfl (by omega) (fun hb2 => ?_) (fun hb2 => ?_)
    · exfalso; omega
    · refine me0 (pc' := 142) (S' := [ii (-1)]) dm_X12_placesWorth_141 rfl rfl rfl rfl ?_
      refine me2 (pc' := 147) (S' := [ii (-1)]) dm_X12_placesWorth_142 rfl rfl rfl ?_
      refine y_ret (r := some (ii (-1))) dm_X12_placesWorth_147 rfl rfl rfl ?_
      exact k
  · refine me1 (pc' := 80) (L' := [(0, .ref 102), (2, ii b), (4, ii v)]) (S' := [.ref 102]) dm_X12_placesWorth_79 rfl rfl rfl rfl ?_
    refine me3 (pc' := 83) (S' := [ii (t.1 5)]) dm_X12_placesWorth_80 (q_geti (v := t.1 5) hm rfl (fun m i l => rg_5 m i l) rfl) rfl rfl rfl ?_
    refine y_1ne (a := t.1 5) (t := 134) (pc' := 86) dm_X12_placesWorth_83 rfl rfl (by omega) (fun hb3 => ?_) (fun hb3 => ?_)
    · refine me1 (pc' := 135) (L' := [(0, .ref 102), (2, ii b), (4, ii v)]) (S' := [.ref 102]) dm_X12_placesWorth_134 rfl rfl rfl rfl ?_
      refine me3 (pc' := 138) (S' := [ii (t.1 5)]) dm_X12_placesWorth_135 (q_geti (v := t.1 5) hm rfl (fun m i l => rg_5 m i l) rfl) rfl rfl rfl ?_
      refine y_1le (a := t.1 5) (t := 145) (pc' := 141) dm_X12_placesWorth_138 rfl rfl (by omega) (fun hb4 => ?_) (fun hb4 => ?_)
      · exfalso; omega
      · refine me0 (pc' := 142) (S' := [ii (-1)]) dm_X12_placesWorth_141 rfl rfl rfl rfl ?_
        refine me2 (pc' := 147) (S' := [ii (-1)]) dm_X12_placesWorth_142 rfl rfl rfl ?_
        refine y_ret (r := some (ii (-1))) dm_X12_placesWorth_147 rfl rfl rfl ?_
        exact k
    · exfalso; omega
