/-- behind fail, takes, made -/
def failS (s : RS) (code place : Int) : RS := (va_up (va_up s.1 5 code) 6 (if 0 < s.1 10 then s.1 11 else place), s.2.1, s.2.2.1, s.2.2.2)
def takeS (s : RS) (n : Int) : RS := (va_up (va_up s.1 8 (s.1 8 - n)) 7 (s.1 7 + n), s.2.1, s.2.2.1, s.2.2.2)
def tkS (s : RS) (n place : Int) : RS := if s.1 8 < n then failS s 10 place else takeS s n
def mdS (s : RS) (sz lv : Nat) (place : Int) : RS := if 1000 < sz ∨ 5 < lv then failS s 8 place else tkS s (s.1 9 + (sz : Int)) place
def mdR (s : RS) (sz lv : Nat) (hd : Int) : Int := if 1000 < sz ∨ 5 < lv then -1 else if s.1 8 < s.1 9 + (sz : Int) then -1 else hd
/-- behind settled -/
def setS (s : RS) (hd fr : Nat) (k n : Nat) : RS := (s.1, s.2.1, viewI s.2.2.1 hd (k : Int) (fr : Int) (n : Int), s.2.2.2)
theorem fb_1 {α : Type} (b : Nat) (x : α) (z : Nat → α) : va_up z b x = fb b 1 (fun _ => x) z := by
  have := fb_s b 0 (fun _ => x) z
  rw [fb_0] at this
  exact this
theorem tkS_f {s : RS} {n place : Int} (h : s.1 8 < n) : tkS s n place = failS s 10 place := by unfold tkS; rw [if_pos h]
theorem tkS_t {s : RS} {n place : Int} (h : n ≤ s.1 8) : tkS s n place = takeS s n := by unfold tkS; rw [if_neg (by omega)]
set_option maxRecDepth 20000 in
theorem pm_X12_one : mj_mmof pg_ms 196 = some ((⟨"ArrayCalculatorModel", "one", "(IJ)I"⟩, prog_14_method_11_code, 5, (Option.some Jvm.ClassFile.FieldType.int)), 12, false, mj_dec prog_14_method_11_code) := rfl
theorem dm_X12_one_0 : mj_dec prog_14_method_11_code 0 = some (.aload_n 0, 1) := by decide +kernel
theorem dm_X12_one_1 : mj_dec prog_14_method_11_code 1 = some (.iload_n 1, 1) := by decide +kernel
theorem dm_X12_one_2 : mj_dec prog_14_method_11_code 2 = some (.iconst 1, 1) := by decide +kernel
theorem dm_X12_one_3 : mj_dec prog_14_method_11_code 3 = some (.invokevirtual 126, 3) := by decide +kernel
theorem dm_X12_one_6 : mj_dec prog_14_method_11_code 6 = some (.istore 4, 2) := by decide +kernel
theorem dm_X12_one_8 : mj_dec prog_14_method_11_code 8 = some (.aload_n 0, 1) := by decide +kernel
theorem dm_X12_one_9 : mj_dec prog_14_method_11_code 9 = some (.getfield 8, 3) := by decide +kernel
theorem dm_X12_one_12 : mj_dec prog_14_method_11_code 12 = some (.aload_n 0, 1) := by decide +kernel
theorem dm_X12_one_13 : mj_dec prog_14_method_11_code 13 = some (.getfield 15, 3) := by decide +kernel
theorem dm_X12_one_16 : mj_dec prog_14_method_11_code 16 = some (.iload 4, 2) := by decide +kernel
theorem dm_X12_one_18 : mj_dec prog_14_method_11_code 18 = some (.iaload, 1) := by decide +kernel
theorem dm_X12_one_19 : mj_dec prog_14_method_11_code 19 = some (.lload_n 2, 1) := by decide +kernel
theorem dm_X12_one_20 : mj_dec prog_14_method_11_code 20 = some (.lastore, 1) := by decide +kernel
theorem dm_X12_one_21 : mj_dec prog_14_method_11_code 21 = some (.iload 4, 2) := by decide +kernel
theorem dm_X12_one_23 : mj_dec prog_14_method_11_code 23 = some (.ireturn, 1) := by decide +kernel
theorem r_one_ {xt : mj_X} {d q b : Nat} {pre post : mj_H} {s : RS} (hm : pre.length = 102) (hd1 : 4 ≤ d) (hq : s.1 4 = (q : Int)) (hb : s.1 3 = (b : Int)) (hV2 : q < 310000) (hC2 : b + 1 ≤ 820000) {kind : Int} {x : Int64} (hk : 0 ≤ kind ∧ kind ≤ 7) : pgV xt d 196 [.ref 102, ii kind, .long x] (rS pre post s) (fun v h' => v = ii (q : Int) ∧ h' = rS pre post (fillS (rowS s q b kind 1) b 1 (fun _ => x))) := by
  refine x_enter pm_X12_one (L0 := [(0, .ref 102), (1, ii kind), (2, .long x)]) rfl (Nat.le_of_ble_eq_true rfl) (by omega) ?_
  refine me1 (pc' := 1) (L' := [(0, .ref 102), (1, ii kind), (2, .long x)]) (S' := [.ref 102]) dm_X12_one_0 rfl rfl rfl rfl ?_
  refine me1 (pc' := 2) (L' := [(0, .ref 102), (1, ii kind), (2, .long x)]) (S' := [ii kind, .ref 102]) dm_X12_one_1 rfl rfl rfl rfl ?_
  refine me0 (pc' := 3) (S' := [ii 1, ii kind, .ref 102]) dm_X12_one_2 rfl rfl rfl rfl ?_
  refine x_cv (pc' := 6) (rest := []) dm_X12_one_3 rfl (q_inv (As := [ii kind, ii 1]) (S := []) hm rfl rfl rfl) rfl rfl rfl (r_row_ (q := q) (b := b) (s := s) hm (by omega) hq hb (by omega) (by omega) (by omega)) ?_
  rintro _ _ ⟨rfl, rfl⟩
  refine me1 (pc' := 8) (L' := [(4, ii (q : Int)), (0, .ref 102), (1, ii kind), (2, .long x)]) (S' := []) dm_X12_one_6 rfl rfl rfl rfl ?_
  refine me1 (pc' := 9) (L' := [(4, ii (q : Int)), (0, .ref 102), (1, ii kind), (2, .long x)]) (S' := [.ref 102]) dm_X12_one_8 rfl rfl rfl rfl ?_
  refine me3 (pc' := 12) (S' := [.ref (102 + 1)]) dm_X12_one_9 (q_getr hm rfl (fun m i l => rg_0 m i l)) rfl rfl rfl ?_
  refine me1 (pc' := 13) (L' := [(4, ii (q : Int)), (0, .ref 102), (1, ii kind), (2, .long x)]) (S' := [.ref 102, .ref (102 + 1)]) dm_X12_one_12 rfl rfl rfl rfl ?_
  refine me3 (pc' := 16) (S' := [.ref (102 + 2), .ref (102 + 1)]) dm_X12_one_13 (q_getr hm rfl (fun m i l => rg_1 m i l)) rfl rfl rfl ?_
  refine me1 (pc' := 18) (L' := [(4, ii (q : Int)), (0, .ref 102), (1, ii kind), (2, .long x)]) (S' := [ii (q : Int), .ref (102 + 2), .ref (102 + 1)]) dm_X12_one_16 rfl rfl rfl rfl ?_
  refine me3 (pc' := 19) (S' := [ii ((((rowS s q b kind 1).2.2.1) 1) q), .ref (102 + 1)]) dm_X12_one_18 (q_iald (v := (((rowS s q b kind 1).2.2.1) 1) q) (k := 1) (n := 310000) hm (fun m i l I J => rc_1 m i l I J) (by omega) (by omega) (by decide) rfl) rfl rfl rfl ?_
  refine pg_st (S' := [ii (b : Int), .ref (102 + 1)]) (congrArg (fun z => ii z :: [.ref (102 + 1)]) (up_eq _ _ _)) ?_
  refine me1 (pc' := 20) (L' := [(4, ii (q : Int)), (0, .ref 102), (1, ii kind), (2, .long x)]) (S' := [.long x, ii (b : Int), .ref (102 + 1)]) dm_X12_one_19 rfl rfl rfl rfl ?_
  refine me3 (pc' := 21) (S' := []) (h1 := rI pre post ((rowS s q b kind 1).1) ((rowS s q b kind 1).2.1) ((rowS s q b kind 1).2.2.1) (va_up ((rowS s q b kind 1).2.2.2) 0 (va_up (((rowS s q b kind 1).2.2.2) 0) b x))) dm_X12_one_20 (q_last (j := (b : Int)) (k := 0) (n := 820000) hm (fun m i l I J => rc_0 m i l I J) (fun m i l I J f => rs_0 m i l I J f) (by omega) (by omega) (by decide)) rfl rfl rfl ?_
  refine me1 (pc' := 23) (L' := [(4, ii (q : Int)), (0, .ref 102), (1, ii kind), (2, .long x)]) (S' := [ii (q : Int)]) dm_X12_one_21 rfl rfl rfl rfl ?_
  refine y_ret (r := some (ii (q : Int))) dm_X12_one_23 rfl rfl rfl ?_
  refine ⟨_, rfl, rfl, ?_⟩
  unfold fillS
  rw [← fb_1]
set_option maxRecDepth 20000 in
theorem pm_X12_settled : mj_mmof pg_ms 224 = some ((⟨"ArrayCalculatorModel", "settled", "(I)I"⟩, prog_14_method_13_code, 4, (Option.some Jvm.ClassFile.FieldType.int)), 12, false, mj_dec prog_14_method_13_code) := rfl
theorem dm_X12_settled_0 : mj_dec prog_14_method_13_code 0 = some (.iconst 1, 1) := by decide +kernel
theorem dm_X12_settled_1 : mj_dec prog_14_method_13_code 1 = some (.istore_n 2, 1) := by decide +kernel
theorem dm_X12_settled_2 : mj_dec prog_14_method_13_code 2 = some (.iconst 0, 1) := by decide +kernel
theorem dm_X12_settled_3 : mj_dec prog_14_method_13_code 3 = some (.istore_n 3, 1) := by decide +kernel
theorem dm_X12_settled_4 : mj_dec prog_14_method_13_code 4 = some (.iload_n 3, 1) := by decide +kernel
theorem dm_X12_settled_5 : mj_dec prog_14_method_13_code 5 = some (.aload_n 0, 1) := by decide +kernel
theorem dm_X12_settled_6 : mj_dec prog_14_method_13_code 6 = some (.iload_n 1, 1) := by decide +kernel
theorem dm_X12_settled_7 : mj_dec prog_14_method_13_code 7 = some (.invokevirtual 134, 3) := by decide +kernel
theorem dm_X12_settled_10 : mj_dec prog_14_method_13_code 10 = some (.if_icmp .ge 31, 3) := by decide +kernel
theorem dm_X12_settled_13 : mj_dec prog_14_method_13_code 13 = some (.iload_n 2, 1) := by decide +kernel
theorem dm_X12_settled_14 : mj_dec prog_14_method_13_code 14 = some (.ifCond .eq 19, 3) := by decide +kernel
theorem dm_X12_settled_17 : mj_dec prog_14_method_13_code 17 = some (.aload_n 0, 1) := by decide +kernel
theorem dm_X12_settled_18 : mj_dec prog_14_method_13_code 18 = some (.iload_n 1, 1) := by decide +kernel
theorem dm_X12_settled_19 : mj_dec prog_14_method_13_code 19 = some (.iload_n 3, 1) := by decide +kernel
theorem dm_X12_settled_20 : mj_dec prog_14_method_13_code 20 = some (.invokevirtual 138, 3) := by decide +kernel
theorem dm_X12_settled_23 : mj_dec prog_14_method_13_code 23 = some (.invokestatic 142, 3) := by decide +kernel
theorem dm_X12_settled_26 : mj_dec prog_14_method_13_code 26 = some (.ifCond .eq 7, 3) := by decide +kernel
theorem dm_X12_settled_29 : mj_dec prog_14_method_13_code 29 = some (.iconst 1, 1) := by decide +kernel
theorem dm_X12_settled_30 : mj_dec prog_14_method_13_code 30 = some (.goto 4, 3) := by decide +kernel
theorem dm_X12_settled_33 : mj_dec prog_14_method_13_code 33 = some (.iconst 0, 1) := by decide +kernel
theorem dm_X12_settled_34 : mj_dec prog_14_method_13_code 34 = some (.istore_n 2, 1) := by decide +kernel
theorem dm_X12_settled_35 : mj_dec prog_14_method_13_code 35 = some (.iinc 3 1, 3) := by decide +kernel
theorem dm_X12_settled_38 : mj_dec prog_14_method_13_code 38 = some (.goto (-34), 3) := by decide +kernel
theorem dm_X12_settled_41 : mj_dec prog_14_method_13_code 41 = some (.aload_n 0, 1) := by decide +kernel
theorem dm_X12_settled_42 : mj_dec prog_14_method_13_code 42 = some (.iload_n 1, 1) := by decide +kernel
theorem dm_X12_settled_43 : mj_dec prog_14_method_13_code 43 = some (.iload_n 2, 1) := by decide +kernel
theorem dm_X12_settled_44 : mj_dec prog_14_method_13_code 44 = some (.ifCond .eq 7, 3) := by decide +kernel
theorem dm_X12_settled_47 : mj_dec prog_14_method_13_code 47 = some (.iconst 4, 1) := by decide +kernel
theorem dm_X12_settled_48 : mj_dec prog_14_method_13_code 48 = some (.goto 4, 3) := by decide +kernel
theorem dm_X12_settled_51 : mj_dec prog_14_method_13_code 51 = some (.iconst 5, 1) := by decide +kernel
theorem dm_X12_settled_52 : mj_dec prog_14_method_13_code 52 = some (.aload_n 0, 1) := by decide +kernel
theorem dm_X12_settled_53 : mj_dec prog_14_method_13_code 53 = some (.getfield 15, 3) := by decide +kernel
theorem dm_X12_settled_56 : mj_dec prog_14_method_13_code 56 = some (.iload_n 1, 1) := by decide +kernel
theorem dm_X12_settled_57 : mj_dec prog_14_method_13_code 57 = some (.iaload, 1) := by decide +kernel
theorem dm_X12_settled_58 : mj_dec prog_14_method_13_code 58 = some (.aload_n 0, 1) := by decide +kernel
theorem dm_X12_settled_59 : mj_dec prog_14_method_13_code 59 = some (.iload_n 1, 1) := by decide +kernel
theorem dm_X12_settled_60 : mj_dec prog_14_method_13_code 60 = some (.invokevirtual 134, 3) := by decide +kernel
theorem dm_X12_settled_63 : mj_dec prog_14_method_13_code 63 = some (.invokevirtual 115, 3) := by decide +kernel
theorem dm_X12_settled_66 : mj_dec prog_14_method_13_code 66 = some (.iload_n 1, 1) := by decide +kernel
theorem dm_X12_settled_67 : mj_dec prog_14_method_13_code 67 = some (.ireturn, 1) := by decide +kernel
theorem r_settled_ {xt : mj_X} {d e hd n fr0 : Nat} {pre post : mj_H} {s : RS} {f : Nat → Int64} (hm : pre.length = 102) (hd1 : 2 ≤ d) (hB : rB s) (hv : rv s (e + 1) hd (vrow 5 n f)) (hfr0 : s.2.2.1 1 hd = (fr0 : Int)) : pgV xt d 224 [.ref 102, ii (hd : Int)] (rS pre post s) (fun x h' => x = ii (hd : Int) ∧ h' = rS pre post (setS s hd fr0 (vform n f) n)) := by
  have hB0 := hB
  obtain ⟨hB1, hB2, hB3, hB4⟩ := hB
  obtain ⟨fr, hfr, hsh, hlt, hcl, hvk, hvm, hvc, hvq, hvcl⟩ := rv_val hv
  have hvmn : vm (vrow 5 n f) = n := rfl
  have hvqn : vq (vrow 5 n f) = n := vq_row (by omega)
  have hvkn : vk (vrow 5 n f) = 5 := rfl
  refine x_enter pm_X12_settled (L0 := [(0, .ref 102), (1, ii (hd : Int))]) rfl (Nat.le_of_ble_eq_true rfl) (by omega) ?_
  refine me0 (pc' := 1) (S' := [ii 1]) dm_X12_settled_0 rfl rfl rfl rfl ?_
  refine me1 (pc' := 2) (L' := [(2, ii 1), (0, .ref 102), (1, ii (hd : Int))]) (S' := []) dm_X12_settled_1 rfl rfl rfl rfl ?_
  refine me0 (pc' := 3) (S' := [ii 0]) dm_X12_settled_2 rfl rfl rfl rfl ?_
  refine me1 (pc' := 4) (L' := [(3, ii 0), (2, ii 1), (0, .ref 102), (1, ii (hd : Int))]) (S' := []) dm_X12_settled_3 rfl rfl rfl rfl ?_
  have lp4 : ∀ (n4 : Nat) (k : Nat) (b : Bool), n - k = n4 → (k ≤ n) → (b = allF k f) → pgE xt (d - 1) 12 4 false (Option.some Jvm.ClassFile.FieldType.int) (mj_dec prog_14_method_13_code) 4 [(0, .ref 102), (1, ii (hd : Int)), (2, zz b), (3, ii (k : Int))] [] (rI pre post s.1 s.2.1 s.2.2.1 s.2.2.2) (fun r h' => ∃ x, r = some x ∧ (x = ii (hd : Int) ∧ h' = rS pre post (setS s hd fr0 (vform n f) n))) := by
    intro n4
    induction n4 using Nat.strongRecOn with
    | ind n4 ih4 =>
      intro k b hm4 hk hbk
      refine me1 (pc' := 5) (L' := [(0, .ref 102), (1, ii (hd : Int)), (2, zz b), (3, ii (k : Int))]) (S' := [ii (k : Int)]) dm_X12_settled_4 rfl rfl rfl rfl ?_
      refine me1 (pc' := 6) (L' := [(0, .ref 102), (1, ii (hd : Int)), (2, zz b), (3, ii (k : Int))]) (S' := [.ref 102, ii (k : Int)]) dm_X12_settled_5 rfl rfl rfl rfl ?_
      refine me1 (pc' := 7) (L' := [(0, .ref 102), (1, ii (hd : Int)), (2, zz b), (3, ii (k : Int))]) (S' := [ii (hd : Int), .ref 102, ii (k : Int)]) dm_X12_settled_6 rfl rfl rfl rfl ?_
      refine x_cp (pc' := 10) (v := ii (vm (vrow 5 n f) : Int)) (rest := [ii (k : Int)]) dm_X12_settled_7 rfl (q_inv (As := [ii (hd : Int)]) (S := [ii (k : Int)]) hm rfl rfl rfl) rfl rfl rfl (r_many_ hm (by omega) hB0 hv) ?_
      refine y_2ge (a := (k : Int)) (b := (vm (vrow 5 n f) : Int)) (t := 41) (pc' := 13) dm_X12_settled_10 rfl rfl (by omega) (fun hb1 => ?_) (fun hb1 => ?_)
      · refine me1 (pc' := 42) (L' := [(0, .ref 102), (1, ii (hd : Int)), (2, zz b), (3, ii (k : Int))]) (S' := [.ref 102]) dm_X12_settled_41 rfl rfl rfl rfl ?_
        refine me1 (pc' := 43) (L' := [(0, .ref 102), (1, ii (hd : Int)), (2, zz b), (3, ii (k : Int))]) (S' := [ii (hd : Int), .ref 102]) dm_X12_settled_42 rfl rfl rfl rfl ?_
        refine me1 (pc' := 44) (L' := [(0, .ref 102), (1, ii (hd : Int)), (2, zz b), (3, ii (k : Int))]) (S' := [zz b, ii (hd : Int), .ref 102]) dm_X12_settled_43 rfl rfl rfl rfl ?_
        refine y_zeq (c := b) (t := 51) (pc' := 47) dm_X12_settled_44 rfl rfl (fun hb2 => ?_) (fun hb2 => ?_)
        · refine me0 (pc' := 52) (S' := [ii 5, ii (hd : Int), .ref 102]) dm_X12_settled_51 rfl rfl rfl rfl ?_
          refine me1 (pc' := 53) (L' := [(0, .ref 102), (1, ii (hd : Int)), (2, zz b), (3, ii (k : Int))]) (S' := [.ref 102, ii 5, ii (hd : Int), .ref 102]) dm_X12_settled_52 rfl rfl rfl rfl ?_
          refine me3 (pc' := 56) (S' := [.ref (102 + 2), ii 5, ii (hd : Int), .ref 102]) dm_X12_settled_53 (q_getr hm rfl (fun m i l => rg_1 m i l)) rfl rfl rfl ?_
          refine me1 (pc' := 57) (L' := [(0, .ref 102), (1, ii (hd : Int)), (2, zz b), (3, ii (k : Int))]) (S' := [ii (hd : Int), .ref (102 + 2), ii 5, ii (hd : Int), .ref 102]) dm_X12_settled_56 rfl rfl rfl rfl ?_
          refine me3 (pc' := 58) (S' := [ii ((s.2.2.1 1) hd), ii 5, ii (hd : Int), .ref 102]) dm_X12_settled_57 (q_iald (v := (s.2.2.1 1) hd) (k := 1) (n := 310000) hm (fun m i l I J => rc_1 m i l I J) (by omega) (by omega) (by decide) rfl) rfl rfl rfl ?_
          refine me1 (pc' := 59) (L' := [(0, .ref 102), (1, ii (hd : Int)), (2, zz b), (3, ii (k : Int))]) (S' := [.ref 102, ii ((s.2.2.1 1) hd), ii 5, ii (hd : Int), .ref 102]) dm_X12_settled_58 rfl rfl rfl rfl ?_
          refine me1 (pc' := 60) (L' := [(0, .ref 102), (1, ii (hd : Int)), (2, zz b), (3, ii (k : Int))]) (S' := [ii (hd : Int), .ref 102, ii ((s.2.2.1 1) hd), ii 5, ii (hd : Int), .ref 102]) dm_X12_settled_59 rfl rfl rfl rfl ?_
          refine x_cp (pc' := 63) (v := ii (vm (vrow 5 n f) : Int)) (rest := [ii ((s.2.2.1 1) hd), ii 5, ii (hd : Int), .ref 102]) dm_X12_settled_60 rfl (q_inv (As := [ii (hd : Int)]) (S := [ii ((s.2.2.1 1) hd), ii 5, ii (hd : Int), .ref 102]) hm rfl rfl rfl) rfl rfl rfl (r_many_ hm (by omega) hB0 hv) ?_
          refine x_cn (pc' := 66) (rest := []) dm_X12_settled_63 rfl (q_inv (As := [ii (hd : Int), ii 5, ii ((s.2.2.1 1) hd), ii (vm (vrow 5 n f) : Int)]) (S := []) hm rfl rfl rfl) rfl rfl rfl (r_view_ (hd := hd) hm (by omega) (by omega) (by omega) (by omega)) ?_
          rintro _ rfl
          refine me1 (pc' := 67) (L' := [(0, .ref 102), (1, ii (hd : Int)), (2, zz b), (3, ii (k : Int))]) (S' := [ii (hd : Int)]) dm_X12_settled_66 rfl rfl rfl rfl ?_
          refine y_ret (r := some (ii (hd : Int))) dm_X12_settled_67 rfl rfl rfl ?_
          refine ⟨_, rfl, rfl, ?_⟩
          have hkn : k = n := by omega
          subst hkn
          unfold setS vform
          rw [if_neg (by rw [← hbk, hb2]; decide), hfr0]
          rfl
        · refine me0 (pc' := 48) (S' := [ii 4, ii (hd : Int), .ref 102]) dm_X12_settled_47 rfl rfl rfl rfl ?_
          refine me2 (pc' := 52) (S' := [ii 4, ii (hd : Int), .ref 102]) dm_X12_settled_48 rfl rfl rfl ?_
          refine me1 (pc' := 53) (L' := [(0, .ref 102), (1, ii (hd : Int)), (2, zz b), (3, ii (k : Int))]) (S' := [.ref 102, ii 4, ii (hd : Int), .ref 102]) dm_X12_settled_52 rfl rfl rfl rfl ?_
          refine me3 (pc' := 56) (S' := [.ref (102 + 2), ii 4, ii (hd : Int), .ref 102]) dm_X12_settled_53 (q_getr hm rfl (fun m i l => rg_1 m i l)) rfl rfl rfl ?_
          refine me1 (pc' := 57) (L' := [(0, .ref 102), (1, ii (hd : Int)), (2, zz b), (3, ii (k : Int))]) (S' := [ii (hd : Int), .ref (102 + 2), ii 4, ii (hd : Int), .ref 102]) dm_X12_settled_56 rfl rfl rfl rfl ?_
          refine me3 (pc' := 58) (S' := [ii ((s.2.2.1 1) hd), ii 4, ii (hd : Int), .ref 102]) dm_X12_settled_57 (q_iald (v := (s.2.2.1 1) hd) (k := 1) (n := 310000) hm (fun m i l I J => rc_1 m i l I J) (by omega) (by omega) (by decide) rfl) rfl rfl rfl ?_
          refine me1 (pc' := 59) (L' := [(0, .ref 102), (1, ii (hd : Int)), (2, zz b), (3, ii (k : Int))]) (S' := [.ref 102, ii ((s.2.2.1 1) hd), ii 4, ii (hd : Int), .ref 102]) dm_X12_settled_58 rfl rfl rfl rfl ?_
          refine me1 (pc' := 60) (L' := [(0, .ref 102), (1, ii (hd : Int)), (2, zz b), (3, ii (k : Int))]) (S' := [ii (hd : Int), .ref 102, ii ((s.2.2.1 1) hd), ii 4, ii (hd : Int), .ref 102]) dm_X12_settled_59 rfl rfl rfl rfl ?_
          refine x_cp (pc' := 63) (v := ii (vm (vrow 5 n f) : Int)) (rest := [ii ((s.2.2.1 1) hd), ii 4, ii (hd : Int), .ref 102]) dm_X12_settled_60 rfl (q_inv (As := [ii (hd : Int)]) (S := [ii ((s.2.2.1 1) hd), ii 4, ii (hd : Int), .ref 102]) hm rfl rfl rfl) rfl rfl rfl (r_many_ hm (by omega) hB0 hv) ?_
          refine x_cn (pc' := 66) (rest := []) dm_X12_settled_63 rfl (q_inv (As := [ii (hd : Int), ii 4, ii ((s.2.2.1 1) hd), ii (vm (vrow 5 n f) : Int)]) (S := []) hm rfl rfl rfl) rfl rfl rfl (r_view_ (hd := hd) hm (by omega) (by omega) (by omega) (by omega)) ?_
          rintro _ rfl
          refine me1 (pc' := 67) (L' := [(0, .ref 102), (1, ii (hd : Int)), (2, zz b), (3, ii (k : Int))]) (S' := [ii (hd : Int)]) dm_X12_settled_66 rfl rfl rfl rfl ?_
          refine y_ret (r := some (ii (hd : Int))) dm_X12_settled_67 rfl rfl rfl ?_
          refine ⟨_, rfl, rfl, ?_⟩
          have hkn : k = n := by omega
          subst hkn
          unfold setS vform
          rw [if_pos (by rw [← hbk]; exact hb2), hfr0]
          rfl
      · refine me1 (pc' := 14) (L' := [(0, .ref 102), (1, ii (hd : Int)), (2, zz b), (3, ii (k : Int))]) (S' := [zz b]) dm_X12_settled_13 rfl rfl rfl rfl ?_
        refine y_zeq (c := b) (t := 33) (pc' := 17) dm_X12_settled_14 rfl rfl (fun hb3 => ?_) (fun hb3 => ?_)
        · have hbf : b = false := hb3
          refine me0 (pc' := 34) (S' := [ii 0]) dm_X12_settled_33 rfl rfl rfl rfl ?_
          refine me1 (pc' := 35) (L' := [(2, ii 0), (0, .ref 102), (1, ii (hd : Int)), (3, ii (k : Int))]) (S' := []) dm_X12_settled_34 rfl rfl rfl rfl ?_
          refine y_iinc (pc' := 38) (L' := [(3, ii ((k : Int) + 1)), (2, ii 0), (0, .ref 102), (1, ii (hd : Int))]) dm_X12_settled_35 (y_incp (a := (k : Int)) (c := 1) rfl rfl (by decide)) rfl ?_
          refine me2 (pc' := 4) (S' := []) dm_X12_settled_38 rfl rfl rfl ?_
          exact pg_sub (L := [(0, .ref 102), (1, ii (hd : Int)), (2, zz false), (3, ii ((k + 1) : Int))]) rfl rfl rfl (ih4 (n - (k + 1)) (by omega) (k + 1) false rfl (by omega) (by show false = (allF k f && fitsB (f k)); first | (rw [← hbk, hbf]; rfl) | (rw [show fitsB (f k) = false from hd1, Bool.and_false])))
        · have hbt : b = true := hb3
          refine me1 (pc' := 18) (L' := [(0, .ref 102), (1, ii (hd : Int)), (2, zz b), (3, ii (k : Int))]) (S' := [.ref 102]) dm_X12_settled_17 rfl rfl rfl rfl ?_
          refine me1 (pc' := 19) (L' := [(0, .ref 102), (1, ii (hd : Int)), (2, zz b), (3, ii (k : Int))]) (S' := [ii (hd : Int), .ref 102]) dm_X12_settled_18 rfl rfl rfl rfl ?_
          refine me1 (pc' := 20) (L' := [(0, .ref 102), (1, ii (hd : Int)), (2, zz b), (3, ii (k : Int))]) (S' := [ii (k : Int), ii (hd : Int), .ref 102]) dm_X12_settled_19 rfl rfl rfl rfl ?_
          refine x_cp (pc' := 23) (v := .long (vn (vrow 5 n f) k)) (rest := []) dm_X12_settled_20 rfl (q_inv (As := [ii (hd : Int), ii (k : Int)]) (S := []) hm rfl rfl rfl) rfl rfl rfl (r_number_ (k := k) hm (by omega) hB0 hv (by omega) (by omega)) ?_
          refine x_cp (pc' := 26) (v := zz (fitsB (vn (vrow 5 n f) k))) (rest := []) dm_X12_settled_23 rfl (g_invs (As := [.long (vn (vrow 5 n f) k)]) (S := []) rfl rfl rfl) rfl rfl rfl (r_fits_ (by omega)) ?_
          refine y_zeq (c := fitsB (vn (vrow 5 n f) k)) (t := 33) (pc' := 29) dm_X12_settled_26 rfl rfl (fun hb4 => ?_) (fun hb4 => ?_)
          · refine me0 (pc' := 34) (S' := [ii 0]) dm_X12_settled_33 rfl rfl rfl rfl ?_
            refine me1 (pc' := 35) (L' := [(2, ii 0), (0, .ref 102), (1, ii (hd : Int)), (3, ii (k : Int))]) (S' := []) dm_X12_settled_34 rfl rfl rfl rfl ?_
            refine y_iinc (pc' := 38) (L' := [(3, ii ((k : Int) + 1)), (2, ii 0), (0, .ref 102), (1, ii (hd : Int))]) dm_X12_settled_35 (y_incp (a := (k : Int)) (c := 1) rfl rfl (by decide)) rfl ?_
            refine me2 (pc' := 4) (S' := []) dm_X12_settled_38 rfl rfl rfl ?_
            exact pg_sub (L := [(0, .ref 102), (1, ii (hd : Int)), (2, zz false), (3, ii ((k + 1) : Int))]) rfl rfl rfl (ih4 (n - (k + 1)) (by omega) (k + 1) false rfl (by omega) (by show false = (allF k f && fitsB (f k)); first | (rw [← hbk, hbf]; rfl) | (rw [show fitsB (f k) = false from hb4, Bool.and_false])))
          · refine me0 (pc' := 30) (S' := [ii 1]) dm_X12_settled_29 rfl rfl rfl rfl ?_
            refine me2 (pc' := 34) (S' := [ii 1]) dm_X12_settled_30 rfl rfl rfl ?_
            refine me1 (pc' := 35) (L' := [(2, ii 1), (0, .ref 102), (1, ii (hd : Int)), (3, ii (k : Int))]) (S' := []) dm_X12_settled_34 rfl rfl rfl rfl ?_
            refine y_iinc (pc' := 38) (L' := [(3, ii ((k : Int) + 1)), (2, ii 1), (0, .ref 102), (1, ii (hd : Int))]) dm_X12_settled_35 (y_incp (a := (k : Int)) (c := 1) rfl rfl (by decide)) rfl ?_
            refine me2 (pc' := 4) (S' := []) dm_X12_settled_38 rfl rfl rfl ?_
            exact pg_sub (L := [(0, .ref 102), (1, ii (hd : Int)), (2, zz true), (3, ii ((k + 1) : Int))]) rfl rfl rfl (ih4 (n - (k + 1)) (by omega) (k + 1) true rfl (by omega) (by show true = (allF k f && fitsB (f k)); rw [← hbk, hbt]; exact (show fitsB (f k) = true from hb4).symm))
  exact pg_sub (L := [(0, .ref 102), (1, ii (hd : Int)), (2, zz true), (3, ii (0 : Int))]) rfl rfl rfl (lp4 _ 0 true rfl (by omega) rfl)
set_option maxRecDepth 20000 in
theorem pm_X12_fail : mj_mmof pg_ms 233 = some ((⟨"ArrayCalculatorModel", "fail", "(II)I"⟩, prog_14_method_24_code, 3, (Option.some Jvm.ClassFile.FieldType.int)), 12, false, mj_dec prog_14_method_24_code) := rfl
theorem dm_X12_fail_0 : mj_dec prog_14_method_24_code 0 = some (.aload_n 0, 1) := by decide +kernel
theorem dm_X12_fail_1 : mj_dec prog_14_method_24_code 1 = some (.getfield 181, 3) := by decide +kernel
theorem dm_X12_fail_4 : mj_dec prog_14_method_24_code 4 = some (.ifCond .ne 27, 3) := by decide +kernel
theorem dm_X12_fail_7 : mj_dec prog_14_method_24_code 7 = some (.aload_n 0, 1) := by decide +kernel
theorem dm_X12_fail_8 : mj_dec prog_14_method_24_code 8 = some (.iload_n 1, 1) := by decide +kernel
theorem dm_X12_fail_9 : mj_dec prog_14_method_24_code 9 = some (.putfield 181, 3) := by decide +kernel
theorem dm_X12_fail_12 : mj_dec prog_14_method_24_code 12 = some (.aload_n 0, 1) := by decide +kernel
theorem dm_X12_fail_13 : mj_dec prog_14_method_24_code 13 = some (.aload_n 0, 1) := by decide +kernel
theorem dm_X12_fail_14 : mj_dec prog_14_method_24_code 14 = some (.getfield 184, 3) := by decide +kernel
theorem dm_X12_fail_17 : mj_dec prog_14_method_24_code 17 = some (.ifCond .le 10, 3) := by decide +kernel
theorem dm_X12_fail_20 : mj_dec prog_14_method_24_code 20 = some (.aload_n 0, 1) := by decide +kernel
theorem dm_X12_fail_21 : mj_dec prog_14_method_24_code 21 = some (.getfield 187, 3) := by decide +kernel
theorem dm_X12_fail_24 : mj_dec prog_14_method_24_code 24 = some (.goto 4, 3) := by decide +kernel
theorem dm_X12_fail_27 : mj_dec prog_14_method_24_code 27 = some (.iload_n 2, 1) := by decide +kernel
theorem dm_X12_fail_28 : mj_dec prog_14_method_24_code 28 = some (.putfield 22, 3) := by decide +kernel
theorem dm_X12_fail_31 : mj_dec prog_14_method_24_code 31 = some (.iconst (-1), 1) := by decide +kernel
theorem dm_X12_fail_32 : mj_dec prog_14_method_24_code 32 = some (.ireturn, 1) := by decide +kernel
theorem r_fail_ {xt : mj_X} {d : Nat} {pre post : mj_H} {s : RS} {code place : Int} (hm : pre.length = 102) (hd1 : 1 ≤ d) (he0 : s.1 5 = 0) (hcl : 0 ≤ s.1 10) (hcl2 : s.1 10 ≤ 100) : pgV xt d 233 [.ref 102, ii code, ii place] (rS pre post s) (fun v h' => v = ii (-1) ∧ h' = rS pre post (failS s code place)) := by
  refine x_enter pm_X12_fail (L0 := [(0, .ref 102), (1, ii code), (2, ii place)]) rfl (Nat.le_of_ble_eq_true rfl) (by omega) ?_
  refine me1 (pc' := 1) (L' := [(0, .ref 102), (1, ii code), (2, ii place)]) (S' := [.ref 102]) dm_X12_fail_0 rfl rfl rfl rfl ?_
  refine me3 (pc' := 4) (S' := [ii (s.1 5)]) dm_X12_fail_1 (q_geti (v := s.1 5) hm rfl (fun m i l => rg_5 m i l) rfl) rfl rfl rfl ?_
  refine y_1ne (a := s.1 5) (t := 31) (pc' := 7) dm_X12_fail_4 rfl rfl (by omega) (fun hb1 => ?_) (fun hb1 => ?_)
  · exfalso; omega
  · refine me1 (pc' := 8) (L' := [(0, .ref 102), (1, ii code), (2, ii place)]) (S' := [.ref 102]) dm_X12_fail_7 rfl rfl rfl rfl ?_
    refine me1 (pc' := 9) (L' := [(0, .ref 102), (1, ii code), (2, ii place)]) (S' := [ii code, .ref 102]) dm_X12_fail_8 rfl rfl rfl rfl ?_
    refine me3 (pc' := 12) (S' := []) (h1 := rI pre post (va_up s.1 5 code) s.2.1 s.2.2.1 s.2.2.2) dm_X12_fail_9 (q_puti hm rfl rfl (fun m i l v => rf_5 m i l v)) rfl rfl rfl ?_
    refine me1 (pc' := 13) (L' := [(0, .ref 102), (1, ii code), (2, ii place)]) (S' := [.ref 102]) dm_X12_fail_12 rfl rfl rfl rfl ?_
    refine me1 (pc' := 14) (L' := [(0, .ref 102), (1, ii code), (2, ii place)]) (S' := [.ref 102, .ref 102]) dm_X12_fail_13 rfl rfl rfl rfl ?_
    refine me3 (pc' := 17) (S' := [ii (s.1 10), .ref 102]) dm_X12_fail_14 (q_geti (v := s.1 10) hm rfl (fun m i l => rg_10 m i l) rfl) rfl rfl rfl ?_
    refine y_1le (a := s.1 10) (t := 27) (pc' := 20) dm_X12_fail_17 rfl rfl (by omega) (fun hb2 => ?_) (fun hb2 => ?_)
    · refine me1 (pc' := 28) (L' := [(0, .ref 102), (1, ii code), (2, ii place)]) (S' := [ii place, .ref 102]) dm_X12_fail_27 rfl rfl rfl rfl ?_
      refine me3 (pc' := 31) (S' := []) (h1 := rI pre post (va_up (va_up s.1 5 code) 6 place) s.2.1 s.2.2.1 s.2.2.2) dm_X12_fail_28 (q_puti hm rfl rfl (fun m i l v => rf_6 m i l v)) rfl rfl rfl ?_
      refine me0 (pc' := 32) (S' := [ii (-1)]) dm_X12_fail_31 rfl rfl rfl rfl ?_
      refine y_ret (r := some (ii (-1))) dm_X12_fail_32 rfl rfl rfl ?_
      refine ⟨_, rfl, rfl, ?_⟩
      unfold failS
      first | rw [if_pos (by omega)] | rw [if_neg (by omega)]
    · refine me1 (pc' := 21) (L' := [(0, .ref 102), (1, ii code), (2, ii place)]) (S' := [.ref 102, .ref 102]) dm_X12_fail_20 rfl rfl rfl rfl ?_
      refine me3 (pc' := 24) (S' := [ii (s.1 11), .ref 102]) dm_X12_fail_21 (q_geti (v := s.1 11) hm rfl (fun m i l => rg_11 m i l) rfl) rfl rfl rfl ?_
      refine me2 (pc' := 28) (S' := [ii (s.1 11), .ref 102]) dm_X12_fail_24 rfl rfl rfl ?_
      refine me3 (pc' := 31) (S' := []) (h1 := rI pre post (va_up (va_up s.1 5 code) 6 (s.1 11)) s.2.1 s.2.2.1 s.2.2.2) dm_X12_fail_28 (q_puti hm rfl rfl (fun m i l v => rf_6 m i l v)) rfl rfl rfl ?_
      refine me0 (pc' := 32) (S' := [ii (-1)]) dm_X12_fail_31 rfl rfl rfl rfl ?_
      refine y_ret (r := some (ii (-1))) dm_X12_fail_32 rfl rfl rfl ?_
      refine ⟨_, rfl, rfl, ?_⟩
      unfold failS
      first | rw [if_pos (by omega)] | rw [if_neg (by omega)]
set_option maxRecDepth 20000 in
theorem pm_X12_takes : mj_mmof pg_ms 253 = some ((⟨"ArrayCalculatorModel", "takes", "(II)Z"⟩, prog_14_method_25_code, 3, (Option.some Jvm.ClassFile.FieldType.boolean)), 12, false, mj_dec prog_14_method_25_code) := rfl
theorem dm_X12_takes_0 : mj_dec prog_14_method_25_code 0 = some (.aload_n 0, 1) := by decide +kernel
theorem dm_X12_takes_1 : mj_dec prog_14_method_25_code 1 = some (.getfield 27, 3) := by decide +kernel
theorem dm_X12_takes_4 : mj_dec prog_14_method_25_code 4 = some (.iload_n 1, 1) := by decide +kernel
theorem dm_X12_takes_5 : mj_dec prog_14_method_25_code 5 = some (.if_icmp .ge 13, 3) := by decide +kernel
theorem dm_X12_takes_8 : mj_dec prog_14_method_25_code 8 = some (.aload_n 0, 1) := by decide +kernel
theorem dm_X12_takes_9 : mj_dec prog_14_method_25_code 9 = some (.bipush 10, 2) := by decide +kernel
theorem dm_X12_takes_11 : mj_dec prog_14_method_25_code 11 = some (.iload_n 2, 1) := by decide +kernel
theorem dm_X12_takes_12 : mj_dec prog_14_method_25_code 12 = some (.invokevirtual 190, 3) := by decide +kernel
theorem dm_X12_takes_15 : mj_dec prog_14_method_25_code 15 = some (.pop, 1) := by decide +kernel
theorem dm_X12_takes_16 : mj_dec prog_14_method_25_code 16 = some (.iconst 0, 1) := by decide +kernel
theorem dm_X12_takes_17 : mj_dec prog_14_method_25_code 17 = some (.ireturn, 1) := by decide +kernel
theorem dm_X12_takes_18 : mj_dec prog_14_method_25_code 18 = some (.aload_n 0, 1) := by decide +kernel
theorem dm_X12_takes_19 : mj_dec prog_14_method_25_code 19 = some (.dup, 1) := by decide +kernel
theorem dm_X12_takes_20 : mj_dec prog_14_method_25_code 20 = some (.getfield 27, 3) := by decide +kernel
theorem dm_X12_takes_23 : mj_dec prog_14_method_25_code 23 = some (.iload_n 1, 1) := by decide +kernel
theorem dm_X12_takes_24 : mj_dec prog_14_method_25_code 24 = some (.isub, 1) := by decide +kernel
theorem dm_X12_takes_25 : mj_dec prog_14_method_25_code 25 = some (.putfield 27, 3) := by decide +kernel
theorem dm_X12_takes_28 : mj_dec prog_14_method_25_code 28 = some (.aload_n 0, 1) := by decide +kernel
theorem dm_X12_takes_29 : mj_dec prog_14_method_25_code 29 = some (.dup, 1) := by decide +kernel
theorem dm_X12_takes_30 : mj_dec prog_14_method_25_code 30 = some (.getfield 193, 3) := by decide +kernel
theorem dm_X12_takes_33 : mj_dec prog_14_method_25_code 33 = some (.iload_n 1, 1) := by decide +kernel
theorem dm_X12_takes_34 : mj_dec prog_14_method_25_code 34 = some (.iadd, 1) := by decide +kernel
theorem dm_X12_takes_35 : mj_dec prog_14_method_25_code 35 = some (.putfield 193, 3) := by decide +kernel
theorem dm_X12_takes_38 : mj_dec prog_14_method_25_code 38 = some (.iconst 1, 1) := by decide +kernel
theorem dm_X12_takes_39 : mj_dec prog_14_method_25_code 39 = some (.ireturn, 1) := by decide +kernel
theorem r_takes_ {xt : mj_X} {d : Nat} {pre post : mj_H} {s : RS} {n place : Int} (hm : pre.length = 102) (hd1 : 2 ≤ d) (he0 : s.1 5 = 0) (hca : 0 ≤ s.1 10) (hca2 : s.1 10 ≤ 100) (hl1 : 0 ≤ s.1 8) (hl2 : s.1 8 ≤ 500000) (hn : 0 ≤ n ∧ n ≤ 1000000) : pgV xt d 253 [.ref 102, ii n, ii place] (rS pre post s) (fun v h' => v = zz (decide (n ≤ s.1 8)) ∧ h' = rS pre post (tkS s n place)) := by
  refine x_enter pm_X12_takes (L0 := [(0, .ref 102), (1, ii n), (2, ii place)]) rfl (Nat.le_of_ble_eq_true rfl) (by omega) ?_
  refine me1 (pc' := 1) (L' := [(0, .ref 102), (1, ii n), (2, ii place)]) (S' := [.ref 102]) dm_X12_takes_0 rfl rfl rfl rfl ?_
  refine me3 (pc' := 4) (S' := [ii (s.1 8)]) dm_X12_takes_1 (q_geti (v := s.1 8) hm rfl (fun m i l => rg_8 m i l) rfl) rfl rfl rfl ?_
  refine me1 (pc' := 5) (L' := [(0, .ref 102), (1, ii n), (2, ii place)]) (S' := [ii n, ii (s.1 8)]) dm_X12_takes_4 rfl rfl rfl rfl ?_
  refine y_2ge (a := s.1 8) (b := n) (t := 18) (pc' := 8) dm_X12_takes_5 rfl rfl (by omega) (fun hb1 => ?_) (fun hb1 => ?_)
  · refine me1 (pc' := 19) (L' := [(0, .ref 102), (1, ii n), (2, ii place)]) (S' := [.ref 102]) dm_X12_takes_18 rfl rfl rfl rfl ?_
    refine me0 (pc' := 20) (S' := [.ref 102, .ref 102]) dm_X12_takes_19 rfl rfl rfl rfl ?_
    refine me3 (pc' := 23) (S' := [ii (s.1 8), .ref 102]) dm_X12_takes_20 (q_geti (v := s.1 8) hm rfl (fun m i l => rg_8 m i l) rfl) rfl rfl rfl ?_
    refine me1 (pc' := 24) (L' := [(0, .ref 102), (1, ii n), (2, ii place)]) (S' := [ii n, ii (s.1 8), .ref 102]) dm_X12_takes_23 rfl rfl rfl rfl ?_
    refine y_isub (a := s.1 8) (b := n) dm_X12_takes_24 (pc' := 25) rfl ?_
    refine me3 (pc' := 28) (S' := []) (h1 := rI pre post (va_up s.1 8 ((s.1 8) - n)) s.2.1 s.2.2.1 s.2.2.2) dm_X12_takes_25 (q_puti hm rfl rfl (fun m i l v => rf_8 m i l v)) rfl rfl rfl ?_
    refine me1 (pc' := 29) (L' := [(0, .ref 102), (1, ii n), (2, ii place)]) (S' := [.ref 102]) dm_X12_takes_28 rfl rfl rfl rfl ?_
    refine me0 (pc' := 30) (S' := [.ref 102, .ref 102]) dm_X12_takes_29 rfl rfl rfl rfl ?_
    refine me3 (pc' := 33) (S' := [ii (s.1 7), .ref 102]) dm_X12_takes_30 (q_geti (v := s.1 7) hm rfl (fun m i l => rg_7 m i l) rfl) rfl rfl rfl ?_
    refine me1 (pc' := 34) (L' := [(0, .ref 102), (1, ii n), (2, ii place)]) (S' := [ii n, ii (s.1 7), .ref 102]) dm_X12_takes_33 rfl rfl rfl rfl ?_
    refine y_iadd (a := s.1 7) (b := n) dm_X12_takes_34 (pc' := 35) rfl ?_
    refine me3 (pc' := 38) (S' := []) (h1 := rI pre post (va_up (va_up s.1 8 ((s.1 8) - n)) 7 ((s.1 7) + n)) s.2.1 s.2.2.1 s.2.2.2) dm_X12_takes_35 (q_puti hm rfl rfl (fun m i l v => rf_7 m i l v)) rfl rfl rfl ?_
    refine me0 (pc' := 39) (S' := [ii 1]) dm_X12_takes_38 rfl rfl rfl rfl ?_
    refine y_ret (r := some (ii 1)) dm_X12_takes_39 rfl rfl rfl ?_
    exact ⟨_, rfl, zt (by omega), by rw [tkS_t (by omega)]; rfl⟩
  · refine me1 (pc' := 9) (L' := [(0, .ref 102), (1, ii n), (2, ii place)]) (S' := [.ref 102]) dm_X12_takes_8 rfl rfl rfl rfl ?_
    refine me0 (pc' := 11) (S' := [ii 10, .ref 102]) dm_X12_takes_9 rfl rfl rfl rfl ?_
    refine me1 (pc' := 12) (L' := [(0, .ref 102), (1, ii n), (2, ii place)]) (S' := [ii place, ii 10, .ref 102]) dm_X12_takes_11 rfl rfl rfl rfl ?_
    refine x_cv (pc' := 15) (rest := []) dm_X12_takes_12 rfl (q_inv (As := [ii 10, ii place]) (S := []) hm rfl rfl rfl) rfl rfl rfl (r_fail_ (s := s) hm (by omega) (by omega) (by omega) (by omega)) ?_
    rintro _ _ ⟨rfl, rfl⟩
    refine me0 (pc' := 16) (S' := []) dm_X12_takes_15 rfl rfl rfl rfl ?_
    refine me0 (pc' := 17) (S' := [ii 0]) dm_X12_takes_16 rfl rfl rfl rfl ?_
    refine y_ret (r := some (ii 0)) dm_X12_takes_17 rfl rfl rfl ?_
    exact ⟨_, rfl, zf (by omega), by rw [tkS_f (by omega)]⟩
set_option maxRecDepth 20000 in
theorem pm_X12_made : mj_mmof pg_ms 246 = some ((⟨"ArrayCalculatorModel", "made", "(II)I"⟩, prog_14_method_26_code, 4, (Option.some Jvm.ClassFile.FieldType.int)), 12, false, mj_dec prog_14_method_26_code) := rfl
theorem dm_X12_made_0 : mj_dec prog_14_method_26_code 0 = some (.aload_n 0, 1) := by decide +kernel
theorem dm_X12_made_1 : mj_dec prog_14_method_26_code 1 = some (.getfield 181, 3) := by decide +kernel
theorem dm_X12_made_4 : mj_dec prog_14_method_26_code 4 = some (.ifCond .le 5, 3) := by decide +kernel
theorem dm_X12_made_9 : mj_dec prog_14_method_26_code 9 = some (.aload_n 0, 1) := by decide +kernel
theorem dm_X12_made_10 : mj_dec prog_14_method_26_code 10 = some (.iload_n 1, 1) := by decide +kernel
theorem dm_X12_made_11 : mj_dec prog_14_method_26_code 11 = some (.invokevirtual 165, 3) := by decide +kernel
theorem dm_X12_made_14 : mj_dec prog_14_method_26_code 14 = some (.istore_n 3, 1) := by decide +kernel
theorem dm_X12_made_15 : mj_dec prog_14_method_26_code 15 = some (.iload_n 3, 1) := by decide +kernel
theorem dm_X12_made_16 : mj_dec prog_14_method_26_code 16 = some (.sipush 1000, 3) := by decide +kernel
theorem dm_X12_made_19 : mj_dec prog_14_method_26_code 19 = some (.if_icmp .gt 12, 3) := by decide +kernel
theorem dm_X12_made_22 : mj_dec prog_14_method_26_code 22 = some (.aload_n 0, 1) := by decide +kernel
theorem dm_X12_made_23 : mj_dec prog_14_method_26_code 23 = some (.iload_n 1, 1) := by decide +kernel
theorem dm_X12_made_24 : mj_dec prog_14_method_26_code 24 = some (.invokevirtual 168, 3) := by decide +kernel
theorem dm_X12_made_27 : mj_dec prog_14_method_26_code 27 = some (.iconst 5, 1) := by decide +kernel
theorem dm_X12_made_28 : mj_dec prog_14_method_26_code 28 = some (.if_icmp .le 11, 3) := by decide +kernel
theorem dm_X12_made_31 : mj_dec prog_14_method_26_code 31 = some (.aload_n 0, 1) := by decide +kernel
theorem dm_X12_made_32 : mj_dec prog_14_method_26_code 32 = some (.bipush 8, 2) := by decide +kernel
theorem dm_X12_made_34 : mj_dec prog_14_method_26_code 34 = some (.iload_n 2, 1) := by decide +kernel
theorem dm_X12_made_35 : mj_dec prog_14_method_26_code 35 = some (.invokevirtual 190, 3) := by decide +kernel
theorem dm_X12_made_38 : mj_dec prog_14_method_26_code 38 = some (.ireturn, 1) := by decide +kernel
theorem dm_X12_made_39 : mj_dec prog_14_method_26_code 39 = some (.aload_n 0, 1) := by decide +kernel
theorem dm_X12_made_40 : mj_dec prog_14_method_26_code 40 = some (.aload_n 0, 1) := by decide +kernel
theorem dm_X12_made_41 : mj_dec prog_14_method_26_code 41 = some (.getfield 196, 3) := by decide +kernel
theorem dm_X12_made_44 : mj_dec prog_14_method_26_code 44 = some (.iload_n 3, 1) := by decide +kernel
theorem dm_X12_made_45 : mj_dec prog_14_method_26_code 45 = some (.iadd, 1) := by decide +kernel
theorem dm_X12_made_46 : mj_dec prog_14_method_26_code 46 = some (.iload_n 2, 1) := by decide +kernel
theorem dm_X12_made_47 : mj_dec prog_14_method_26_code 47 = some (.invokevirtual 199, 3) := by decide +kernel
theorem dm_X12_made_50 : mj_dec prog_14_method_26_code 50 = some (.ifCond .eq 7, 3) := by decide +kernel
theorem dm_X12_made_53 : mj_dec prog_14_method_26_code 53 = some (.iload_n 1, 1) := by decide +kernel
theorem dm_X12_made_54 : mj_dec prog_14_method_26_code 54 = some (.goto 4, 3) := by decide +kernel
theorem dm_X12_made_57 : mj_dec prog_14_method_26_code 57 = some (.iconst (-1), 1) := by decide +kernel
theorem dm_X12_made_58 : mj_dec prog_14_method_26_code 58 = some (.ireturn, 1) := by decide +kernel
theorem r_made_ {xt : mj_X} {d e hd : Nat} {pre post : mj_H} {s : RS} {v : VV} (hm : pre.length = 102) {place : Int} (hd1 : 3 * e + 12 ≤ d) (he : e ≤ 20) (hB : rB s) (hv : rv s (e + 1) hd v) (he0 : s.1 5 = 0) (hca : 0 ≤ s.1 10) (hca2 : s.1 10 ≤ 100) (hl1 : 0 ≤ s.1 8) (hl2 : s.1 8 ≤ 500000) (hs9 : vsz (e + 1) v ≤ 500000) (hp1 : 0 ≤ s.1 9) (hp2 : s.1 9 ≤ 3) : pgV xt d 246 [.ref 102, ii (hd : Int), ii place] (rS pre post s) (fun x h' => x = ii (mdR s (vsz (e + 1) v) (vlv (e + 1) v) (hd : Int)) ∧ h' = rS pre post (mdS s (vsz (e + 1) v) (vlv (e + 1) v) place)) := by
  have hB0 := hB
  obtain ⟨hB1, hB2, hB3, hB4⟩ := hB
  obtain ⟨fr, hfr, hsh, hlt, hcl, hvk, hvm, hvc, hvq, hvcl⟩ := rv_val hv
  have hlve := vlv_le (e + 1) v
  refine x_enter pm_X12_made (L0 := [(0, .ref 102), (1, ii (hd : Int)), (2, ii place)]) rfl (Nat.le_of_ble_eq_true rfl) (by omega) ?_
  refine me1 (pc' := 1) (L' := [(0, .ref 102), (1, ii (hd : Int)), (2, ii place)]) (S' := [.ref 102]) dm_X12_made_0 rfl rfl rfl rfl ?_
  refine me3 (pc' := 4) (S' := [ii (s.1 5)]) dm_X12_made_1 (q_geti (v := s.1 5) hm rfl (fun m i l => rg_5 m i l) rfl) rfl rfl rfl ?_
  refine y_1le (a := s.1 5) (t := 9) (pc' := 7) dm_X12_made_4 rfl rfl (by omega) (fun hb1 => ?_) (fun hb1 => ?_)
  · refine me1 (pc' := 10) (L' := [(0, .ref 102), (1, ii (hd : Int)), (2, ii place)]) (S' := [.ref 102]) dm_X12_made_9 rfl rfl rfl rfl ?_
    refine me1 (pc' := 11) (L' := [(0, .ref 102), (1, ii (hd : Int)), (2, ii place)]) (S' := [ii (hd : Int), .ref 102]) dm_X12_made_10 rfl rfl rfl rfl ?_
    refine x_cp (pc' := 14) (v := ii (vsz (e + 1) v : Int)) (rest := []) dm_X12_made_11 rfl (q_inv (As := [ii (hd : Int)]) (S := []) hm rfl rfl rfl) rfl rfl rfl (r_sizeOf_ hm hB0 (e + 1) (by omega) hv) ?_
    refine me1 (pc' := 15) (L' := [(3, ii (vsz (e + 1) v : Int)), (0, .ref 102), (1, ii (hd : Int)), (2, ii place)]) (S' := []) dm_X12_made_14 rfl rfl rfl rfl ?_
    refine me1 (pc' := 16) (L' := [(3, ii (vsz (e + 1) v : Int)), (0, .ref 102), (1, ii (hd : Int)), (2, ii place)]) (S' := [ii (vsz (e + 1) v : Int)]) dm_X12_made_15 rfl rfl rfl rfl ?_
    refine me0 (pc' := 19) (S' := [ii 1000, ii (vsz (e + 1) v : Int)]) dm_X12_made_16 rfl rfl rfl rfl ?_
    refine y_2gt (a := (vsz (e + 1) v : Int)) (b := 1000) (t := 31) (pc' := 22) dm_X12_made_19 rfl rfl (by omega) (fun hb2 => ?_) (fun hb2 => ?_)
    · refine me1 (pc' := 32) (L' := [(3, ii (vsz (e + 1) v : Int)), (0, .ref 102), (1, ii (hd : Int)), (2, ii place)]) (S' := [.ref 102]) dm_X12_made_31 rfl rfl rfl rfl ?_
      refine me0 (pc' := 34) (S' := [ii 8, .ref 102]) dm_X12_made_32 rfl rfl rfl rfl ?_
      refine me1 (pc' := 35) (L' := [(3, ii (vsz (e + 1) v : Int)), (0, .ref 102), (1, ii (hd : Int)), (2, ii place)]) (S' := [ii place, ii 8, .ref 102]) dm_X12_made_34 rfl rfl rfl rfl ?_
      refine x_cv (pc' := 38) (rest := []) dm_X12_made_35 rfl (q_inv (As := [ii 8, ii place]) (S := []) hm rfl rfl rfl) rfl rfl rfl (r_fail_ (s := s) hm (by omega) (by omega) (by omega) (by omega)) ?_
      rintro _ _ ⟨rfl, rfl⟩
      refine y_ret (r := some (ii (-1))) dm_X12_made_38 rfl rfl rfl ?_
      refine ⟨_, rfl, ?_, ?_⟩
      · unfold mdR; rw [if_pos (by omega)]
      · unfold mdS; rw [if_pos (by omega)]
    · refine me1 (pc' := 23) (L' := [(3, ii (vsz (e + 1) v : Int)), (0, .ref 102), (1, ii (hd : Int)), (2, ii place)]) (S' := [.ref 102]) dm_X12_made_22 rfl rfl rfl rfl ?_
      refine me1 (pc' := 24) (L' := [(3, ii (vsz (e + 1) v : Int)), (0, .ref 102), (1, ii (hd : Int)), (2, ii place)]) (S' := [ii (hd : Int), .ref 102]) dm_X12_made_23 rfl rfl rfl rfl ?_
      refine x_cp (pc' := 27) (v := ii (vlv (e + 1) v : Int)) (rest := []) dm_X12_made_24 rfl (q_inv (As := [ii (hd : Int)]) (S := []) hm rfl rfl rfl) rfl rfl rfl (r_levelsOf_ hm hB0 (e + 1) (by omega) (by omega) hv) ?_
      refine me0 (pc' := 28) (S' := [ii 5, ii (vlv (e + 1) v : Int)]) dm_X12_made_27 rfl rfl rfl rfl ?_
      refine y_2le (a := (vlv (e + 1) v : Int)) (b := 5) (t := 39) (pc' := 31) dm_X12_made_28 rfl rfl (by omega) (fun hb3 => ?_) (fun hb3 => ?_)
      · refine me1 (pc' := 40) (L' := [(3, ii (vsz (e + 1) v : Int)), (0, .ref 102), (1, ii (hd : Int)), (2, ii place)]) (S' := [.ref 102]) dm_X12_made_39 rfl rfl rfl rfl ?_
        refine me1 (pc' := 41) (L' := [(3, ii (vsz (e + 1) v : Int)), (0, .ref 102), (1, ii (hd : Int)), (2, ii place)]) (S' := [.ref 102, .ref 102]) dm_X12_made_40 rfl rfl rfl rfl ?_
        refine me3 (pc' := 44) (S' := [ii (s.1 9), .ref 102]) dm_X12_made_41 (q_geti (v := s.1 9) hm rfl (fun m i l => rg_9 m i l) rfl) rfl rfl rfl ?_
        refine me1 (pc' := 45) (L' := [(3, ii (vsz (e + 1) v : Int)), (0, .ref 102), (1, ii (hd : Int)), (2, ii place)]) (S' := [ii (vsz (e + 1) v : Int), ii (s.1 9), .ref 102]) dm_X12_made_44 rfl rfl rfl rfl ?_
        refine y_iadd (a := s.1 9) (b := (vsz (e + 1) v : Int)) dm_X12_made_45 (pc' := 46) rfl ?_
        refine me1 (pc' := 47) (L' := [(3, ii (vsz (e + 1) v : Int)), (0, .ref 102), (1, ii (hd : Int)), (2, ii place)]) (S' := [ii place, ii ((s.1 9) + (vsz (e + 1) v : Int)), .ref 102]) dm_X12_made_46 rfl rfl rfl rfl ?_
        refine x_cv (pc' := 50) (rest := []) dm_X12_made_47 rfl (q_inv (As := [ii ((s.1 9) + (vsz (e + 1) v : Int)), ii place]) (S := []) hm rfl rfl rfl) rfl rfl rfl (r_takes_ (s := s) hm (by omega) he0 hca hca2 hl1 hl2 (by omega)) ?_
        rintro _ _ ⟨rfl, rfl⟩
        refine y_zeq (c := decide ((s.1 9) + (vsz (e + 1) v : Int) ≤ s.1 8)) (t := 57) (pc' := 53) dm_X12_made_50 rfl rfl (fun hb4 => ?_) (fun hb4 => ?_)
        · replace hb4 := dF hb4
          refine me0 (pc' := 58) (S' := [ii (-1)]) dm_X12_made_57 rfl rfl rfl rfl ?_
          refine y_ret (r := some (ii (-1))) dm_X12_made_58 rfl rfl rfl ?_
          refine ⟨_, rfl, ?_, ?_⟩
          · unfold mdR; rw [if_neg (by omega), if_pos (by omega)]
          · unfold mdS; rw [if_neg (by omega)]
        · replace hb4 := dT hb4
          refine me1 (pc' := 54) (L' := [(3, ii (vsz (e + 1) v : Int)), (0, .ref 102), (1, ii (hd : Int)), (2, ii place)]) (S' := [ii (hd : Int)]) dm_X12_made_53 rfl rfl rfl rfl ?_
          refine me2 (pc' := 58) (S' := [ii (hd : Int)]) dm_X12_made_54 rfl rfl rfl ?_
          refine y_ret (r := some (ii (hd : Int))) dm_X12_made_58 rfl rfl rfl ?_
          refine ⟨_, rfl, ?_, ?_⟩
          · unfold mdR; rw [if_neg (by omega), if_neg (by omega)]
          · unfold mdS; rw [if_neg (by omega)]
      · refine me1 (pc' := 32) (L' := [(3, ii (vsz (e + 1) v : Int)), (0, .ref 102), (1, ii (hd : Int)), (2, ii place)]) (S' := [.ref 102]) dm_X12_made_31 rfl rfl rfl rfl ?_
        refine me0 (pc' := 34) (S' := [ii 8, .ref 102]) dm_X12_made_32 rfl rfl rfl rfl ?_
        refine me1 (pc' := 35) (L' := [(3, ii (vsz (e + 1) v : Int)), (0, .ref 102), (1, ii (hd : Int)), (2, ii place)]) (S' := [ii place, ii 8, .ref 102]) dm_X12_made_34 rfl rfl rfl rfl ?_
        refine x_cv (pc' := 38) (rest := []) dm_X12_made_35 rfl (q_inv (As := [ii 8, ii place]) (S := []) hm rfl rfl rfl) rfl rfl rfl (r_fail_ (s := s) hm (by omega) (by omega) (by omega) (by omega)) ?_
        rintro _ _ ⟨rfl, rfl⟩
        refine y_ret (r := some (ii (-1))) dm_X12_made_38 rfl rfl rfl ?_
        refine ⟨_, rfl, ?_, ?_⟩
        · unfold mdR; rw [if_pos (by omega)]
        · unfold mdS; rw [if_pos (by omega)]
  · exfalso; omega
theorem dm_X12_made_7 : mj_dec prog_14_method_26_code 7 = some (.iconst (-1), 1) := by decide +kernel
theorem dm_X12_made_8 : mj_dec prog_14_method_26_code 8 = some (.ireturn, 1) := by decide +kernel
theorem r_made_e {xt : mj_X} {d : Nat} {pre post : mj_H} {s : RS} {hd place : Int} (hm : pre.length = 102) (hd1 : 1 ≤ d) (he1 : 0 < s.1 5) (he2 : s.1 5 ≤ 100) : pgV xt d 246 [.ref 102, ii hd, ii place] (rS pre post s) (fun x h' => x = ii (-1) ∧ h' = rS pre post s) := by
  refine x_enter pm_X12_made (L0 := [(0, .ref 102), (1, ii hd), (2, ii place)]) rfl (Nat.le_of_ble_eq_true rfl) (by omega) ?_
  refine me1 (pc' := 1) (L' := [(0, .ref 102), (1, ii hd), (2, ii place)]) (S' := [.ref 102]) dm_X12_made_0 rfl rfl rfl rfl ?_
  refine me3 (pc' := 4) (S' := [ii (s.1 5)]) dm_X12_made_1 (q_geti (v := s.1 5) hm rfl (fun m i l => rg_5 m i l) rfl) rfl rfl rfl ?_
  refine y_1le (a := s.1 5) (t := 9) (pc' := 7) dm_X12_made_4 rfl rfl (by omega) (fun hb1 => ?_) (fun hb1 => ?_)
  · exfalso; omega
  · refine me0 (pc' := 8) (S' := [ii (-1)]) dm_X12_made_7 rfl rfl rfl rfl ?_
    refine y_ret (r := some (ii (-1))) dm_X12_made_8 rfl rfl rfl ?_
    exact ⟨_, rfl, rfl, rfl⟩
