theorem hl_set2a {b : mj_H} {e e' x : mj_E} {a : Nat} (ha : b.length = a) : ((b ++ [e]) ++ [x]).set a e' = (b ++ [e']) ++ [x] := by subst ha; exact hl_setll
theorem hl_set3a {b : mj_H} {e e' x y : mj_E} {a : Nat} (ha : b.length = a) : (((b ++ [e]) ++ [x]) ++ [y]).set a e' = ((b ++ [e']) ++ [x]) ++ [y] := by
  rw [List.set_append_left _ _ (by simp; omega), hl_set2a ha]
theorem TK_app {h X : mj_H} {mk ln : Nat} {le_ : Int} {gd : Bool} {sf pf bf : Nat → Int} {df : Nat → Int64} (k : TK h mk le_ ln gd sf pf bf df) : TK (h ++ X) mk le_ ln gd sf pf bf df := ⟨hl_app k.1, hl_app k.2.1, hl_app k.2.2.1, hl_app k.2.2.2.1, hl_app k.2.2.2.2.1, k.2.2.2.2.2⟩
theorem sl_rd {h : mj_H} {a w l a' w' l' : Int} {n n' : Int64} {s t s' t' : Value} (h13 : h[13]? = some (rdC a w l n s t)) : mj_sl (h.set 13 (rdC a' w' l' n' s' t')) = mj_sl h := sl_set h13 rfl
theorem sl_op {a b c : Int} {d : Int64} {e f g : Int} {x y z : Value} : mj_sl [opC a b c d e f g x y z] = 10 := rfl
theorem sl_vl {a : Int} {b : Int64} {c d : Value} {e f g i j : Int} : mj_sl [cO 10 [ii a, .long b, c, d, ii e, ii f, ii g, ii i, ii j]] = 9 := rfl
theorem sl_jj {n : Nat} {f : Nat → Int64} : mj_sl [cJ n f] = n := by show n + 0 = n; omega
/-- a value that was made ahead of its Op's last word -/
theorem kp_op {A : Nat → Prop} {h hb X Y : mj_H} {op op' : mj_E} (hA : okA A h) (hl : hb.length = h.length) (hY : Y = (hb ++ [op']) ++ X) : kpA (newA A (hb ++ [op]) ((hb ++ [op]) ++ X)) ((hb ++ [op]) ++ X) (newA A h Y) Y := by
  subst hY
  intro a e x y
  have hne : a ≠ hb.length := by
    rcases x with x | x
    · have := (hA a x).1; omega
    · have := x.1; rw [List.length_append, List.length_singleton] at this; omega
  refine ⟨?_, ?_⟩
  · rcases x with x | x
    · exact Or.inl x
    · exact Or.inr ⟨by have := x.1; rw [List.length_append, List.length_singleton] at this; omega, by have := x.2; simp only [List.length_append, List.length_singleton] at this ⊢; exact this⟩
  · rw [← y]
    by_cases z : a < hb.length
    · rw [List.append_assoc, List.append_assoc, List.getElem?_append_left z, List.getElem?_append_left z]
    · rw [List.getElem?_append_right (show (hb ++ [op']).length ≤ a by rw [List.length_append, List.length_singleton]; omega), List.getElem?_append_right (show (hb ++ [op]).length ≤ a by rw [List.length_append, List.length_singleton]; omega), List.length_append, List.length_singleton, List.length_append, List.length_singleton]
theorem lmn_o {a b : Int} (ha : -9223372036854775808 ≤ a ∧ a ≤ 9223372036854775807) (hb : -9223372036854775808 ≤ b ∧ b ≤ 9223372036854775807) (h : a ≤ b) : lmn (Int64.ofInt a) (Int64.ofInt b) = Int64.ofInt a := Int64.toInt_inj.mp (by rw [lmn_i, n_toL ha.1 ha.2, n_toL hb.1 hb.2]; omega)
theorem lmx_o {a b : Int} (ha : -9223372036854775808 ≤ a ∧ a ≤ 9223372036854775807) (hb : -9223372036854775808 ≤ b ∧ b ≤ 9223372036854775807) (h : a ≤ b) : lmx (Int64.ofInt a) (Int64.ofInt b) = Int64.ofInt b := Int64.toInt_inj.mp (by rw [lmx_i, n_toL ha.1 ha.2, n_toL hb.1 hb.2]; omega)
set_option maxRecDepth 20000 in
theorem pm_X8_textAt : mj_mmof pg_ms 49 = some ((⟨"ArrayCalculator$Tokens", "textAt", "(I)LArrayCalculator$Value;"⟩, prog_10_method_9_code, 6, (Option.some (Jvm.ClassFile.FieldType.object "ArrayCalculator$Value"))), 8, false, mj_dec prog_10_method_9_code) := rfl
theorem dm_X8_textAt_0 : mj_dec prog_10_method_9_code 0 = some (.aload_n 0, 1) := by decide +kernel
theorem dm_X8_textAt_1 : mj_dec prog_10_method_9_code 1 = some (.iload_n 1, 1) := by decide +kernel
theorem dm_X8_textAt_2 : mj_dec prog_10_method_9_code 2 = some (.invokevirtual 61, 3) := by decide +kernel
theorem dm_X8_textAt_5 : mj_dec prog_10_method_9_code 5 = some (.iconst 1, 1) := by decide +kernel
theorem dm_X8_textAt_6 : mj_dec prog_10_method_9_code 6 = some (.iadd, 1) := by decide +kernel
theorem dm_X8_textAt_7 : mj_dec prog_10_method_9_code 7 = some (.istore_n 2, 1) := by decide +kernel
theorem dm_X8_textAt_8 : mj_dec prog_10_method_9_code 8 = some (.lconst 0, 1) := by decide +kernel
theorem dm_X8_textAt_9 : mj_dec prog_10_method_9_code 9 = some (.aload_n 0, 1) := by decide +kernel
theorem dm_X8_textAt_10 : mj_dec prog_10_method_9_code 10 = some (.iload_n 1, 1) := by decide +kernel
theorem dm_X8_textAt_11 : mj_dec prog_10_method_9_code 11 = some (.invokevirtual 64, 3) := by decide +kernel
theorem dm_X8_textAt_14 : mj_dec prog_10_method_9_code 14 = some (.aload_n 0, 1) := by decide +kernel
theorem dm_X8_textAt_15 : mj_dec prog_10_method_9_code 15 = some (.getfield 35, 3) := by decide +kernel
theorem dm_X8_textAt_18 : mj_dec prog_10_method_9_code 18 = some (.iload_n 2, 1) := by decide +kernel
theorem dm_X8_textAt_19 : mj_dec prog_10_method_9_code 19 = some (.isub, 1) := by decide +kernel
theorem dm_X8_textAt_20 : mj_dec prog_10_method_9_code 20 = some (.i2l, 1) := by decide +kernel
theorem dm_X8_textAt_21 : mj_dec prog_10_method_9_code 21 = some (.invokestatic 68, 3) := by decide +kernel
theorem dm_X8_textAt_24 : mj_dec prog_10_method_9_code 24 = some (.invokestatic 71, 3) := by decide +kernel
theorem dm_X8_textAt_27 : mj_dec prog_10_method_9_code 27 = some (.l2i, 1) := by decide +kernel
theorem dm_X8_textAt_28 : mj_dec prog_10_method_9_code 28 = some (.istore_n 3, 1) := by decide +kernel
theorem dm_X8_textAt_29 : mj_dec prog_10_method_9_code 29 = some (.iload_n 3, 1) := by decide +kernel
theorem dm_X8_textAt_30 : mj_dec prog_10_method_9_code 30 = some (.iconst 1, 1) := by decide +kernel
theorem dm_X8_textAt_31 : mj_dec prog_10_method_9_code 31 = some (.if_icmp .ne 13, 3) := by decide +kernel
theorem dm_X8_textAt_34 : mj_dec prog_10_method_9_code 34 = some (.aload_n 0, 1) := by decide +kernel
theorem dm_X8_textAt_35 : mj_dec prog_10_method_9_code 35 = some (.iload_n 2, 1) := by decide +kernel
theorem dm_X8_textAt_36 : mj_dec prog_10_method_9_code 36 = some (.invokevirtual 74, 3) := by decide +kernel
theorem dm_X8_textAt_39 : mj_dec prog_10_method_9_code 39 = some (.i2l, 1) := by decide +kernel
theorem dm_X8_textAt_40 : mj_dec prog_10_method_9_code 40 = some (.invokestatic 77, 3) := by decide +kernel
theorem dm_X8_textAt_43 : mj_dec prog_10_method_9_code 43 = some (.areturn, 1) := by decide +kernel
theorem dm_X8_textAt_44 : mj_dec prog_10_method_9_code 44 = some (.iload_n 3, 1) := by decide +kernel
theorem dm_X8_textAt_45 : mj_dec prog_10_method_9_code 45 = some (.newarray .long, 2) := by decide +kernel
theorem dm_X8_textAt_47 : mj_dec prog_10_method_9_code 47 = some (.astore 4, 2) := by decide +kernel
theorem dm_X8_textAt_49 : mj_dec prog_10_method_9_code 49 = some (.iconst 0, 1) := by decide +kernel
theorem dm_X8_textAt_50 : mj_dec prog_10_method_9_code 50 = some (.istore 5, 2) := by decide +kernel
theorem dm_X8_textAt_52 : mj_dec prog_10_method_9_code 52 = some (.iload 5, 2) := by decide +kernel
theorem dm_X8_textAt_54 : mj_dec prog_10_method_9_code 54 = some (.iload_n 3, 1) := by decide +kernel
theorem dm_X8_textAt_55 : mj_dec prog_10_method_9_code 55 = some (.if_icmp .ge 23, 3) := by decide +kernel
theorem dm_X8_textAt_58 : mj_dec prog_10_method_9_code 58 = some (.aload 4, 2) := by decide +kernel
theorem dm_X8_textAt_60 : mj_dec prog_10_method_9_code 60 = some (.iload 5, 2) := by decide +kernel
theorem dm_X8_textAt_62 : mj_dec prog_10_method_9_code 62 = some (.aload_n 0, 1) := by decide +kernel
theorem dm_X8_textAt_63 : mj_dec prog_10_method_9_code 63 = some (.iload_n 2, 1) := by decide +kernel
theorem dm_X8_textAt_64 : mj_dec prog_10_method_9_code 64 = some (.iload 5, 2) := by decide +kernel
theorem dm_X8_textAt_66 : mj_dec prog_10_method_9_code 66 = some (.iadd, 1) := by decide +kernel
theorem dm_X8_textAt_67 : mj_dec prog_10_method_9_code 67 = some (.invokevirtual 74, 3) := by decide +kernel
theorem dm_X8_textAt_70 : mj_dec prog_10_method_9_code 70 = some (.i2l, 1) := by decide +kernel
theorem dm_X8_textAt_71 : mj_dec prog_10_method_9_code 71 = some (.lastore, 1) := by decide +kernel
theorem dm_X8_textAt_72 : mj_dec prog_10_method_9_code 72 = some (.iinc 5 1, 3) := by decide +kernel
theorem dm_X8_textAt_75 : mj_dec prog_10_method_9_code 75 = some (.goto (-23), 3) := by decide +kernel
theorem dm_X8_textAt_78 : mj_dec prog_10_method_9_code 78 = some (.iconst 3, 1) := by decide +kernel
theorem dm_X8_textAt_79 : mj_dec prog_10_method_9_code 79 = some (.aload 4, 2) := by decide +kernel
theorem dm_X8_textAt_81 : mj_dec prog_10_method_9_code 81 = some (.invokestatic 83, 3) := by decide +kernel
theorem dm_X8_textAt_84 : mj_dec prog_10_method_9_code 84 = some (.areturn, 1) := by decide +kernel
theorem x_textAtT {xt : mj_X} {f1 : Nat → Value} {d mk ln i : Nat} {A : Nat → Prop} {T : Nat → Tok} {h : mj_H} (hx1 : xt 1 = some (.long, 0, f1)) (hd : 4 ≤ d) (hl : 127 ≤ h.length) (hK : TOKS T mk ln) (hT : TT h T mk ln) (hi : i < mk) (h2 : tqS (T i) = 2) : pgV xt d 49 [.ref 9, ii (i : Int)] h (vres A h 1 (txV T i) 2 69) := by
  obtain ⟨le_, gd, sf, pf, bf, df, hk9, a1, a2, a3, a4, a5, a6⟩ := id hT
  have h9 := hk9.1
  have hmk := hK.1
  have hln := hK.2.1
  have hx := hK.2.2.2.2.2.2.2.1 i hi h2
  have hP2 := P_ln hK (i + 1)
  obtain ⟨hx1_, hx2_, hx3_, hx4_⟩ := hx
  obtain ⟨n, hD⟩ : ∃ n : Nat, tqD (T i) = (n : Int) := ⟨(tqD (T i)).toNat, by omega⟩
  refine x_enter pm_X8_textAt (L0 := [(0, .ref 9), (1, ii (i : Int))]) rfl (Nat.le_of_ble_eq_true rfl) (by omega) ?_
  refine me1 (pc' := 1) (L' := [(0, .ref 9), (1, ii (i : Int))]) (S' := [.ref 9]) dm_X8_textAt_0 rfl rfl rfl rfl ?_
  refine me1 (pc' := 2) (L' := [(0, .ref 9), (1, ii (i : Int))]) (S' := [ii (i : Int), .ref 9]) dm_X8_textAt_1 rfl rfl rfl rfl ?_
  refine x_cp (pc' := 5) (v := ii (tqP (T i) : Int)) (rest := []) dm_X8_textAt_2 rfl (g_inv (As := [ii (i : Int)]) (S := []) h9 rfl rfl rfl (by decide)) rfl rfl rfl (tt_place (i := i) (by omega) hK hT (by omega)) ?_
  refine me0 (pc' := 6) (S' := [ii 1, ii (tqP (T i) : Int)]) dm_X8_textAt_5 rfl rfl rfl rfl ?_
  refine y_iadd (a := (tqP (T i) : Int)) (b := 1) dm_X8_textAt_6 (pc' := 7) rfl ?_
  refine pg_st (S' := [ii ((tqP (T i) + 1 : Nat) : Int)]) (congrArg (fun z => ii z :: []) (by push_cast; rfl)) ?_
  refine me1 (pc' := 8) (L' := [(2, ii ((tqP (T i) + 1 : Nat) : Int)), (0, .ref 9), (1, ii (i : Int))]) (S' := []) dm_X8_textAt_7 rfl rfl rfl rfl ?_
  refine me0 (pc' := 9) (S' := [.long (Int64.ofInt 0)]) dm_X8_textAt_8 rfl rfl rfl rfl ?_
  refine me1 (pc' := 10) (L' := [(2, ii ((tqP (T i) + 1 : Nat) : Int)), (0, .ref 9), (1, ii (i : Int))]) (S' := [.ref 9, .long (Int64.ofInt 0)]) dm_X8_textAt_9 rfl rfl rfl rfl ?_
  refine me1 (pc' := 11) (L' := [(2, ii ((tqP (T i) + 1 : Nat) : Int)), (0, .ref 9), (1, ii (i : Int))]) (S' := [ii (i : Int), .ref 9, .long (Int64.ofInt 0)]) dm_X8_textAt_10 rfl rfl rfl rfl ?_
  refine x_cp (pc' := 14) (v := .long (Int64.ofInt (tqD (T i)))) (rest := [.long (Int64.ofInt 0)]) dm_X8_textAt_11 rfl (g_inv (As := [ii (i : Int)]) (S := [.long (Int64.ofInt 0)]) h9 rfl rfl rfl (by decide)) rfl rfl rfl (tt_data (i := i) (by omega) hK hT (by omega)) ?_
  refine me1 (pc' := 15) (L' := [(2, ii ((tqP (T i) + 1 : Nat) : Int)), (0, .ref 9), (1, ii (i : Int))]) (S' := [.ref 9, .long (Int64.ofInt (tqD (T i))), .long (Int64.ofInt 0)]) dm_X8_textAt_14 rfl rfl rfl rfl ?_
  refine me3 (pc' := 18) (S' := [ii (ln : Int), .long (Int64.ofInt (tqD (T i))), .long (Int64.ofInt 0)]) dm_X8_textAt_15 (g_get (v := ii (ln : Int)) h9 rfl rfl (by decide)) rfl rfl rfl ?_
  refine me1 (pc' := 19) (L' := [(2, ii ((tqP (T i) + 1 : Nat) : Int)), (0, .ref 9), (1, ii (i : Int))]) (S' := [ii ((tqP (T i) + 1 : Nat) : Int), ii (ln : Int), .long (Int64.ofInt (tqD (T i))), .long (Int64.ofInt 0)]) dm_X8_textAt_18 rfl rfl rfl rfl ?_
  refine y_isub (a := (ln : Int)) (b := ((tqP (T i) + 1 : Nat) : Int)) dm_X8_textAt_19 (pc' := 20) rfl ?_
  refine y_i2l (a := (ln : Int) - ((tqP (T i) + 1 : Nat) : Int)) dm_X8_textAt_20 (pc' := 21) rfl (by omega) (by omega) ?_
  refine y_pr (i := .iadd) (pc' := 24) (S' := [.long (lmn (Int64.ofInt (tqD (T i))) (Int64.ofInt ((ln : Int) - ((tqP (T i) + 1 : Nat) : Int)))), .long (Int64.ofInt 0)]) dm_X8_textAt_21 rfl (p_lmin rfl) (by omega) rfl ?_
  refine pg_st (S' := [.long (Int64.ofInt (n : Int)), .long (Int64.ofInt 0)]) (congrArg (fun z => Value.long z :: [.long (Int64.ofInt 0)]) ((congrArg (fun z => lmn (Int64.ofInt z) _) hD).trans (lmn_o (by omega) (by omega) (by omega)))) ?_
  refine y_pr (i := .iadd) (pc' := 27) (S' := [.long (lmx (Int64.ofInt 0) (Int64.ofInt (n : Int)))]) dm_X8_textAt_24 rfl (p_lmax rfl) (by omega) rfl ?_
  refine pg_st (S' := [.long (Int64.ofInt (n : Int))]) (congrArg (fun z => Value.long z :: []) (lmx_o (by omega) (by omega) (by omega))) ?_
  refine y_l2i (a := (n : Int)) dm_X8_textAt_27 (pc' := 28) rfl (by rw [Int64.toInt32_ofInt]) ?_
  refine me1 (pc' := 29) (L' := [(3, ii (n : Int)), (2, ii ((tqP (T i) + 1 : Nat) : Int)), (0, .ref 9), (1, ii (i : Int))]) (S' := []) dm_X8_textAt_28 rfl rfl rfl rfl ?_
  refine me1 (pc' := 30) (L' := [(3, ii (n : Int)), (2, ii ((tqP (T i) + 1 : Nat) : Int)), (0, .ref 9), (1, ii (i : Int))]) (S' := [ii (n : Int)]) dm_X8_textAt_29 rfl rfl rfl rfl ?_
  refine me0 (pc' := 31) (S' := [ii 1, ii (n : Int)]) dm_X8_textAt_30 rfl rfl rfl rfl ?_
  refine y_2ne (a := (n : Int)) (b := 1) (t := 44) (pc' := 34) dm_X8_textAt_31 rfl rfl (by omega) (fun hb1 => ?_) (fun hb1 => ?_)
  · refine me1 (pc' := 45) (L' := [(3, ii (n : Int)), (2, ii ((tqP (T i) + 1 : Nat) : Int)), (0, .ref 9), (1, ii (i : Int))]) (S' := [ii (n : Int)]) dm_X8_textAt_44 rfl rfl rfl rfl ?_
    refine me3 (pc' := 47) (S' := [.ref h.length]) (h1 := h ++ [cJ n (fun _ => 0)]) dm_X8_textAt_45 (yh_newJ (by omega) (by omega) (by omega) rfl) rfl rfl rfl ?_
    refine me1 (pc' := 49) (L' := [(4, .ref h.length), (3, ii (n : Int)), (2, ii ((tqP (T i) + 1 : Nat) : Int)), (0, .ref 9), (1, ii (i : Int))]) (S' := []) dm_X8_textAt_47 rfl rfl rfl rfl ?_
    refine me0 (pc' := 50) (S' := [ii 0]) dm_X8_textAt_49 rfl rfl rfl rfl ?_
    refine me1 (pc' := 52) (L' := [(5, ii 0), (4, .ref h.length), (3, ii (n : Int)), (2, ii ((tqP (T i) + 1 : Nat) : Int)), (0, .ref 9), (1, ii (i : Int))]) (S' := []) dm_X8_textAt_50 rfl rfl rfl rfl ?_
    have lp52 : ∀ (n52 : Nat) (k : Nat) (G : Nat → Int64), n - k = n52 → (k ≤ n) → (∀ j, j < k → G j = Int64.ofInt (tqX (T i) j)) → pgE xt (d - 1) 8 6 false (Option.some (Jvm.ClassFile.FieldType.object "ArrayCalculator$Value")) (mj_dec prog_10_method_9_code) 52 [(0, .ref 9), (1, ii (i : Int)), (2, ii ((tqP (T i) + 1 : Nat) : Int)), (3, ii (n : Int)), (4, .ref h.length), (5, ii ((k : Nat) : Int))] [] (h ++ [cJ n G]) (fun r h' => ∃ x, r = some x ∧ vres A h 1 (txV T i) 2 69 x h') := by
      intro n52
      induction n52 using Nat.strongRecOn with
      | ind n52 ih52 =>
        intro k G hm52 hk hG
        refine me1 (pc' := 54) (L' := [(0, .ref 9), (1, ii (i : Int)), (2, ii ((tqP (T i) + 1 : Nat) : Int)), (3, ii (n : Int)), (4, .ref h.length), (5, ii ((k : Nat) : Int))]) (S' := [ii ((k : Nat) : Int)]) dm_X8_textAt_52 rfl rfl rfl rfl ?_
        refine me1 (pc' := 55) (L' := [(0, .ref 9), (1, ii (i : Int)), (2, ii ((tqP (T i) + 1 : Nat) : Int)), (3, ii (n : Int)), (4, .ref h.length), (5, ii ((k : Nat) : Int))]) (S' := [ii (n : Int), ii ((k : Nat) : Int)]) dm_X8_textAt_54 rfl rfl rfl rfl ?_
        refine y_2ge (a := ((k : Nat) : Int)) (b := (n : Int)) (t := 78) (pc' := 58) dm_X8_textAt_55 rfl rfl (by omega) (fun hb2 => ?_) (fun hb2 => ?_)
        · refine me0 (pc' := 79) (S' := [ii 3]) dm_X8_textAt_78 rfl rfl rfl rfl ?_
          refine me1 (pc' := 81) (L' := [(0, .ref 9), (1, ii (i : Int)), (2, ii ((tqP (T i) + 1 : Nat) : Int)), (3, ii (n : Int)), (4, .ref h.length), (5, ii ((k : Nat) : Int))]) (S' := [.ref h.length, ii 3]) dm_X8_textAt_79 rfl rfl rfl rfl ?_
          refine x_cv (pc' := 84) (rest := []) dm_X8_textAt_81 rfl (g_invs (As := [ii 3, .ref h.length]) (S := []) rfl rfl rfl) rfl rfl rfl (c_row (hx1 := hx1) (q := h.length + 1) (by omega) (by simp; omega) (by simp) (by omega) (show rowAt (fun _ => True) _ _ _ _ from Or.inr ⟨by omega, hl_new, by omega, trivial⟩) (by omega)) ?_
          rintro _ _ ⟨rfl, rfl⟩
          refine y_ret (r := some (.ref (h.length + 1))) dm_X8_textAt_84 rfl rfl rfl ?_
          have hkn : k = n := by omega
          rw [show txV T i = vrow 3 n (fun k => Int64.ofInt (tqX (T i) k)) by unfold txV; rw [if_neg (by omega), hD, Int.toNat_natCast]]
          exact ⟨_, rfl, vres_rowL (k := 3) rfl hl (by decide) (by decide) (by omega) rfl (fun j hj => hG j (by omega)) (by decide) (by omega)⟩
        · refine me1 (pc' := 60) (L' := [(0, .ref 9), (1, ii (i : Int)), (2, ii ((tqP (T i) + 1 : Nat) : Int)), (3, ii (n : Int)), (4, .ref h.length), (5, ii ((k : Nat) : Int))]) (S' := [.ref h.length]) dm_X8_textAt_58 rfl rfl rfl rfl ?_
          refine me1 (pc' := 62) (L' := [(0, .ref 9), (1, ii (i : Int)), (2, ii ((tqP (T i) + 1 : Nat) : Int)), (3, ii (n : Int)), (4, .ref h.length), (5, ii ((k : Nat) : Int))]) (S' := [ii ((k : Nat) : Int), .ref h.length]) dm_X8_textAt_60 rfl rfl rfl rfl ?_
          refine me1 (pc' := 63) (L' := [(0, .ref 9), (1, ii (i : Int)), (2, ii ((tqP (T i) + 1 : Nat) : Int)), (3, ii (n : Int)), (4, .ref h.length), (5, ii ((k : Nat) : Int))]) (S' := [.ref 9, ii ((k : Nat) : Int), .ref h.length]) dm_X8_textAt_62 rfl rfl rfl rfl ?_
          refine me1 (pc' := 64) (L' := [(0, .ref 9), (1, ii (i : Int)), (2, ii ((tqP (T i) + 1 : Nat) : Int)), (3, ii (n : Int)), (4, .ref h.length), (5, ii ((k : Nat) : Int))]) (S' := [ii ((tqP (T i) + 1 : Nat) : Int), .ref 9, ii ((k : Nat) : Int), .ref h.length]) dm_X8_textAt_63 rfl rfl rfl rfl ?_
          refine me1 (pc' := 66) (L' := [(0, .ref 9), (1, ii (i : Int)), (2, ii ((tqP (T i) + 1 : Nat) : Int)), (3, ii (n : Int)), (4, .ref h.length), (5, ii ((k : Nat) : Int))]) (S' := [ii ((k : Nat) : Int), ii ((tqP (T i) + 1 : Nat) : Int), .ref 9, ii ((k : Nat) : Int), .ref h.length]) dm_X8_textAt_64 rfl rfl rfl rfl ?_
          refine y_iadd (a := ((tqP (T i) + 1 : Nat) : Int)) (b := ((k : Nat) : Int)) dm_X8_textAt_66 (pc' := 67) rfl ?_
          refine pg_st (S' := [ii ((tqP (T i) + 1 + k : Nat) : Int), .ref 9, ii ((k : Nat) : Int), .ref h.length]) (congrArg (fun z => ii z :: [.ref 9, ii ((k : Nat) : Int), .ref h.length]) (by omega)) ?_
          have hbk := a6 i hi h2 k (by omega)
          have hxk := hx4_ k
          refine x_cp (pc' := 70) (v := ii (byA bf ln ((tqP (T i) + 1 + k : Nat) : Int))) (rest := [ii ((k : Nat) : Int), .ref h.length]) dm_X8_textAt_67 rfl (g_inv (As := [ii ((tqP (T i) + 1 + k : Nat) : Int)]) (S := [ii ((k : Nat) : Int), .ref h.length]) (hl_app h9) rfl rfl rfl (by decide)) rfl rfl rfl (x_byteAtT (by omega) (TK_app hk9) (by omega)) ?_
          refine pg_st (S' := [ii (tqX (T i) k), ii ((k : Nat) : Int), .ref h.length]) (congrArg (fun z => ii z :: [ii ((k : Nat) : Int), .ref h.length]) ((byA_in hbk.1).trans hbk.2)) ?_
          refine y_i2l (a := tqX (T i) k) dm_X8_textAt_70 (pc' := 71) rfl (by omega) (by omega) ?_
          refine me3 (pc' := 72) (S' := []) (h1 := h ++ [cJ n (va_up G k (Int64.ofInt (tqX (T i) k)))]) dm_X8_textAt_71 (y_hs (yh_last (j := ((k : Nat) : Int)) hl_new (by omega) (by omega) (by omega) (by omega)) (by rw [show ((k : Nat) : Int).toNat = k from rfl]; exact (hl_setl))) rfl rfl rfl ?_
          refine y_iinc (pc' := 75) (L' := [(5, ii (((k : Nat) : Int) + 1)), (0, .ref 9), (1, ii (i : Int)), (2, ii ((tqP (T i) + 1 : Nat) : Int)), (3, ii (n : Int)), (4, .ref h.length)]) dm_X8_textAt_72 (y_incp (a := ((k : Nat) : Int)) (c := 1) rfl rfl (by decide)) rfl ?_
          refine me2 (pc' := 52) (S' := []) dm_X8_textAt_75 rfl rfl rfl ?_
          exact pg_sub (L := [(0, .ref 9), (1, ii (i : Int)), (2, ii ((tqP (T i) + 1 : Nat) : Int)), (3, ii (n : Int)), (4, .ref h.length), (5, ii (((k + 1) : Nat) : Int))]) rfl rfl rfl (ih52 (n - (k + 1)) (by omega) (k + 1) (va_up G k (Int64.ofInt (tqX (T i) k))) rfl (by omega) (fun j hj => by by_cases z : j = k; (rw [z, up_eq]); (rw [up_ne _ _ z]; exact hG j (by omega))))
    exact pg_sub (L := [(0, .ref 9), (1, ii (i : Int)), (2, ii ((tqP (T i) + 1 : Nat) : Int)), (3, ii (n : Int)), (4, .ref h.length), (5, ii ((0 : Nat) : Int))]) rfl rfl rfl (lp52 _ 0 (fun _ => 0) rfl (Nat.zero_le _) (fun j hj => absurd hj (Nat.not_lt_zero j)))
  · refine me1 (pc' := 35) (L' := [(3, ii (n : Int)), (2, ii ((tqP (T i) + 1 : Nat) : Int)), (0, .ref 9), (1, ii (i : Int))]) (S' := [.ref 9]) dm_X8_textAt_34 rfl rfl rfl rfl ?_
    refine me1 (pc' := 36) (L' := [(3, ii (n : Int)), (2, ii ((tqP (T i) + 1 : Nat) : Int)), (0, .ref 9), (1, ii (i : Int))]) (S' := [ii ((tqP (T i) + 1 : Nat) : Int), .ref 9]) dm_X8_textAt_35 rfl rfl rfl rfl ?_
    refine pg_st (S' := [ii ((tqP (T i) + 1 + 0 : Nat) : Int), .ref 9]) (congrArg (fun z => ii z :: [.ref 9]) (by omega)) ?_
    have hbk := a6 i hi h2 0 (by omega)
    have hxk := hx4_ 0
    refine x_cp (pc' := 39) (v := ii (byA bf ln ((tqP (T i) + 1 + 0 : Nat) : Int))) (rest := []) dm_X8_textAt_36 rfl (g_inv (As := [ii ((tqP (T i) + 1 + 0 : Nat) : Int)]) (S := []) h9 rfl rfl rfl (by decide)) rfl rfl rfl (x_byteAtT (by omega) hk9 (by omega)) ?_
    refine pg_st (S' := [ii (tqX (T i) 0)]) (congrArg (fun z => ii z :: []) ((byA_in hbk.1).trans hbk.2)) ?_
    refine y_i2l (a := tqX (T i) 0) dm_X8_textAt_39 (pc' := 40) rfl (by omega) (by omega) ?_
    refine x_cv (pc' := 43) (rest := []) dm_X8_textAt_40 rfl (g_invs (As := [.long (Int64.ofInt (tqX (T i) 0))]) (S := []) rfl rfl rfl) rfl rfl rfl (c_sign (q := h.length) (by omega) (by omega) rfl ) ?_
    rintro _ _ ⟨rfl, rfl⟩
    refine y_ret (r := some (.ref h.length)) dm_X8_textAt_43 rfl rfl rfl ?_
    rw [show txV T i = v1 1 (Int64.ofInt (tqX (T i) 0)) by unfold txV; rw [if_pos (by omega)]]
    exact ⟨_, rfl, vres_one (k := 1) hl (by decide) (by decide) (by decide)⟩
theorem soN_1 {T : Nat → Tok} {s n i : Nat} (h : tqS (T i) = s) : soN T s (n + 1) i = soN T s n (i + 1) + 1 := if_pos h
set_option maxRecDepth 20000 in
theorem pm_X7_numbers : mj_mmof pg_ms 46 = some ((⟨"ArrayCalculator$Reader", "numbers", "(LArrayCalculator$Op;)LArrayCalculator$Op;"⟩, prog_9_method_19_code, 6, (Option.some (Jvm.ClassFile.FieldType.object "ArrayCalculator$Op"))), 7, false, mj_dec prog_9_method_19_code) := rfl
theorem dm_X7_numbers_0 : mj_dec prog_9_method_19_code 0 = some (.aload_n 0, 1) := by decide +kernel
theorem dm_X7_numbers_1 : mj_dec prog_9_method_19_code 1 = some (.getfield 38, 3) := by decide +kernel
theorem dm_X7_numbers_4 : mj_dec prog_9_method_19_code 4 = some (.istore_n 2, 1) := by decide +kernel
theorem dm_X7_numbers_5 : mj_dec prog_9_method_19_code 5 = some (.aload_n 0, 1) := by decide +kernel
theorem dm_X7_numbers_6 : mj_dec prog_9_method_19_code 6 = some (.getfield 38, 3) := by decide +kernel
theorem dm_X7_numbers_9 : mj_dec prog_9_method_19_code 9 = some (.sipush 200, 3) := by decide +kernel
theorem dm_X7_numbers_12 : mj_dec prog_9_method_19_code 12 = some (.if_icmp .gt 31, 3) := by decide +kernel
theorem dm_X7_numbers_15 : mj_dec prog_9_method_19_code 15 = some (.aload_n 0, 1) := by decide +kernel
theorem dm_X7_numbers_16 : mj_dec prog_9_method_19_code 16 = some (.getfield 9, 3) := by decide +kernel
theorem dm_X7_numbers_19 : mj_dec prog_9_method_19_code 19 = some (.aload_n 0, 1) := by decide +kernel
theorem dm_X7_numbers_20 : mj_dec prog_9_method_19_code 20 = some (.getfield 38, 3) := by decide +kernel
theorem dm_X7_numbers_23 : mj_dec prog_9_method_19_code 23 = some (.invokevirtual 59, 3) := by decide +kernel
theorem dm_X7_numbers_26 : mj_dec prog_9_method_19_code 26 = some (.iconst 1, 1) := by decide +kernel
theorem dm_X7_numbers_27 : mj_dec prog_9_method_19_code 27 = some (.if_icmp .ne 16, 3) := by decide +kernel
theorem dm_X7_numbers_30 : mj_dec prog_9_method_19_code 30 = some (.aload_n 0, 1) := by decide +kernel
theorem dm_X7_numbers_31 : mj_dec prog_9_method_19_code 31 = some (.dup, 1) := by decide +kernel
theorem dm_X7_numbers_32 : mj_dec prog_9_method_19_code 32 = some (.getfield 38, 3) := by decide +kernel
theorem dm_X7_numbers_35 : mj_dec prog_9_method_19_code 35 = some (.iconst 1, 1) := by decide +kernel
theorem dm_X7_numbers_36 : mj_dec prog_9_method_19_code 36 = some (.iadd, 1) := by decide +kernel
theorem dm_X7_numbers_37 : mj_dec prog_9_method_19_code 37 = some (.putfield 38, 3) := by decide +kernel
theorem dm_X7_numbers_40 : mj_dec prog_9_method_19_code 40 = some (.goto (-35), 3) := by decide +kernel
theorem dm_X7_numbers_43 : mj_dec prog_9_method_19_code 43 = some (.new 15, 3) := by decide +kernel
theorem dm_X7_numbers_46 : mj_dec prog_9_method_19_code 46 = some (.dup, 1) := by decide +kernel
theorem dm_X7_numbers_47 : mj_dec prog_9_method_19_code 47 = some (.iconst 1, 1) := by decide +kernel
theorem dm_X7_numbers_48 : mj_dec prog_9_method_19_code 48 = some (.aload_n 0, 1) := by decide +kernel
theorem dm_X7_numbers_49 : mj_dec prog_9_method_19_code 49 = some (.getfield 9, 3) := by decide +kernel
theorem dm_X7_numbers_52 : mj_dec prog_9_method_19_code 52 = some (.iload_n 2, 1) := by decide +kernel
theorem dm_X7_numbers_53 : mj_dec prog_9_method_19_code 53 = some (.invokevirtual 81, 3) := by decide +kernel
theorem dm_X7_numbers_56 : mj_dec prog_9_method_19_code 56 = some (.aload_n 1, 1) := by decide +kernel
theorem dm_X7_numbers_57 : mj_dec prog_9_method_19_code 57 = some (.invokespecial 17, 3) := by decide +kernel
theorem dm_X7_numbers_60 : mj_dec prog_9_method_19_code 60 = some (.astore_n 3, 1) := by decide +kernel
theorem dm_X7_numbers_61 : mj_dec prog_9_method_19_code 61 = some (.aload_n 0, 1) := by decide +kernel
theorem dm_X7_numbers_62 : mj_dec prog_9_method_19_code 62 = some (.getfield 38, 3) := by decide +kernel
theorem dm_X7_numbers_65 : mj_dec prog_9_method_19_code 65 = some (.iload_n 2, 1) := by decide +kernel
theorem dm_X7_numbers_66 : mj_dec prog_9_method_19_code 66 = some (.isub, 1) := by decide +kernel
theorem dm_X7_numbers_67 : mj_dec prog_9_method_19_code 67 = some (.iconst 1, 1) := by decide +kernel
theorem dm_X7_numbers_68 : mj_dec prog_9_method_19_code 68 = some (.if_icmp .ne 20, 3) := by decide +kernel
theorem dm_X7_numbers_71 : mj_dec prog_9_method_19_code 71 = some (.aload_n 3, 1) := by decide +kernel
theorem dm_X7_numbers_72 : mj_dec prog_9_method_19_code 72 = some (.aload_n 0, 1) := by decide +kernel
theorem dm_X7_numbers_73 : mj_dec prog_9_method_19_code 73 = some (.getfield 9, 3) := by decide +kernel
theorem dm_X7_numbers_76 : mj_dec prog_9_method_19_code 76 = some (.iload_n 2, 1) := by decide +kernel
theorem dm_X7_numbers_77 : mj_dec prog_9_method_19_code 77 = some (.invokevirtual 41, 3) := by decide +kernel
theorem dm_X7_numbers_80 : mj_dec prog_9_method_19_code 80 = some (.invokestatic 151, 3) := by decide +kernel
theorem dm_X7_numbers_83 : mj_dec prog_9_method_19_code 83 = some (.putfield 141, 3) := by decide +kernel
theorem dm_X7_numbers_86 : mj_dec prog_9_method_19_code 86 = some (.aload_n 3, 1) := by decide +kernel
theorem dm_X7_numbers_87 : mj_dec prog_9_method_19_code 87 = some (.areturn, 1) := by decide +kernel
theorem dm_X7_numbers_88 : mj_dec prog_9_method_19_code 88 = some (.aload_n 0, 1) := by decide +kernel
theorem dm_X7_numbers_89 : mj_dec prog_9_method_19_code 89 = some (.getfield 38, 3) := by decide +kernel
theorem dm_X7_numbers_92 : mj_dec prog_9_method_19_code 92 = some (.iload_n 2, 1) := by decide +kernel
theorem dm_X7_numbers_93 : mj_dec prog_9_method_19_code 93 = some (.isub, 1) := by decide +kernel
theorem dm_X7_numbers_94 : mj_dec prog_9_method_19_code 94 = some (.newarray .long, 2) := by decide +kernel
theorem dm_X7_numbers_96 : mj_dec prog_9_method_19_code 96 = some (.astore 4, 2) := by decide +kernel
theorem dm_X7_numbers_98 : mj_dec prog_9_method_19_code 98 = some (.iconst 0, 1) := by decide +kernel
theorem dm_X7_numbers_99 : mj_dec prog_9_method_19_code 99 = some (.istore 5, 2) := by decide +kernel
theorem dm_X7_numbers_101 : mj_dec prog_9_method_19_code 101 = some (.iload 5, 2) := by decide +kernel
theorem dm_X7_numbers_103 : mj_dec prog_9_method_19_code 103 = some (.aload 4, 2) := by decide +kernel
theorem dm_X7_numbers_105 : mj_dec prog_9_method_19_code 105 = some (.arraylength, 1) := by decide +kernel
theorem dm_X7_numbers_106 : mj_dec prog_9_method_19_code 106 = some (.if_icmp .ge 25, 3) := by decide +kernel
theorem dm_X7_numbers_109 : mj_dec prog_9_method_19_code 109 = some (.aload 4, 2) := by decide +kernel
theorem dm_X7_numbers_111 : mj_dec prog_9_method_19_code 111 = some (.iload 5, 2) := by decide +kernel
theorem dm_X7_numbers_113 : mj_dec prog_9_method_19_code 113 = some (.aload_n 0, 1) := by decide +kernel
theorem dm_X7_numbers_114 : mj_dec prog_9_method_19_code 114 = some (.getfield 9, 3) := by decide +kernel
theorem dm_X7_numbers_117 : mj_dec prog_9_method_19_code 117 = some (.iload_n 2, 1) := by decide +kernel
theorem dm_X7_numbers_118 : mj_dec prog_9_method_19_code 118 = some (.iload 5, 2) := by decide +kernel
theorem dm_X7_numbers_120 : mj_dec prog_9_method_19_code 120 = some (.iadd, 1) := by decide +kernel
theorem dm_X7_numbers_121 : mj_dec prog_9_method_19_code 121 = some (.invokevirtual 41, 3) := by decide +kernel
theorem dm_X7_numbers_124 : mj_dec prog_9_method_19_code 124 = some (.lastore, 1) := by decide +kernel
theorem dm_X7_numbers_125 : mj_dec prog_9_method_19_code 125 = some (.iinc 5 1, 3) := by decide +kernel
theorem dm_X7_numbers_128 : mj_dec prog_9_method_19_code 128 = some (.goto (-27), 3) := by decide +kernel
theorem dm_X7_numbers_131 : mj_dec prog_9_method_19_code 131 = some (.aload_n 3, 1) := by decide +kernel
theorem dm_X7_numbers_132 : mj_dec prog_9_method_19_code 132 = some (.aload 4, 2) := by decide +kernel
theorem dm_X7_numbers_134 : mj_dec prog_9_method_19_code 134 = some (.invokestatic 157, 3) := by decide +kernel
theorem dm_X7_numbers_137 : mj_dec prog_9_method_19_code 137 = some (.putfield 141, 3) := by decide +kernel
theorem dm_X7_numbers_140 : mj_dec prog_9_method_19_code 140 = some (.aload_n 3, 1) := by decide +kernel
theorem dm_X7_numbers_141 : mj_dec prog_9_method_19_code 141 = some (.areturn, 1) := by decide +kernel
theorem d_numbers {xt : mj_X} {f1 : Nat → Value} {d mk ln i : Nat} {A : Nat → Prop} {T : Nat → Tok} {wr ls : Int} {nm : Int64} {st tl : Value} {h : mj_H} (hx1 : xt 1 = some (.long, 0, f1)) (hd : 5 ≤ d) (hl : 127 ≤ h.length) (hA : okA A h) (hK : TOKS T mk ln) (hT : TT h T mk ln) (h13 : h[13]? = some (rdC (i : Int) wr ls nm st tl)) {f o : Nat} {b : Option Nat} (h1 : tqS (T i) = 1) : pgV xt d 46 [.ref 13, oV b] h (RX A h T ln (f + 1) 3 o i b ls nm st) := by
  obtain ⟨le_, gd, sf, pf, bf, df, hk9, -, -, -, -, -, -⟩ := id hT
  have h9 := hk9.1
  have hmk200 := hK.1
  have hi : i < mk := TOKS_lt hK (by omega)
  refine x_enter pm_X7_numbers (L0 := [(0, .ref 13), (1, oV b)]) (by cases b <;> rfl) (by cases b <;> exact Nat.le_of_ble_eq_true rfl) (by omega) ?_
  refine me1 (pc' := 1) (L' := [(0, .ref 13), (1, oV b)]) (S' := [.ref 13]) dm_X7_numbers_0 rfl rfl rfl rfl ?_
  refine me3 (pc' := 4) (S' := [ii (i : Int)]) dm_X7_numbers_1 (g_get (v := ii (i : Int)) h13 rfl rfl (by decide)) rfl rfl rfl ?_
  refine me1 (pc' := 5) (L' := [(2, ii (i : Int)), (0, .ref 13), (1, oV b)]) (S' := []) dm_X7_numbers_4 (by cases b <;> rfl) rfl rfl rfl ?_
  have lp5 : ∀ (n5 : Nat) (k : Nat), mk - (i + k) = n5 → (i + k ≤ mk) → (∀ j, j < k → tqS (T (i + j)) = 1) → pgE xt (d - 1) 7 6 false (Option.some (Jvm.ClassFile.FieldType.object "ArrayCalculator$Op")) (mj_dec prog_9_method_19_code) 5 [(0, .ref 13), (1, oV b), (2, ii (i : Int))] [] ((h).set 13 (cO 7 [.ref 9, ii ((i + k : Nat) : Int), ii wr, ii ls, .long nm, st, tl])) (fun r h' => ∃ x, r = some x ∧ RX A h T ln (f + 1) 3 o i b ls nm st x h') := by
    intro n5
    induction n5 using Nat.strongRecOn with
    | ind n5 ih5 =>
      intro k hm5 hk hr
      have c8k := cS_r hK (i + k)
      refine me1 (pc' := 6) (L' := [(0, .ref 13), (1, oV b), (2, ii (i : Int))]) (S' := [.ref 13]) dm_X7_numbers_5 rfl rfl rfl rfl ?_
      refine me3 (pc' := 9) (S' := [ii ((i + k : Nat) : Int)]) dm_X7_numbers_6 (g_get (v := ii ((i + k : Nat) : Int)) (hl_set (hl_lt h13)) rfl rfl (by decide)) rfl rfl rfl ?_
      refine me0 (pc' := 12) (S' := [ii 200, ii ((i + k : Nat) : Int)]) dm_X7_numbers_9 rfl rfl rfl rfl ?_
      refine y_2gt (a := ((i + k : Nat) : Int)) (b := 200) (t := 43) (pc' := 15) dm_X7_numbers_12 rfl rfl (by omega) (fun hb1 => ?_) (fun hb1 => ?_)
      · exfalso; omega
      · refine me1 (pc' := 16) (L' := [(0, .ref 13), (1, oV b), (2, ii (i : Int))]) (S' := [.ref 13]) dm_X7_numbers_15 rfl rfl rfl rfl ?_
        refine me3 (pc' := 19) (S' := [.ref 9]) dm_X7_numbers_16 (g_get (v := .ref 9) (hl_set (hl_lt h13)) rfl rfl (by decide)) rfl rfl rfl ?_
        refine me1 (pc' := 20) (L' := [(0, .ref 13), (1, oV b), (2, ii (i : Int))]) (S' := [.ref 13, .ref 9]) dm_X7_numbers_19 rfl rfl rfl rfl ?_
        refine me3 (pc' := 23) (S' := [ii ((i + k : Nat) : Int), .ref 9]) dm_X7_numbers_20 (g_get (v := ii ((i + k : Nat) : Int)) (hl_set (hl_lt h13)) rfl rfl (by decide)) rfl rfl rfl ?_
        refine x_cp (pc' := 26) (v := ii ((cS T (i + k) : Nat) : Int)) (rest := []) dm_X7_numbers_23 rfl (g_inv (As := [ii ((i + k : Nat) : Int)]) (S := []) (hl_ne (by decide) h9) rfl rfl rfl (by decide)) rfl rfl rfl (tt_sort (i := i + k) (by omega) hK (TT_set (by omega) hT) (by omega)) ?_
        refine me0 (pc' := 27) (S' := [ii 1, ii ((cS T (i + k) : Nat) : Int)]) dm_X7_numbers_26 rfl rfl rfl rfl ?_
        refine y_2ne (a := ((cS T (i + k) : Nat) : Int)) (b := 1) (t := 43) (pc' := 30) dm_X7_numbers_27 rfl rfl (by omega) (fun hb2 => ?_) (fun hb2 => ?_)
        · have hn : soN T 1 201 i = k := soN_eq 201 i k (by omega) hr (Or.inr (fun z => hb2 (by have := (cS_7 T (i + k)).2.2.2.1.mpr z; omega)))
          have hk1 : 1 ≤ k := Classical.byContradiction fun z => by rw [show k = 0 by omega] at hn; rw [soN_1 h1] at hn; omega
          have hk100 := soN_100 hK hr
          have hPk := P_le hK (i := i) (j := i + k) (by omega) (by omega)
          refine me3 (pc' := 46) (S' := [.ref h.length]) (h1 := ((h).set 13 (cO 7 [.ref 9, ii ((i + k : Nat) : Int), ii wr, ii ls, .long nm, st, tl])) ++ [cO 4 [ii 0, ii 0, ii 0, .long (Int64.ofInt 0), ii 0, ii 0, ii 0, .null, .null, .null]]) dm_X7_numbers_43 (g_nw (by simp) rfl rfl) rfl rfl rfl ?_
          refine me0 (pc' := 47) (S' := [.ref h.length, .ref h.length]) dm_X7_numbers_46 rfl rfl rfl rfl ?_
          refine me0 (pc' := 48) (S' := [ii 1, .ref h.length, .ref h.length]) dm_X7_numbers_47 rfl rfl rfl rfl ?_
          refine me1 (pc' := 49) (L' := [(0, .ref 13), (1, oV b), (2, ii (i : Int))]) (S' := [.ref 13, ii 1, .ref h.length, .ref h.length]) dm_X7_numbers_48 rfl rfl rfl rfl ?_
          refine me3 (pc' := 52) (S' := [.ref 9, ii 1, .ref h.length, .ref h.length]) dm_X7_numbers_49 (g_get (v := .ref 9) (hl_app (hl_set (hl_lt h13))) rfl rfl (by decide)) rfl rfl rfl ?_
          refine me1 (pc' := 53) (L' := [(0, .ref 13), (1, oV b), (2, ii (i : Int))]) (S' := [ii (i : Int), .ref 9, ii 1, .ref h.length, .ref h.length]) dm_X7_numbers_52 rfl rfl rfl rfl ?_
          refine x_cp (pc' := 56) (v := ii (tqP (T i) : Int)) (rest := [ii 1, .ref h.length, .ref h.length]) dm_X7_numbers_53 rfl (g_inv (As := [ii (i : Int)]) (S := [ii 1, .ref h.length, .ref h.length]) (hl_app (hl_ne (by decide) h9)) rfl rfl rfl (by decide)) rfl rfl rfl (tt_place (i := i) (by omega) hK (TT_app (by simp; omega) (TT_set (by omega) hT)) (by omega)) ?_
          refine me1 (pc' := 57) (L' := [(0, .ref 13), (1, oV b), (2, ii (i : Int))]) (S' := [oV b, ii (tqP (T i) : Int), ii 1, .ref h.length, .ref h.length]) dm_X7_numbers_56 (by cases b <;> rfl) rfl rfl rfl ?_
          refine x_cn (pc' := 60) (rest := [.ref h.length]) dm_X7_numbers_57 rfl (g_invp (As := [ii 1, ii (tqP (T i) : Int), oV b]) (S := [.ref h.length]) rfl rfl rfl) rfl rfl rfl (o_init (b := b) (by omega) (by omega) (hl_newa (by simp)) (hl_seta (by simp))) ?_
          rintro _ rfl
          refine me1 (pc' := 61) (L' := [(3, .ref h.length), (0, .ref 13), (1, oV b), (2, ii (i : Int))]) (S' := []) dm_X7_numbers_60 (by cases b <;> rfl) rfl rfl rfl ?_
          refine me1 (pc' := 62) (L' := [(3, .ref h.length), (0, .ref 13), (1, oV b), (2, ii (i : Int))]) (S' := [.ref 13]) dm_X7_numbers_61 rfl rfl rfl rfl ?_
          refine me3 (pc' := 65) (S' := [ii ((i + k : Nat) : Int)]) dm_X7_numbers_62 (g_get (v := ii ((i + k : Nat) : Int)) (hl_app (hl_set (hl_lt h13))) rfl rfl (by decide)) rfl rfl rfl ?_
          refine me1 (pc' := 66) (L' := [(3, .ref h.length), (0, .ref 13), (1, oV b), (2, ii (i : Int))]) (S' := [ii (i : Int), ii ((i + k : Nat) : Int)]) dm_X7_numbers_65 rfl rfl rfl rfl ?_
          refine y_isub (a := ((i + k : Nat) : Int)) (b := (i : Int)) dm_X7_numbers_66 (pc' := 67) rfl ?_
          refine me0 (pc' := 68) (S' := [ii 1, ii (((i + k : Nat) : Int) - (i : Int))]) dm_X7_numbers_67 rfl rfl rfl rfl ?_
          refine y_2ne (a := ((i + k : Nat) : Int) - (i : Int)) (b := 1) (t := 88) (pc' := 71) dm_X7_numbers_68 rfl rfl (by omega) (fun hb3 => ?_) (fun hb3 => ?_)
          · refine me1 (pc' := 89) (L' := [(3, .ref h.length), (0, .ref 13), (1, oV b), (2, ii (i : Int))]) (S' := [.ref 13]) dm_X7_numbers_88 rfl rfl rfl rfl ?_
            refine me3 (pc' := 92) (S' := [ii ((i + k : Nat) : Int)]) dm_X7_numbers_89 (g_get (v := ii ((i + k : Nat) : Int)) (hl_app (hl_set (hl_lt h13))) rfl rfl (by decide)) rfl rfl rfl ?_
            refine me1 (pc' := 93) (L' := [(3, .ref h.length), (0, .ref 13), (1, oV b), (2, ii (i : Int))]) (S' := [ii (i : Int), ii ((i + k : Nat) : Int)]) dm_X7_numbers_92 rfl rfl rfl rfl ?_
            refine y_isub (a := ((i + k : Nat) : Int)) (b := (i : Int)) dm_X7_numbers_93 (pc' := 94) rfl ?_
            refine pg_st (S' := [ii ((k : Nat) : Int)]) (congrArg (fun z => ii z :: []) (by omega)) ?_
            refine me3 (pc' := 96) (S' := [.ref (h.length + 1)]) (h1 := (((h).set 13 (cO 7 [.ref 9, ii ((i + k : Nat) : Int), ii wr, ii ls, .long nm, st, tl])) ++ [cO 4 [ii 1, ii (tqP (T i) : Int), ii 0, .long (Int64.ofInt 0), ii 0, ii 0, ii 0, .null, oV b, .null]]) ++ [cJ k (fun _ => 0)]) dm_X7_numbers_94 (yh_newJ (by omega) (by omega) (by omega) (by simp)) rfl rfl rfl ?_
            refine me1 (pc' := 98) (L' := [(4, .ref (h.length + 1)), (3, .ref h.length), (0, .ref 13), (1, oV b), (2, ii (i : Int))]) (S' := []) dm_X7_numbers_96 (by cases b <;> rfl) rfl rfl rfl ?_
            refine me0 (pc' := 99) (S' := [ii 0]) dm_X7_numbers_98 rfl rfl rfl rfl ?_
            refine me1 (pc' := 101) (L' := [(5, ii 0), (4, .ref (h.length + 1)), (3, .ref h.length), (0, .ref 13), (1, oV b), (2, ii (i : Int))]) (S' := []) dm_X7_numbers_99 (by cases b <;> rfl) rfl rfl rfl ?_
            have lp101 : ∀ (n101 : Nat) (j : Nat) (G : Nat → Int64), k - j = n101 → (j ≤ k) → (∀ x, x < j → G x = Int64.ofInt (tqD (T (i + x)))) → pgE xt (d - 1) 7 6 false (Option.some (Jvm.ClassFile.FieldType.object "ArrayCalculator$Op")) (mj_dec prog_9_method_19_code) 101 [(0, .ref 13), (2, ii (i : Int)), (3, .ref h.length), (4, .ref (h.length + 1)), (5, ii ((j : Nat) : Int))] [] ((((h).set 13 (cO 7 [.ref 9, ii ((i + k : Nat) : Int), ii wr, ii ls, .long nm, st, tl])) ++ [cO 4 [ii 1, ii (tqP (T i) : Int), ii 0, .long (Int64.ofInt 0), ii 0, ii 0, ii 0, .null, oV b, .null]]) ++ [cJ k G]) (fun r h' => ∃ x, r = some x ∧ RX A h T ln (f + 1) 3 o i b ls nm st x h') := by
              intro n101
              induction n101 using Nat.strongRecOn with
              | ind n101 ih101 =>
                intro j G hm101 hj hG
                refine me1 (pc' := 103) (L' := [(0, .ref 13), (2, ii (i : Int)), (3, .ref h.length), (4, .ref (h.length + 1)), (5, ii ((j : Nat) : Int))]) (S' := [ii ((j : Nat) : Int)]) dm_X7_numbers_101 rfl rfl rfl rfl ?_
                refine me1 (pc' := 105) (L' := [(0, .ref 13), (2, ii (i : Int)), (3, .ref h.length), (4, .ref (h.length + 1)), (5, ii ((j : Nat) : Int))]) (S' := [.ref (h.length + 1), ii ((j : Nat) : Int)]) dm_X7_numbers_103 rfl rfl rfl rfl ?_
                refine me3 (pc' := 106) (S' := [ii k, ii ((j : Nat) : Int)]) dm_X7_numbers_105 (yh_len (n := k) rfl (hl_newa (by simp)) (by omega)) rfl rfl rfl ?_
                refine y_2ge (a := ((j : Nat) : Int)) (b := k) (t := 131) (pc' := 109) dm_X7_numbers_106 rfl rfl (by omega) (fun hb4 => ?_) (fun hb4 => ?_)
                · refine me1 (pc' := 132) (L' := [(0, .ref 13), (2, ii (i : Int)), (3, .ref h.length), (4, .ref (h.length + 1)), (5, ii ((j : Nat) : Int))]) (S' := [.ref h.length]) dm_X7_numbers_131 rfl rfl rfl rfl ?_
                  refine me1 (pc' := 134) (L' := [(0, .ref 13), (2, ii (i : Int)), (3, .ref h.length), (4, .ref (h.length + 1)), (5, ii ((j : Nat) : Int))]) (S' := [.ref (h.length + 1), .ref h.length]) dm_X7_numbers_132 rfl rfl rfl rfl ?_
                  refine x_cv (pc' := 137) (rest := [.ref h.length]) dm_X7_numbers_134 rfl (g_invs (As := [.ref (h.length + 1)]) (S := [.ref h.length]) rfl rfl rfl) rfl rfl rfl (c_numberRow (hx1 := hx1) (q := h.length + 2) (by omega) (by first | (simp; done) | (simp; omega)) (by simp) (show rowAt (fun _ => True) _ _ _ _ from Or.inr ⟨by omega, (hl_newa (by simp)), by omega, trivial⟩) (by omega)) ?_
                  rintro _ _ ⟨rfl, rfl⟩
                  refine me3 (pc' := 140) (S' := []) (h1 := ((((h).set 13 (cO 7 [.ref 9, ii ((i + k : Nat) : Int), ii wr, ii ls, .long nm, st, tl])) ++ [cO 4 [ii 1, ii (tqP (T i) : Int), ii 0, .long (Int64.ofInt 0), ii 0, ii 0, ii 0, .ref (h.length + 2), oV b, .null]]) ++ [cJ k G]) ++ [cO 10 [ii (vform k G : Int), .long 0, .ref (h.length + 1), .null, ii 0, ii (k : Int), ii 0, ii (csz (vform k G : Int) (k : Int) 0), ii (clv (vform k G : Int))]]) dm_X7_numbers_137 (g_put (fs' := [ii 1, ii (tqP (T i) : Int), ii 0, .long (Int64.ofInt 0), ii 0, ii 0, ii 0, .ref (h.length + 2), oV b, .null]) (hl_app (hl_app (hl_newa (by simp)))) rfl (hl_set3a (by simp)) rfl (by simp) rfl (by decide) (fun z => by cases z) (by omega)) rfl rfl rfl ?_
                  refine me1 (pc' := 141) (L' := [(0, .ref 13), (2, ii (i : Int)), (3, .ref h.length), (4, .ref (h.length + 1)), (5, ii ((j : Nat) : Int))]) (S' := [.ref h.length]) dm_X7_numbers_140 rfl rfl rfl rfl ?_
                  refine y_ret (r := some (.ref h.length)) dm_X7_numbers_141 rfl rfl rfl ?_
                  have hjk : j = k := by omega
                  have hvf := vform_le (m := k) (f := G)
                  have hvc : vform k G = vform k (fun x => Int64.ofInt (tqD (T (i + x)))) := vform_congr (fun x hx => hG x (by omega))
                  have hv : vres A ((h.set 13 (cO 7 [.ref 9, ii ((i + k : Nat) : Int), ii wr, ii ls, .long nm, st, tl])) ++ [cO 4 [ii 1, ii (tqP (T i) : Int), ii 0, .long (Int64.ofInt 0), ii 0, ii 0, ii 0, .null, oV b, .null]]) 1 (nuV T i k) 2 (k + 9) (.ref (h.length + 1 + 1)) ((((h.set 13 (cO 7 [.ref 9, ii ((i + k : Nat) : Int), ii wr, ii ls, .long nm, st, tl])) ++ [cO 4 [ii 1, ii (tqP (T i) : Int), ii 0, .long (Int64.ofInt 0), ii 0, ii 0, ii 0, .null, oV b, .null]]) ++ [cJ k G]) ++ [cO 10 [ii (vform k G : Int), .long 0, .ref (h.length + 1), .null, ii 0, ii (k : Int), ii 0, ii (csz (vform k G : Int) (k : Int) 0), ii (clv (vform k G : Int))]]) := by
                    rw [show nuV T i k = vrow (vform k (fun x => Int64.ofInt (tqD (T (i + x))))) k (fun x => Int64.ofInt (tqD (T (i + x)))) by unfold nuV; rw [if_neg (by omega)]]
                    exact vres_rowL (by simp) (by omega) (by omega) (by omega) (by omega) (by rw [hvc]) (fun x hx => hG x (by omega)) (by decide) (by omega)
                  obtain ⟨q9, X9, hq9, -, -, -, hcv⟩ := hv
                  cases hq9
                  refine ⟨_, rfl, RX_iv (j := i + k) (by rw [pR3_1 h1, hn]) (hl_app (hl_app (hl_app (hl_set (hl_lt h13))))) (rdF_app (rdF_app (rdF_app (rdF_set (Or.inl rfl) (rdF_rf h 13))))) ⟨by omega, Nat.le_refl _, (by simp only [List.length_append, List.length_set, List.length_singleton]; omega)⟩ ((cR_nu h1).mpr ⟨h.length + 1 + 1, ⟨by omega, Or.inr ⟨Nat.le_refl _, (by simp only [List.length_append, List.length_set, List.length_singleton]; omega)⟩, (hl_app (hl_app (hl_newa (by simp))))⟩, ?_⟩) ?_ ?_⟩
                  · rw [hn]; exact cv_keep (kp_op (X := [cJ k G] ++ [cO 10 [ii (vform k G : Int), .long 0, .ref (h.length + 1), .null, ii 0, ii (k : Int), ii 0, ii (csz (vform k G : Int) (k : Int) 0), ii (clv (vform k G : Int))]]) (hb := h.set 13 (cO 7 [.ref 9, ii ((i + k : Nat) : Int), ii wr, ii ls, .long nm, st, tl])) (op := cO 4 [ii 1, ii (tqP (T i) : Int), ii 0, .long (Int64.ofInt 0), ii 0, ii 0, ii 0, .null, oV b, .null]) (op' := cO 4 [ii 1, ii (tqP (T i) : Int), ii 0, .long (Int64.ofInt 0), ii 0, ii 0, ii 0, .ref (h.length + 2), oV b, .null]) hA (by simp) (by simp only [List.append_assoc])) (by simp only [← List.append_assoc]; exact hcv)
                  · show _ + (1 - 0) ≤ _
                    simp only [List.length_append, List.length_set, List.length_singleton]; omega
                  · show _ + 10 * (1 - 0) ≤ _
                    rw [sl_app, sl_app, sl_app, sl_rd h13, sl_jj, sl_op, sl_vl]; omega
                · refine me1 (pc' := 111) (L' := [(0, .ref 13), (2, ii (i : Int)), (3, .ref h.length), (4, .ref (h.length + 1)), (5, ii ((j : Nat) : Int))]) (S' := [.ref (h.length + 1)]) dm_X7_numbers_109 rfl rfl rfl rfl ?_
                  refine me1 (pc' := 113) (L' := [(0, .ref 13), (2, ii (i : Int)), (3, .ref h.length), (4, .ref (h.length + 1)), (5, ii ((j : Nat) : Int))]) (S' := [ii ((j : Nat) : Int), .ref (h.length + 1)]) dm_X7_numbers_111 rfl rfl rfl rfl ?_
                  refine me1 (pc' := 114) (L' := [(0, .ref 13), (2, ii (i : Int)), (3, .ref h.length), (4, .ref (h.length + 1)), (5, ii ((j : Nat) : Int))]) (S' := [.ref 13, ii ((j : Nat) : Int), .ref (h.length + 1)]) dm_X7_numbers_113 rfl rfl rfl rfl ?_
                  refine me3 (pc' := 117) (S' := [.ref 9, ii ((j : Nat) : Int), .ref (h.length + 1)]) dm_X7_numbers_114 (g_get (v := .ref 9) (hl_app (hl_app (hl_set (hl_lt h13)))) rfl rfl (by decide)) rfl rfl rfl ?_
                  refine me1 (pc' := 118) (L' := [(0, .ref 13), (2, ii (i : Int)), (3, .ref h.length), (4, .ref (h.length + 1)), (5, ii ((j : Nat) : Int))]) (S' := [ii (i : Int), .ref 9, ii ((j : Nat) : Int), .ref (h.length + 1)]) dm_X7_numbers_117 rfl rfl rfl rfl ?_
                  refine me1 (pc' := 120) (L' := [(0, .ref 13), (2, ii (i : Int)), (3, .ref h.length), (4, .ref (h.length + 1)), (5, ii ((j : Nat) : Int))]) (S' := [ii ((j : Nat) : Int), ii (i : Int), .ref 9, ii ((j : Nat) : Int), .ref (h.length + 1)]) dm_X7_numbers_118 rfl rfl rfl rfl ?_
                  refine y_iadd (a := (i : Int)) (b := ((j : Nat) : Int)) dm_X7_numbers_120 (pc' := 121) rfl ?_
                  refine pg_st (S' := [ii ((i + j : Nat) : Int), .ref 9, ii ((j : Nat) : Int), .ref (h.length + 1)]) (congrArg (fun z => ii z :: [.ref 9, ii ((j : Nat) : Int), .ref (h.length + 1)]) (by omega)) ?_
                  refine x_cp (pc' := 124) (v := .long (Int64.ofInt (tqD (T (i + j))))) (rest := [ii ((j : Nat) : Int), .ref (h.length + 1)]) dm_X7_numbers_121 rfl (g_inv (As := [ii ((i + j : Nat) : Int)]) (S := [ii ((j : Nat) : Int), .ref (h.length + 1)]) (hl_app (hl_app (hl_ne (by decide) h9))) rfl rfl rfl (by decide)) rfl rfl rfl (tt_data (i := i + j) (by omega) hK (TT_app (by simp; omega) (TT_app (by simp; omega) (TT_set (by omega) hT))) (by omega)) ?_
                  refine me3 (pc' := 125) (S' := []) (h1 := (((h).set 13 (cO 7 [.ref 9, ii ((i + k : Nat) : Int), ii wr, ii ls, .long nm, st, tl])) ++ [cO 4 [ii 1, ii (tqP (T i) : Int), ii 0, .long (Int64.ofInt 0), ii 0, ii 0, ii 0, .null, oV b, .null]]) ++ [cJ k (va_up G j (Int64.ofInt (tqD (T (i + j)))))]) dm_X7_numbers_124 (y_hs (yh_last (j := ((j : Nat) : Int)) (hl_newa (by simp)) (by omega) (by omega) (by omega) (by omega)) (by rw [show ((j : Nat) : Int).toNat = j from rfl]; exact (hl_seta (by simp)))) rfl rfl rfl ?_
                  refine y_iinc (pc' := 128) (L' := [(5, ii (((j : Nat) : Int) + 1)), (0, .ref 13), (2, ii (i : Int)), (3, .ref h.length), (4, .ref (h.length + 1))]) dm_X7_numbers_125 (y_incp (a := ((j : Nat) : Int)) (c := 1) rfl rfl (by decide)) rfl ?_
                  refine me2 (pc' := 101) (S' := []) dm_X7_numbers_128 rfl rfl rfl ?_
                  exact pg_sub (L := [(0, .ref 13), (2, ii (i : Int)), (3, .ref h.length), (4, .ref (h.length + 1)), (5, ii (((j + 1) : Nat) : Int))]) rfl rfl rfl (ih101 (k - (j + 1)) (by omega) (j + 1) (va_up G j (Int64.ofInt (tqD (T (i + j))))) rfl (by omega) (fun x hx => by by_cases z : x = j; (rw [z, up_eq]); (rw [up_ne _ _ z]; exact hG x (by omega))))
            exact pg_sub (L := [(0, .ref 13), (2, ii (i : Int)), (3, .ref h.length), (4, .ref (h.length + 1)), (5, ii ((0 : Nat) : Int))]) rfl rfl rfl (lp101 _ 0 (fun _ => 0) rfl (Nat.zero_le _) (fun j hj => absurd hj (Nat.not_lt_zero j)))
          · refine me1 (pc' := 72) (L' := [(3, .ref h.length), (0, .ref 13), (1, oV b), (2, ii (i : Int))]) (S' := [.ref h.length]) dm_X7_numbers_71 rfl rfl rfl rfl ?_
            refine me1 (pc' := 73) (L' := [(3, .ref h.length), (0, .ref 13), (1, oV b), (2, ii (i : Int))]) (S' := [.ref 13, .ref h.length]) dm_X7_numbers_72 rfl rfl rfl rfl ?_
            refine me3 (pc' := 76) (S' := [.ref 9, .ref h.length]) dm_X7_numbers_73 (g_get (v := .ref 9) (hl_app (hl_set (hl_lt h13))) rfl rfl (by decide)) rfl rfl rfl ?_
            refine me1 (pc' := 77) (L' := [(3, .ref h.length), (0, .ref 13), (1, oV b), (2, ii (i : Int))]) (S' := [ii (i : Int), .ref 9, .ref h.length]) dm_X7_numbers_76 rfl rfl rfl rfl ?_
            refine x_cp (pc' := 80) (v := .long (Int64.ofInt (tqD (T i)))) (rest := [.ref h.length]) dm_X7_numbers_77 rfl (g_inv (As := [ii (i : Int)]) (S := [.ref h.length]) (hl_app (hl_ne (by decide) h9)) rfl rfl rfl (by decide)) rfl rfl rfl (tt_data (i := i) (by omega) hK (TT_app (by simp; omega) (TT_set (by omega) hT)) (by omega)) ?_
            refine x_cv (pc' := 83) (rest := [.ref h.length]) dm_X7_numbers_80 rfl (g_invs (As := [.long (Int64.ofInt (tqD (T i)))]) (S := [.ref h.length]) rfl rfl rfl) rfl rfl rfl (c_number (q := h.length + 1) (by omega) (by simp; omega) (by simp) ) ?_
            rintro _ _ ⟨rfl, rfl⟩
            refine me3 (pc' := 86) (S' := []) (h1 := (((h).set 13 (cO 7 [.ref 9, ii ((i + k : Nat) : Int), ii wr, ii ls, .long nm, st, tl])) ++ [cO 4 [ii 1, ii (tqP (T i) : Int), ii 0, .long (Int64.ofInt 0), ii 0, ii 0, ii 0, .ref (h.length + 1), oV b, .null]]) ++ [cO 10 [ii 0, .long (Int64.ofInt (tqD (T i))), .ref 1, .null, ii 0, ii 1, ii 0, ii (csz 0 1 0), ii (clv 0)]]) dm_X7_numbers_83 (g_put (fs' := [ii 1, ii (tqP (T i) : Int), ii 0, .long (Int64.ofInt 0), ii 0, ii 0, ii 0, .ref (h.length + 1), oV b, .null]) (hl_app (hl_newa (by simp))) rfl (hl_set2a (by simp)) rfl (by simp) rfl (by decide) (fun z => by cases z) (by omega)) rfl rfl rfl ?_
            refine me1 (pc' := 87) (L' := [(3, .ref h.length), (0, .ref 13), (1, oV b), (2, ii (i : Int))]) (S' := [.ref h.length]) dm_X7_numbers_86 rfl rfl rfl rfl ?_
            refine y_ret (r := some (.ref h.length)) dm_X7_numbers_87 rfl rfl rfl ?_
            have hk1_ : k = 1 := by omega
            have hv : vres A ((h.set 13 (cO 7 [.ref 9, ii ((i + k : Nat) : Int), ii wr, ii ls, .long nm, st, tl])) ++ [cO 4 [ii 1, ii (tqP (T i) : Int), ii 0, .long (Int64.ofInt 0), ii 0, ii 0, ii 0, .null, oV b, .null]]) 1 (nuV T i k) 1 9 (.ref (h.length + 1)) (((h.set 13 (cO 7 [.ref 9, ii ((i + k : Nat) : Int), ii wr, ii ls, .long nm, st, tl])) ++ [cO 4 [ii 1, ii (tqP (T i) : Int), ii 0, .long (Int64.ofInt 0), ii 0, ii 0, ii 0, .null, oV b, .null]]) ++ [cO 10 [ii 0, .long (Int64.ofInt (tqD (T i))), .ref 1, .null, ii 0, ii 1, ii 0, ii (csz 0 1 0), ii (clv 0)]]) := by
              rw [show nuV T i k = v1 0 (Int64.ofInt (tqD (T i))) by unfold nuV; rw [if_pos hk1_]]
              have z := vres_one (A := A) (h := ((h.set 13 (cO 7 [.ref 9, ii ((i + k : Nat) : Int), ii wr, ii ls, .long nm, st, tl])) ++ [cO 4 [ii 1, ii (tqP (T i) : Int), ii 0, .long (Int64.ofInt 0), ii 0, ii 0, ii 0, .null, oV b, .null]])) (e := 0) (k := 0) (a := 1) (b := 9) (x := Int64.ofInt (tqD (T i))) (by simp; omega) (by decide) (by decide) (by decide)
              rw [show ((h.set 13 (cO 7 [.ref 9, ii ((i + k : Nat) : Int), ii wr, ii ls, .long nm, st, tl])) ++ [cO 4 [ii 1, ii (tqP (T i) : Int), ii 0, .long (Int64.ofInt 0), ii 0, ii 0, ii 0, .null, oV b, .null]]).length = h.length + 1 by simp] at z
              exact z
            obtain ⟨q9, X9, hq9, -, -, -, hcv⟩ := hv
            cases hq9
            refine ⟨_, rfl, RX_iv (j := i + k) (by rw [pR3_1 h1, hn]) (hl_app (hl_app (hl_set (hl_lt h13)))) (rdF_app (rdF_app (rdF_set (Or.inl rfl) (rdF_rf h 13)))) ⟨by omega, Nat.le_refl _, (by simp only [List.length_append, List.length_set, List.length_singleton]; omega)⟩ ((cR_nu h1).mpr ⟨h.length + 1, ⟨by omega, Or.inr ⟨Nat.le_refl _, (by simp only [List.length_append, List.length_set, List.length_singleton]; omega)⟩, (hl_app (hl_newa (by simp)))⟩, ?_⟩) ?_ ?_⟩
            · rw [hn]; exact cv_keep (kp_op (X := [cO 10 [ii 0, .long (Int64.ofInt (tqD (T i))), .ref 1, .null, ii 0, ii 1, ii 0, ii (csz 0 1 0), ii (clv 0)]]) hA (by simp) rfl) hcv
            · show _ + (1 - 0) ≤ _
              simp only [List.length_append, List.length_set, List.length_singleton]; omega
            · show _ + 10 * (1 - 0) ≤ _
              rw [sl_app, sl_app, sl_rd h13, sl_op, sl_vl]; omega
        · have h1k : tqS (T (i + k)) = 1 := (cS_7 T (i + k)).2.2.2.1.mp (by omega)
          have hlk := TOKS_lt hK (i := i + k) (by omega)
          refine me1 (pc' := 31) (L' := [(0, .ref 13), (1, oV b), (2, ii (i : Int))]) (S' := [.ref 13]) dm_X7_numbers_30 rfl rfl rfl rfl ?_
          refine me0 (pc' := 32) (S' := [.ref 13, .ref 13]) dm_X7_numbers_31 rfl rfl rfl rfl ?_
          refine me3 (pc' := 35) (S' := [ii ((i + k : Nat) : Int), .ref 13]) dm_X7_numbers_32 (g_get (v := ii ((i + k : Nat) : Int)) (hl_set (hl_lt h13)) rfl rfl (by decide)) rfl rfl rfl ?_
          refine me0 (pc' := 36) (S' := [ii 1, ii ((i + k : Nat) : Int), .ref 13]) dm_X7_numbers_35 rfl rfl rfl rfl ?_
          refine y_iadd (a := ((i + k : Nat) : Int)) (b := 1) dm_X7_numbers_36 (pc' := 37) rfl ?_
          refine pg_st (S' := [ii ((i + k + 1 : Nat) : Int), .ref 13]) (congrArg (fun z => ii z :: [.ref 13]) (by omega)) ?_
          refine me3 (pc' := 40) (S' := []) (h1 := (h).set 13 (cO 7 [.ref 9, ii ((i + k + 1 : Nat) : Int), ii wr, ii ls, .long nm, st, tl])) dm_X7_numbers_37 (g_put (fs' := [.ref 9, ii ((i + k + 1 : Nat) : Int), ii wr, ii ls, .long nm, st, tl]) (hl_set (hl_lt h13)) rfl (by rw [List.set_set]) rfl (by simp) rfl (by decide) (fun z => by cases z) (by decide)) rfl rfl rfl ?_
          refine me2 (pc' := 5) (S' := []) dm_X7_numbers_40 rfl rfl rfl ?_
          exact pg_sub (L := [(0, .ref 13), (1, oV b), (2, ii (i : Int))]) rfl rfl rfl (ih5 (mk - (i + (k + 1))) (by omega) (k + 1) rfl (by omega) (fun j hj => by by_cases z : j = k; (rw [z]; exact h1k); exact hr j (by omega)))
  refine pg_cast (h2 := (h).set 13 (cO 7 [.ref 9, ii ((i + 0 : Nat) : Int), ii wr, ii ls, .long nm, st, tl])) (set_id h13) ?_
  exact pg_sub (L := [(0, .ref 13), (1, oV b), (2, ii (i : Int))]) rfl rfl rfl (lp5 _ 0 rfl (by omega) (fun j hj => absurd hj (Nat.not_lt_zero j)))
