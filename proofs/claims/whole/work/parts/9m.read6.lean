theorem RX_o {A : Nat → Prop} {h h' : mj_H} {T : Nat → Tok} {ln f m o i : Nat} {b : Option Nat} {ls : Int} {nm : Int64} {st x : Value} (hx : RX A h T ln f m o i b ls nm st x h') : ∃ q : Option Nat, x = oV q := by
  cases e : pR T f m o i with
  | inl p => obtain ⟨_, _, h1, _⟩ := RX_e e hx; exact ⟨none, h1⟩
  | inr j => obtain ⟨op, _, _, h1, _⟩ := RX_v e hx; exact ⟨some op, h1⟩
theorem kp_c {A : Nat → Prop} {h g k z : mj_H} {c : Nat} (hA : okA A h) (hl : 127 ≤ h.length) (hg : h.length + 1 ≤ g.length) (hc : c = h.length) (kz : rdF k z c) : kpA (newA A g k) k (newA A h z) z := kp_rd hA hl (by omega) kz (Or.inr ⟨by omega, fun x => by have := (hA c x).1; omega⟩)
set_option maxRecDepth 20000 in
theorem pm_X7_choice : mj_mmof pg_ms 54 = some ((⟨"ArrayCalculator$Reader", "choice", "(LArrayCalculator$Op;I)LArrayCalculator$Op;"⟩, prog_9_method_21_code, 5, (Option.some (Jvm.ClassFile.FieldType.object "ArrayCalculator$Op"))), 7, false, mj_dec prog_9_method_21_code) := rfl
theorem dm_X7_choice_0 : mj_dec prog_9_method_21_code 0 = some (.new 15, 3) := by decide +kernel
theorem dm_X7_choice_3 : mj_dec prog_9_method_21_code 3 = some (.dup, 1) := by decide +kernel
theorem dm_X7_choice_4 : mj_dec prog_9_method_21_code 4 = some (.bipush 6, 2) := by decide +kernel
theorem dm_X7_choice_6 : mj_dec prog_9_method_21_code 6 = some (.aload_n 0, 1) := by decide +kernel
theorem dm_X7_choice_7 : mj_dec prog_9_method_21_code 7 = some (.getfield 9, 3) := by decide +kernel
theorem dm_X7_choice_10 : mj_dec prog_9_method_21_code 10 = some (.aload_n 0, 1) := by decide +kernel
theorem dm_X7_choice_11 : mj_dec prog_9_method_21_code 11 = some (.getfield 38, 3) := by decide +kernel
theorem dm_X7_choice_14 : mj_dec prog_9_method_21_code 14 = some (.invokevirtual 81, 3) := by decide +kernel
theorem dm_X7_choice_17 : mj_dec prog_9_method_21_code 17 = some (.aconst_null, 1) := by decide +kernel
theorem dm_X7_choice_18 : mj_dec prog_9_method_21_code 18 = some (.invokespecial 17, 3) := by decide +kernel
theorem dm_X7_choice_21 : mj_dec prog_9_method_21_code 21 = some (.astore_n 3, 1) := by decide +kernel
theorem dm_X7_choice_22 : mj_dec prog_9_method_21_code 22 = some (.aload_n 0, 1) := by decide +kernel
theorem dm_X7_choice_23 : mj_dec prog_9_method_21_code 23 = some (.dup, 1) := by decide +kernel
theorem dm_X7_choice_24 : mj_dec prog_9_method_21_code 24 = some (.getfield 38, 3) := by decide +kernel
theorem dm_X7_choice_27 : mj_dec prog_9_method_21_code 27 = some (.iconst 1, 1) := by decide +kernel
theorem dm_X7_choice_28 : mj_dec prog_9_method_21_code 28 = some (.iadd, 1) := by decide +kernel
theorem dm_X7_choice_29 : mj_dec prog_9_method_21_code 29 = some (.putfield 38, 3) := by decide +kernel
theorem dm_X7_choice_32 : mj_dec prog_9_method_21_code 32 = some (.aload_n 0, 1) := by decide +kernel
theorem dm_X7_choice_33 : mj_dec prog_9_method_21_code 33 = some (.aload_n 3, 1) := by decide +kernel
theorem dm_X7_choice_34 : mj_dec prog_9_method_21_code 34 = some (.iload_n 2, 1) := by decide +kernel
theorem dm_X7_choice_35 : mj_dec prog_9_method_21_code 35 = some (.invokevirtual 70, 3) := by decide +kernel
theorem dm_X7_choice_38 : mj_dec prog_9_method_21_code 38 = some (.astore 4, 2) := by decide +kernel
theorem dm_X7_choice_40 : mj_dec prog_9_method_21_code 40 = some (.aload 4, 2) := by decide +kernel
theorem dm_X7_choice_42 : mj_dec prog_9_method_21_code 42 = some (.ifnull 12, 3) := by decide +kernel
theorem dm_X7_choice_45 : mj_dec prog_9_method_21_code 45 = some (.aload_n 0, 1) := by decide +kernel
theorem dm_X7_choice_46 : mj_dec prog_9_method_21_code 46 = some (.bipush 59, 2) := by decide +kernel
theorem dm_X7_choice_48 : mj_dec prog_9_method_21_code 48 = some (.invokevirtual 74, 3) := by decide +kernel
theorem dm_X7_choice_51 : mj_dec prog_9_method_21_code 51 = some (.ifCond .ne 5, 3) := by decide +kernel
theorem dm_X7_choice_54 : mj_dec prog_9_method_21_code 54 = some (.aconst_null, 1) := by decide +kernel
theorem dm_X7_choice_55 : mj_dec prog_9_method_21_code 55 = some (.areturn, 1) := by decide +kernel
theorem dm_X7_choice_56 : mj_dec prog_9_method_21_code 56 = some (.aload_n 3, 1) := by decide +kernel
theorem dm_X7_choice_57 : mj_dec prog_9_method_21_code 57 = some (.aload_n 0, 1) := by decide +kernel
theorem dm_X7_choice_58 : mj_dec prog_9_method_21_code 58 = some (.aload_n 1, 1) := by decide +kernel
theorem dm_X7_choice_59 : mj_dec prog_9_method_21_code 59 = some (.iload_n 2, 1) := by decide +kernel
theorem dm_X7_choice_60 : mj_dec prog_9_method_21_code 60 = some (.invokevirtual 70, 3) := by decide +kernel
theorem dm_X7_choice_63 : mj_dec prog_9_method_21_code 63 = some (.putfield 127, 3) := by decide +kernel
theorem dm_X7_choice_66 : mj_dec prog_9_method_21_code 66 = some (.aload_n 3, 1) := by decide +kernel
theorem dm_X7_choice_67 : mj_dec prog_9_method_21_code 67 = some (.getfield 127, 3) := by decide +kernel
theorem dm_X7_choice_70 : mj_dec prog_9_method_21_code 70 = some (.ifnull 12, 3) := by decide +kernel
theorem dm_X7_choice_73 : mj_dec prog_9_method_21_code 73 = some (.aload_n 0, 1) := by decide +kernel
theorem dm_X7_choice_74 : mj_dec prog_9_method_21_code 74 = some (.bipush 59, 2) := by decide +kernel
theorem dm_X7_choice_76 : mj_dec prog_9_method_21_code 76 = some (.invokevirtual 74, 3) := by decide +kernel
theorem dm_X7_choice_79 : mj_dec prog_9_method_21_code 79 = some (.ifCond .ne 5, 3) := by decide +kernel
theorem dm_X7_choice_82 : mj_dec prog_9_method_21_code 82 = some (.aconst_null, 1) := by decide +kernel
theorem dm_X7_choice_83 : mj_dec prog_9_method_21_code 83 = some (.areturn, 1) := by decide +kernel
theorem dm_X7_choice_84 : mj_dec prog_9_method_21_code 84 = some (.aload_n 3, 1) := by decide +kernel
theorem dm_X7_choice_85 : mj_dec prog_9_method_21_code 85 = some (.aload_n 0, 1) := by decide +kernel
theorem dm_X7_choice_86 : mj_dec prog_9_method_21_code 86 = some (.aload_n 1, 1) := by decide +kernel
theorem dm_X7_choice_87 : mj_dec prog_9_method_21_code 87 = some (.iload_n 2, 1) := by decide +kernel
theorem dm_X7_choice_88 : mj_dec prog_9_method_21_code 88 = some (.invokevirtual 70, 3) := by decide +kernel
theorem dm_X7_choice_91 : mj_dec prog_9_method_21_code 91 = some (.putfield 164, 3) := by decide +kernel
theorem dm_X7_choice_94 : mj_dec prog_9_method_21_code 94 = some (.aload_n 3, 1) := by decide +kernel
theorem dm_X7_choice_95 : mj_dec prog_9_method_21_code 95 = some (.getfield 164, 3) := by decide +kernel
theorem dm_X7_choice_98 : mj_dec prog_9_method_21_code 98 = some (.ifnull 17, 3) := by decide +kernel
theorem dm_X7_choice_101 : mj_dec prog_9_method_21_code 101 = some (.aload_n 0, 1) := by decide +kernel
theorem dm_X7_choice_102 : mj_dec prog_9_method_21_code 102 = some (.bipush 93, 2) := by decide +kernel
theorem dm_X7_choice_104 : mj_dec prog_9_method_21_code 104 = some (.invokevirtual 74, 3) := by decide +kernel
theorem dm_X7_choice_107 : mj_dec prog_9_method_21_code 107 = some (.ifCond .eq 8, 3) := by decide +kernel
theorem dm_X7_choice_110 : mj_dec prog_9_method_21_code 110 = some (.aload 4, 2) := by decide +kernel
theorem dm_X7_choice_112 : mj_dec prog_9_method_21_code 112 = some (.goto 4, 3) := by decide +kernel
theorem dm_X7_choice_115 : mj_dec prog_9_method_21_code 115 = some (.aconst_null, 1) := by decide +kernel
theorem dm_X7_choice_116 : mj_dec prog_9_method_21_code 116 = some (.areturn, 1) := by decide +kernel
theorem d_choice {xt : mj_X} {f1 : Nat → Value} {o0 f d mk ln i : Nat} {A : Nat → Prop} {T : Nat → Tok} {wr ls : Int} {nm : Int64} {st tl : Value} {h : mj_H} (hx1 : xt 1 = some (.long, 0, f1)) (hd : 4 * (12 - (o0 + 1)) + 11 ≤ d) (hl : 127 ≤ h.length) (hA : okA A h) (hK : TOKS T mk ln) (hT : TT h T mk ln) (h13 : h[13]? = some (rdC (i : Int) wr ls nm st tl)) {b : Option Nat} (hE : EX xt T mk ln f ls nm st) (hm91 : isMk T i 91) (ho : o0 < 12) (hf : 8 * (mk - (i + 1)) + 6 ≤ f) : pgV xt d 54 [.ref 13, oV b, ii ((o0 + 1 : Nat) : Int)] h (RX A h T ln (f + 1) 3 o0 i b ls nm st) := by
  obtain ⟨le_, gd, sf, pf, bf, df, hk9, -, -, -, -, -, -⟩ := id hT
  have h9 := hk9.1
  have hmk200 := hK.1
  have hlt := TOKS_lt hK (i := i) (by have := hm91.1; omega)
  have hPi := hK.2.2.2.2.2.2.1 i hlt
  have hPl : ∀ j, tqP (T j) ≤ ln := P_ln hK
  refine x_enter pm_X7_choice (L0 := [(0, .ref 13), (1, oV b), (2, ii ((o0 + 1 : Nat) : Int))]) (by cases b <;> rfl) (by cases b <;> exact Nat.le_of_ble_eq_true rfl) (by omega) ?_
  refine me3 (pc' := 3) (S' := [.ref h.length]) (h1 := h ++ [cO 4 [ii 0, ii 0, ii 0, .long (Int64.ofInt 0), ii 0, ii 0, ii 0, .null, .null, .null]]) dm_X7_choice_0 (g_nw rfl rfl rfl) rfl rfl rfl ?_
  refine me0 (pc' := 4) (S' := [.ref h.length, .ref h.length]) dm_X7_choice_3 rfl rfl rfl rfl ?_
  refine me0 (pc' := 6) (S' := [ii 6, .ref h.length, .ref h.length]) dm_X7_choice_4 rfl rfl rfl rfl ?_
  refine me1 (pc' := 7) (L' := [(0, .ref 13), (1, oV b), (2, ii ((o0 + 1 : Nat) : Int))]) (S' := [.ref 13, ii 6, .ref h.length, .ref h.length]) dm_X7_choice_6 rfl rfl rfl rfl ?_
  refine me3 (pc' := 10) (S' := [.ref 9, ii 6, .ref h.length, .ref h.length]) dm_X7_choice_7 (g_get (v := .ref 9) (hl_app h13) rfl rfl (by decide)) rfl rfl rfl ?_
  refine me1 (pc' := 11) (L' := [(0, .ref 13), (1, oV b), (2, ii ((o0 + 1 : Nat) : Int))]) (S' := [.ref 13, .ref 9, ii 6, .ref h.length, .ref h.length]) dm_X7_choice_10 rfl rfl rfl rfl ?_
  refine me3 (pc' := 14) (S' := [ii (i : Int), .ref 9, ii 6, .ref h.length, .ref h.length]) dm_X7_choice_11 (g_get (v := ii (i : Int)) (hl_app h13) rfl rfl (by decide)) rfl rfl rfl ?_
  refine x_cp (pc' := 17) (v := ii (tqP (T i) : Int)) (rest := [ii 6, .ref h.length, .ref h.length]) dm_X7_choice_14 rfl (g_inv (As := [ii (i : Int)]) (S := [ii 6, .ref h.length, .ref h.length]) (hl_app h9) rfl rfl rfl (by decide)) rfl rfl rfl (tt_place (i := i) (by omega) hK (TT_app (by omega) hT) (by omega)) ?_
  refine me0 (pc' := 18) (S' := [.null, ii (tqP (T i) : Int), ii 6, .ref h.length, .ref h.length]) dm_X7_choice_17 rfl rfl rfl rfl ?_
  refine x_cn (pc' := 21) (rest := [.ref h.length]) dm_X7_choice_18 rfl (g_invp (As := [ii 6, ii (tqP (T i) : Int), .null]) (S := [.ref h.length]) rfl rfl rfl) rfl rfl rfl (o_init (b := none) (by omega) (by omega) hl_new (hl_setl)) ?_
  rintro _ rfl
  refine me1 (pc' := 22) (L' := [(3, .ref h.length), (0, .ref 13), (1, oV b), (2, ii ((o0 + 1 : Nat) : Int))]) (S' := []) dm_X7_choice_21 (by cases b <;> rfl) rfl rfl rfl ?_
  refine me1 (pc' := 23) (L' := [(3, .ref h.length), (0, .ref 13), (1, oV b), (2, ii ((o0 + 1 : Nat) : Int))]) (S' := [.ref 13]) dm_X7_choice_22 rfl rfl rfl rfl ?_
  refine me0 (pc' := 24) (S' := [.ref 13, .ref 13]) dm_X7_choice_23 rfl rfl rfl rfl ?_
  refine me3 (pc' := 27) (S' := [ii (i : Int), .ref 13]) dm_X7_choice_24 (g_get (v := ii (i : Int)) (hl_app h13) rfl rfl (by decide)) rfl rfl rfl ?_
  refine me0 (pc' := 28) (S' := [ii 1, ii (i : Int), .ref 13]) dm_X7_choice_27 rfl rfl rfl rfl ?_
  refine y_iadd (a := (i : Int)) (b := 1) dm_X7_choice_28 (pc' := 29) rfl ?_
  refine pg_st (S' := [ii ((i + 1 : Nat) : Int), .ref 13]) (congrArg (fun z => ii z :: [.ref 13]) (by omega)) ?_
  refine me3 (pc' := 32) (S' := []) (h1 := (h ++ [cO 4 [ii 6, ii (tqP (T i) : Int), ii 0, .long (Int64.ofInt 0), ii 0, ii 0, ii 0, .null, .null, .null]]).set 13 (cO 7 [.ref 9, ii ((i + 1 : Nat) : Int), ii wr, ii ls, .long nm, st, tl])) dm_X7_choice_29 (g_put (fs' := [.ref 9, ii ((i + 1 : Nat) : Int), ii wr, ii ls, .long nm, st, tl]) (hl_app h13) rfl rfl rfl (by simp) rfl (by decide) (fun z => by cases z) (by decide)) rfl rfl rfl ?_
  refine me1 (pc' := 33) (L' := [(3, .ref h.length), (0, .ref 13), (1, oV b), (2, ii ((o0 + 1 : Nat) : Int))]) (S' := [.ref 13]) dm_X7_choice_32 rfl rfl rfl rfl ?_
  refine me1 (pc' := 34) (L' := [(3, .ref h.length), (0, .ref 13), (1, oV b), (2, ii ((o0 + 1 : Nat) : Int))]) (S' := [.ref h.length, .ref 13]) dm_X7_choice_33 rfl rfl rfl rfl ?_
  refine me1 (pc' := 35) (L' := [(3, .ref h.length), (0, .ref 13), (1, oV b), (2, ii ((o0 + 1 : Nat) : Int))]) (S' := [ii ((o0 + 1 : Nat) : Int), .ref h.length, .ref 13]) dm_X7_choice_34 rfl rfl rfl rfl ?_
  obtain ⟨g1, g1e⟩ : ∃ g1, g1 = ((h ++ [cO 4 [ii 6, ii (tqP (T i) : Int), ii 0, .long (Int64.ofInt 0), ii 0, ii 0, ii 0, .null, .null, .null]]).set 13 (cO 7 [.ref 9, ii ((i + 1 : Nat) : Int), ii wr, ii ls, .long nm, st, tl])) := ⟨_, rfl⟩
  have g1_13 : g1[13]? = some (cO 7 [.ref 9, ii ((i + 1 : Nat) : Int), ii wr, ii ls, .long nm, st, tl]) := by rw [g1e]; exact (hl_set (hl_lt (hl_app h13)))
  have g1_9 : g1[9]? = some (cO 8 [.ref 10, .ref 11, .ref 12, ii ((mk + 1 : Nat) : Int), ii le_, .ref 3, .ref 4, ii (ln : Int), zz gd]) := by rw [g1e]; exact (hl_ne (by decide) (hl_app h9))
  have g1_k0 : g1[h.length]? = some (cO 4 [ii 6, ii (tqP (T i) : Int), ii 0, .long (Int64.ofInt 0), ii 0, ii 0, ii 0, .null, .null, .null]) := by rw [g1e]; exact (hl_ne (by omega) hl_new)
  have g1T : TT g1 T mk ln := by rw [g1e]; exact (TT_set (by omega) (TT_app (by omega) hT))
  refine pg_cast (h2 := g1) g1e.symm ?_
  have g1l : g1.length = h.length + 1 := by rw [g1e]; simp
  have g1s : mj_sl g1 = mj_sl h + 10 := by rw [g1e, sl_rd (hl_app h13), sl_app, sl_op]
  have g1F : rdF h g1 13 := by rw [g1e]; exact rdF_set (Or.inl rfl) (rdF_app (rdF_rf h 13))
  rcases e1 : pR T f 0 (o0 + 1) (i + 1) with p_e1 | j_e1
  · refine x_cv (pc' := 38) (rest := []) dm_X7_choice_35 rfl (g_inv (As := [.ref h.length, ii ((o0 + 1 : Nat) : Int)]) (S := []) g1_13 rfl rfl rfl (by decide)) rfl rfl rfl (hE _ g1 A (i + 1) (o0 + 1) (some h.length) wr tl (by omega) (by omega) (okA_len hA (by omega)) g1T g1_13 (by omega) (by omega) (by omega)) ?_
    rintro x1 k1 hx1
    obtain ⟨k1at, k1tl, rfl, k1_13, k1F, k1L, k1S⟩ := RX_e e1 hx1
    have k1T : TT k1 T mk ln := rdF_TT k1F (by decide) (by omega) g1T
    have k1l := k1F.1
    have k1_9 : k1[9]? = some (cO 8 [.ref 10, .ref 11, .ref 12, ii ((mk + 1 : Nat) : Int), ii le_, .ref 3, .ref 4, ii (ln : Int), zz gd]) := (k1F.2 9 (by omega) (by omega) (by omega)).trans g1_9
    have k1_k0 : k1[h.length]? = some (cO 4 [ii 6, ii (tqP (T i) : Int), ii 0, .long (Int64.ofInt 0), ii 0, ii 0, ii 0, .null, .null, .null]) := (k1F.2 h.length (by omega) (by omega) (by omega)).trans g1_k0
    refine me1 (pc' := 40) (L' := [(4, .null), (3, .ref h.length), (0, .ref 13), (1, oV b), (2, ii ((o0 + 1 : Nat) : Int))]) (S' := []) dm_X7_choice_38 (by cases b <;> rfl) rfl rfl rfl ?_
    refine me1 (pc' := 42) (L' := [(4, .null), (3, .ref h.length), (0, .ref 13), (1, oV b), (2, ii ((o0 + 1 : Nat) : Int))]) (S' := [.null]) dm_X7_choice_40 rfl rfl rfl rfl ?_
    refine me2 (pc' := 54) (S' := []) dm_X7_choice_42 rfl rfl rfl ?_
    refine me0 (pc' := 55) (S' := [.null]) dm_X7_choice_54 rfl rfl rfl rfl ?_
    refine y_ret (r := some (.null)) dm_X7_choice_55 rfl rfl rfl ?_
    have hc : ceM 0 = 1 := rfl
    have hs0 := hPl (i + 1)
    exact ⟨_, rfl, RX_ie (pR3_c1 hm91 ho e1) k1_13 (rdF_tr g1F k1F) (by show _ ≤ _ + 0; (try simp only [List.length_set]); omega) (by show _ ≤ _ + 10 * 0; omega)⟩
  · refine x_cv (pc' := 38) (rest := []) dm_X7_choice_35 rfl (g_inv (As := [.ref h.length, ii ((o0 + 1 : Nat) : Int)]) (S := []) g1_13 rfl rfl rfl (by decide)) rfl rfl rfl (hE _ g1 A (i + 1) (o0 + 1) (some h.length) wr tl (by omega) (by omega) (okA_len hA (by omega)) g1T g1_13 (by omega) (by omega) (by omega)) ?_
    rintro x1 k1 hx1
    obtain ⟨k1op, k1wr, k1tl, rfl, k1_13, k1F, k1O, k1C, k1L, k1S⟩ := RX_v e1 hx1
    have k1T : TT k1 T mk ln := rdF_TT k1F (by decide) (by omega) g1T
    have k1l := k1F.1
    have k1_9 : k1[9]? = some (cO 8 [.ref 10, .ref 11, .ref 12, ii ((mk + 1 : Nat) : Int), ii le_, .ref 3, .ref 4, ii (ln : Int), zz gd]) := (k1F.2 9 (by omega) (by omega) (by omega)).trans g1_9
    have k1_k0 : k1[h.length]? = some (cO 4 [ii 6, ii (tqP (T i) : Int), ii 0, .long (Int64.ofInt 0), ii 0, ii 0, ii 0, .null, .null, .null]) := (k1F.2 h.length (by omega) (by omega) (by omega)).trans g1_k0
    have hj1 := pR_mk hK _ 0 _ _ _ (by omega) e1
    have hjj1 := hj1.2.2 (by decide)
    refine me1 (pc' := 40) (L' := [(4, .ref k1op), (3, .ref h.length), (0, .ref 13), (1, oV b), (2, ii ((o0 + 1 : Nat) : Int))]) (S' := []) dm_X7_choice_38 (by cases b <;> rfl) rfl rfl rfl ?_
    refine me1 (pc' := 42) (L' := [(4, .ref k1op), (3, .ref h.length), (0, .ref 13), (1, oV b), (2, ii ((o0 + 1 : Nat) : Int))]) (S' := [.ref k1op]) dm_X7_choice_40 rfl rfl rfl rfl ?_
    refine me2 (pc' := 45) (S' := []) dm_X7_choice_42 rfl rfl rfl ?_
    refine me1 (pc' := 46) (L' := [(4, .ref k1op), (3, .ref h.length), (0, .ref 13), (1, oV b), (2, ii ((o0 + 1 : Nat) : Int))]) (S' := [.ref 13]) dm_X7_choice_45 rfl rfl rfl rfl ?_
    refine me0 (pc' := 48) (S' := [ii 59, .ref 13]) dm_X7_choice_46 rfl rfl rfl rfl ?_
    by_cases hmke1 : isMk T j_e1 59
    · have hlte1 := TOKS_lt hK (i := j_e1) (by have := hmke1.1; omega)
      have hPte1 := hK.2.2.2.2.2.2.1 j_e1 hlte1
      refine x_cv (pc' := 51) (rest := []) dm_X7_choice_48 rfl (g_inv (As := [ii 59]) (S := []) k1_13 rfl rfl rfl (by decide)) rfl rfl rfl (d_skipT (i := j_e1) (by omega) hK k1T k1_13 (by omega) (by omega) hmke1 rfl) ?_
      rintro _ _ ⟨rfl, rfl⟩
      refine me_1t (pc' := 56) dm_X7_choice_51 rfl (by decide) ?_
      refine me1 (pc' := 57) (L' := [(4, .ref k1op), (3, .ref h.length), (0, .ref 13), (1, oV b), (2, ii ((o0 + 1 : Nat) : Int))]) (S' := [.ref h.length]) dm_X7_choice_56 rfl rfl rfl rfl ?_
      refine me1 (pc' := 58) (L' := [(4, .ref k1op), (3, .ref h.length), (0, .ref 13), (1, oV b), (2, ii ((o0 + 1 : Nat) : Int))]) (S' := [.ref 13, .ref h.length]) dm_X7_choice_57 rfl rfl rfl rfl ?_
      refine me1 (pc' := 59) (L' := [(4, .ref k1op), (3, .ref h.length), (0, .ref 13), (1, oV b), (2, ii ((o0 + 1 : Nat) : Int))]) (S' := [oV b, .ref 13, .ref h.length]) dm_X7_choice_58 (by cases b <;> rfl) rfl rfl rfl ?_
      refine me1 (pc' := 60) (L' := [(4, .ref k1op), (3, .ref h.length), (0, .ref 13), (1, oV b), (2, ii ((o0 + 1 : Nat) : Int))]) (S' := [ii ((o0 + 1 : Nat) : Int), oV b, .ref 13, .ref h.length]) dm_X7_choice_59 rfl rfl rfl rfl ?_
      obtain ⟨g2, g2e⟩ : ∃ g2, g2 = ((k1).set 13 (cO 7 [.ref 9, ii ((j_e1 + 1 : Nat) : Int), ii k1wr, ii ls, .long nm, st, k1tl])) := ⟨_, rfl⟩
      have g2_13 : g2[13]? = some (cO 7 [.ref 9, ii ((j_e1 + 1 : Nat) : Int), ii k1wr, ii ls, .long nm, st, k1tl]) := by rw [g2e]; exact (hl_set (hl_lt k1_13))
      have g2_9 : g2[9]? = some (cO 8 [.ref 10, .ref 11, .ref 12, ii ((mk + 1 : Nat) : Int), ii le_, .ref 3, .ref 4, ii (ln : Int), zz gd]) := by rw [g2e]; exact (hl_ne (by decide) k1_9)
      have g2_k0 : g2[h.length]? = some (cO 4 [ii 6, ii (tqP (T i) : Int), ii 0, .long (Int64.ofInt 0), ii 0, ii 0, ii 0, .null, .null, .null]) := by rw [g2e]; exact (hl_ne (by omega) k1_k0)
      have g2T : TT g2 T mk ln := by rw [g2e]; exact (TT_set (by omega) k1T)
      refine pg_cast (h2 := g2) g2e.symm ?_
      have g2l : g2.length = k1.length := by rw [g2e]; simp
      have g2F : rdF k1 g2 h.length := by rw [g2e]; exact rdF_set (Or.inl rfl) (rdF_rf _ _)
      have g2s : mj_sl g2 = mj_sl k1 := by rw [g2e]; exact sl_rd k1_13
      rcases e2 : pR T f 0 (o0 + 1) (j_e1 + 1) with p_e2 | j_e2
      · refine x_cv (pc' := 63) (rest := [.ref h.length]) dm_X7_choice_60 rfl (g_inv (As := [oV b, ii ((o0 + 1 : Nat) : Int)]) (S := [.ref h.length]) g2_13 rfl rfl rfl (by decide)) rfl rfl rfl (hE _ g2 A (j_e1 + 1) (o0 + 1) b k1wr k1tl (by omega) (by omega) (okA_len hA (by omega)) g2T g2_13 (by omega) (by omega) (by omega)) ?_
        rintro x2 k2 hx2
        obtain ⟨k2at, k2tl, rfl, k2_13, k2F, k2L, k2S⟩ := RX_e e2 hx2
        have k2T : TT k2 T mk ln := rdF_TT k2F (by decide) (by omega) g2T
        have k2l := k2F.1
        have k2_9 : k2[9]? = some (cO 8 [.ref 10, .ref 11, .ref 12, ii ((mk + 1 : Nat) : Int), ii le_, .ref 3, .ref 4, ii (ln : Int), zz gd]) := (k2F.2 9 (by omega) (by omega) (by omega)).trans g2_9
        have k2_k0 : k2[h.length]? = some (cO 4 [ii 6, ii (tqP (T i) : Int), ii 0, .long (Int64.ofInt 0), ii 0, ii 0, ii 0, .null, .null, .null]) := (k2F.2 h.length (by omega) (by omega) (by omega)).trans g2_k0
        refine me3 (pc' := 66) (S' := []) (h1 := (k2).set h.length (cO 4 [ii 6, ii (tqP (T i) : Int), ii 0, .long (Int64.ofInt 0), ii 0, ii 0, ii 0, .null, .null, .null])) dm_X7_choice_63 (g_put (fs' := [ii 6, ii (tqP (T i) : Int), ii 0, .long (Int64.ofInt 0), ii 0, ii 0, ii 0, .null, .null, .null]) k2_k0 rfl rfl rfl (by simp) rfl (by decide) (fun z => by cases z) (by omega)) rfl rfl rfl ?_
        refine me1 (pc' := 67) (L' := [(4, .ref k1op), (3, .ref h.length), (0, .ref 13), (1, oV b), (2, ii ((o0 + 1 : Nat) : Int))]) (S' := [.ref h.length]) dm_X7_choice_66 rfl rfl rfl rfl ?_
        refine me3 (pc' := 70) (S' := [.null]) dm_X7_choice_67 (g_get (v := .null) (hl_set (hl_lt k2_k0)) rfl rfl (by omega)) rfl rfl rfl ?_
        refine me2 (pc' := 82) (S' := []) dm_X7_choice_70 rfl rfl rfl ?_
        refine me0 (pc' := 83) (S' := [.null]) dm_X7_choice_82 rfl rfl rfl rfl ?_
        refine y_ret (r := some (.null)) dm_X7_choice_83 rfl rfl rfl ?_
        have hc : ceM 0 = 1 := rfl
        have hq1 := hPl j_e1
        have hr1 := hPl (j_e1 + 1)
        have hs0 := hPl (i + 1)
        exact ⟨_, rfl, RX_ie (pR3_c3 hm91 ho e1 hmke1 e2) (hl_ne (by omega) k2_13) (rdF_set (Or.inr (Or.inr (Nat.le_refl _))) (rdF_tr (rdF_nw (rdF_tr g1F k1F) g2F (by omega)) k2F)) (by show _ ≤ _ + 0; (try simp only [List.length_set]); omega) (by show _ ≤ _ + 10 * 0; rw [sl_set (e' := cO 4 [ii 6, ii (tqP (T i) : Int), ii 0, .long (Int64.ofInt 0), ii 0, ii 0, ii 0, .null, .null, .null]) k2_k0 rfl]; omega)⟩
      · refine x_cv (pc' := 63) (rest := [.ref h.length]) dm_X7_choice_60 rfl (g_inv (As := [oV b, ii ((o0 + 1 : Nat) : Int)]) (S := [.ref h.length]) g2_13 rfl rfl rfl (by decide)) rfl rfl rfl (hE _ g2 A (j_e1 + 1) (o0 + 1) b k1wr k1tl (by omega) (by omega) (okA_len hA (by omega)) g2T g2_13 (by omega) (by omega) (by omega)) ?_
        rintro x2 k2 hx2
        obtain ⟨k2op, k2wr, k2tl, rfl, k2_13, k2F, k2O, k2C, k2L, k2S⟩ := RX_v e2 hx2
        have k2T : TT k2 T mk ln := rdF_TT k2F (by decide) (by omega) g2T
        have k2l := k2F.1
        have k2_9 : k2[9]? = some (cO 8 [.ref 10, .ref 11, .ref 12, ii ((mk + 1 : Nat) : Int), ii le_, .ref 3, .ref 4, ii (ln : Int), zz gd]) := (k2F.2 9 (by omega) (by omega) (by omega)).trans g2_9
        have k2_k0 : k2[h.length]? = some (cO 4 [ii 6, ii (tqP (T i) : Int), ii 0, .long (Int64.ofInt 0), ii 0, ii 0, ii 0, .null, .null, .null]) := (k2F.2 h.length (by omega) (by omega) (by omega)).trans g2_k0
        have hj2 := pR_mk hK _ 0 _ _ _ (by omega) e2
        have hjj2 := hj2.2.2 (by decide)
        refine me3 (pc' := 66) (S' := []) (h1 := (k2).set h.length (cO 4 [ii 6, ii (tqP (T i) : Int), ii 0, .long (Int64.ofInt 0), ii 0, ii 0, ii 0, .null, .ref k2op, .null])) dm_X7_choice_63 (g_put (fs' := [ii 6, ii (tqP (T i) : Int), ii 0, .long (Int64.ofInt 0), ii 0, ii 0, ii 0, .null, .ref k2op, .null]) k2_k0 rfl rfl rfl (by simp) rfl (by decide) (fun z => by cases z) (by omega)) rfl rfl rfl ?_
        refine me1 (pc' := 67) (L' := [(4, .ref k1op), (3, .ref h.length), (0, .ref 13), (1, oV b), (2, ii ((o0 + 1 : Nat) : Int))]) (S' := [.ref h.length]) dm_X7_choice_66 rfl rfl rfl rfl ?_
        refine me3 (pc' := 70) (S' := [.ref k2op]) dm_X7_choice_67 (g_get (v := .ref k2op) (hl_set (hl_lt k2_k0)) rfl rfl (by omega)) rfl rfl rfl ?_
        refine me2 (pc' := 73) (S' := []) dm_X7_choice_70 rfl rfl rfl ?_
        refine me1 (pc' := 74) (L' := [(4, .ref k1op), (3, .ref h.length), (0, .ref 13), (1, oV b), (2, ii ((o0 + 1 : Nat) : Int))]) (S' := [.ref 13]) dm_X7_choice_73 rfl rfl rfl rfl ?_
        refine me0 (pc' := 76) (S' := [ii 59, .ref 13]) dm_X7_choice_74 rfl rfl rfl rfl ?_
        by_cases hmke2 : isMk T j_e2 59
        · have hlte2 := TOKS_lt hK (i := j_e2) (by have := hmke2.1; omega)
          have hPte2 := hK.2.2.2.2.2.2.1 j_e2 hlte2
          refine x_cv (pc' := 79) (rest := []) dm_X7_choice_76 rfl (g_inv (As := [ii 59]) (S := []) (hl_ne (by omega) k2_13) rfl rfl rfl (by decide)) rfl rfl rfl (d_skipT (i := j_e2) (by omega) hK (TT_set (by omega) k2T) (hl_ne (by omega) k2_13) (by omega) (by omega) hmke2 rfl) ?_
          rintro _ _ ⟨rfl, rfl⟩
          refine me_1t (pc' := 84) dm_X7_choice_79 rfl (by decide) ?_
          refine me1 (pc' := 85) (L' := [(4, .ref k1op), (3, .ref h.length), (0, .ref 13), (1, oV b), (2, ii ((o0 + 1 : Nat) : Int))]) (S' := [.ref h.length]) dm_X7_choice_84 rfl rfl rfl rfl ?_
          refine me1 (pc' := 86) (L' := [(4, .ref k1op), (3, .ref h.length), (0, .ref 13), (1, oV b), (2, ii ((o0 + 1 : Nat) : Int))]) (S' := [.ref 13, .ref h.length]) dm_X7_choice_85 rfl rfl rfl rfl ?_
          refine me1 (pc' := 87) (L' := [(4, .ref k1op), (3, .ref h.length), (0, .ref 13), (1, oV b), (2, ii ((o0 + 1 : Nat) : Int))]) (S' := [oV b, .ref 13, .ref h.length]) dm_X7_choice_86 (by cases b <;> rfl) rfl rfl rfl ?_
          refine me1 (pc' := 88) (L' := [(4, .ref k1op), (3, .ref h.length), (0, .ref 13), (1, oV b), (2, ii ((o0 + 1 : Nat) : Int))]) (S' := [ii ((o0 + 1 : Nat) : Int), oV b, .ref 13, .ref h.length]) dm_X7_choice_87 rfl rfl rfl rfl ?_
          obtain ⟨g3, g3e⟩ : ∃ g3, g3 = (((k2).set h.length (cO 4 [ii 6, ii (tqP (T i) : Int), ii 0, .long (Int64.ofInt 0), ii 0, ii 0, ii 0, .null, .ref k2op, .null])).set 13 (cO 7 [.ref 9, ii ((j_e2 + 1 : Nat) : Int), ii k2wr, ii ls, .long nm, st, k2tl])) := ⟨_, rfl⟩
          have g3_13 : g3[13]? = some (cO 7 [.ref 9, ii ((j_e2 + 1 : Nat) : Int), ii k2wr, ii ls, .long nm, st, k2tl]) := by rw [g3e]; exact (hl_set (hl_lt (hl_ne (by omega) k2_13)))
          have g3_9 : g3[9]? = some (cO 8 [.ref 10, .ref 11, .ref 12, ii ((mk + 1 : Nat) : Int), ii le_, .ref 3, .ref 4, ii (ln : Int), zz gd]) := by rw [g3e]; exact (hl_ne (by decide) (hl_ne (by omega) k2_9))
          have g3_k0 : g3[h.length]? = some (cO 4 [ii 6, ii (tqP (T i) : Int), ii 0, .long (Int64.ofInt 0), ii 0, ii 0, ii 0, .null, .ref k2op, .null]) := by rw [g3e]; exact (hl_ne (by omega) (hl_set (hl_lt k2_k0)))
          have g3T : TT g3 T mk ln := by rw [g3e]; exact (TT_set (by omega) (TT_set (by omega) k2T))
          refine pg_cast (h2 := g3) g3e.symm ?_
          have g3l : g3.length = k2.length := by rw [g3e]; simp
          have g3F : rdF k2 g3 h.length := by rw [g3e]; exact rdF_set (Or.inl rfl) (rdF_set (Or.inr (Or.inl rfl)) (rdF_rf _ _))
          have g3s : mj_sl g3 = mj_sl k2 := by rw [g3e, sl_rd (hl_ne (by omega) k2_13)]; exact sl_set k2_k0 rfl
          rcases e3 : pR T f 0 (o0 + 1) (j_e2 + 1) with p_e3 | j_e3
          · refine x_cv (pc' := 91) (rest := [.ref h.length]) dm_X7_choice_88 rfl (g_inv (As := [oV b, ii ((o0 + 1 : Nat) : Int)]) (S := [.ref h.length]) g3_13 rfl rfl rfl (by decide)) rfl rfl rfl (hE _ g3 A (j_e2 + 1) (o0 + 1) b k2wr k2tl (by omega) (by omega) (okA_len hA (by omega)) g3T g3_13 (by omega) (by omega) (by omega)) ?_
            rintro x3 k3 hx3
            obtain ⟨k3at, k3tl, rfl, k3_13, k3F, k3L, k3S⟩ := RX_e e3 hx3
            have k3T : TT k3 T mk ln := rdF_TT k3F (by decide) (by omega) g3T
            have k3l := k3F.1
            have k3_9 : k3[9]? = some (cO 8 [.ref 10, .ref 11, .ref 12, ii ((mk + 1 : Nat) : Int), ii le_, .ref 3, .ref 4, ii (ln : Int), zz gd]) := (k3F.2 9 (by omega) (by omega) (by omega)).trans g3_9
            have k3_k0 : k3[h.length]? = some (cO 4 [ii 6, ii (tqP (T i) : Int), ii 0, .long (Int64.ofInt 0), ii 0, ii 0, ii 0, .null, .ref k2op, .null]) := (k3F.2 h.length (by omega) (by omega) (by omega)).trans g3_k0
            refine me3 (pc' := 94) (S' := []) (h1 := (k3).set h.length (cO 4 [ii 6, ii (tqP (T i) : Int), ii 0, .long (Int64.ofInt 0), ii 0, ii 0, ii 0, .null, .ref k2op, .null])) dm_X7_choice_91 (g_put (fs' := [ii 6, ii (tqP (T i) : Int), ii 0, .long (Int64.ofInt 0), ii 0, ii 0, ii 0, .null, .ref k2op, .null]) k3_k0 rfl rfl rfl (by simp) rfl (by decide) (fun z => by cases z) (by omega)) rfl rfl rfl ?_
            refine me1 (pc' := 95) (L' := [(4, .ref k1op), (3, .ref h.length), (0, .ref 13), (1, oV b), (2, ii ((o0 + 1 : Nat) : Int))]) (S' := [.ref h.length]) dm_X7_choice_94 rfl rfl rfl rfl ?_
            refine me3 (pc' := 98) (S' := [.null]) dm_X7_choice_95 (g_get (v := .null) (hl_set (hl_lt k3_k0)) rfl rfl (by omega)) rfl rfl rfl ?_
            refine me2 (pc' := 115) (S' := []) dm_X7_choice_98 rfl rfl rfl ?_
            refine me0 (pc' := 116) (S' := [.null]) dm_X7_choice_115 rfl rfl rfl rfl ?_
            refine y_ret (r := some (.null)) dm_X7_choice_116 rfl rfl rfl ?_
            have hc : ceM 0 = 1 := rfl
            have hq1 := hPl j_e1
            have hq2 := hPl j_e2
            have hr1 := hPl (j_e1 + 1)
            have hr2 := hPl (j_e2 + 1)
            have hs0 := hPl (i + 1)
            exact ⟨_, rfl, RX_ie (pR3_c5 hm91 ho e1 hmke1 e2 hmke2 e3) (hl_ne (by omega) k3_13) (rdF_set (Or.inr (Or.inr (Nat.le_refl _))) (rdF_tr (rdF_nw (rdF_tr (rdF_nw (rdF_tr g1F k1F) g2F (by omega)) k2F) g3F (by omega)) k3F)) (by show _ ≤ _ + 0; (try simp only [List.length_set]); omega) (by show _ ≤ _ + 10 * 0; rw [sl_set (e' := cO 4 [ii 6, ii (tqP (T i) : Int), ii 0, .long (Int64.ofInt 0), ii 0, ii 0, ii 0, .null, .ref k2op, .null]) k3_k0 rfl]; omega)⟩
          · refine x_cv (pc' := 91) (rest := [.ref h.length]) dm_X7_choice_88 rfl (g_inv (As := [oV b, ii ((o0 + 1 : Nat) : Int)]) (S := [.ref h.length]) g3_13 rfl rfl rfl (by decide)) rfl rfl rfl (hE _ g3 A (j_e2 + 1) (o0 + 1) b k2wr k2tl (by omega) (by omega) (okA_len hA (by omega)) g3T g3_13 (by omega) (by omega) (by omega)) ?_
            rintro x3 k3 hx3
            obtain ⟨k3op, k3wr, k3tl, rfl, k3_13, k3F, k3O, k3C, k3L, k3S⟩ := RX_v e3 hx3
            have k3T : TT k3 T mk ln := rdF_TT k3F (by decide) (by omega) g3T
            have k3l := k3F.1
            have k3_9 : k3[9]? = some (cO 8 [.ref 10, .ref 11, .ref 12, ii ((mk + 1 : Nat) : Int), ii le_, .ref 3, .ref 4, ii (ln : Int), zz gd]) := (k3F.2 9 (by omega) (by omega) (by omega)).trans g3_9
            have k3_k0 : k3[h.length]? = some (cO 4 [ii 6, ii (tqP (T i) : Int), ii 0, .long (Int64.ofInt 0), ii 0, ii 0, ii 0, .null, .ref k2op, .null]) := (k3F.2 h.length (by omega) (by omega) (by omega)).trans g3_k0
            have hj3 := pR_mk hK _ 0 _ _ _ (by omega) e3
            have hjj3 := hj3.2.2 (by decide)
            refine me3 (pc' := 94) (S' := []) (h1 := (k3).set h.length (cO 4 [ii 6, ii (tqP (T i) : Int), ii 0, .long (Int64.ofInt 0), ii 0, ii 0, ii 0, .null, .ref k2op, .ref k3op])) dm_X7_choice_91 (g_put (fs' := [ii 6, ii (tqP (T i) : Int), ii 0, .long (Int64.ofInt 0), ii 0, ii 0, ii 0, .null, .ref k2op, .ref k3op]) k3_k0 rfl rfl rfl (by simp) rfl (by decide) (fun z => by cases z) (by omega)) rfl rfl rfl ?_
            refine me1 (pc' := 95) (L' := [(4, .ref k1op), (3, .ref h.length), (0, .ref 13), (1, oV b), (2, ii ((o0 + 1 : Nat) : Int))]) (S' := [.ref h.length]) dm_X7_choice_94 rfl rfl rfl rfl ?_
            refine me3 (pc' := 98) (S' := [.ref k3op]) dm_X7_choice_95 (g_get (v := .ref k3op) (hl_set (hl_lt k3_k0)) rfl rfl (by omega)) rfl rfl rfl ?_
            refine me2 (pc' := 101) (S' := []) dm_X7_choice_98 rfl rfl rfl ?_
            refine me1 (pc' := 102) (L' := [(4, .ref k1op), (3, .ref h.length), (0, .ref 13), (1, oV b), (2, ii ((o0 + 1 : Nat) : Int))]) (S' := [.ref 13]) dm_X7_choice_101 rfl rfl rfl rfl ?_
            refine me0 (pc' := 104) (S' := [ii 93, .ref 13]) dm_X7_choice_102 rfl rfl rfl rfl ?_
            by_cases hmke3 : isMk T j_e3 93
            · have hlte3 := TOKS_lt hK (i := j_e3) (by have := hmke3.1; omega)
              have hPte3 := hK.2.2.2.2.2.2.1 j_e3 hlte3
              refine x_cv (pc' := 107) (rest := []) dm_X7_choice_104 rfl (g_inv (As := [ii 93]) (S := []) (hl_ne (by omega) k3_13) rfl rfl rfl (by decide)) rfl rfl rfl (d_skipT (i := j_e3) (by omega) hK (TT_set (by omega) k3T) (hl_ne (by omega) k3_13) (by omega) (by omega) hmke3 rfl) ?_
              rintro _ _ ⟨rfl, rfl⟩
              refine me_1f (pc' := 110) dm_X7_choice_107 rfl (by decide) rfl ?_
              refine me1 (pc' := 112) (L' := [(4, .ref k1op), (3, .ref h.length), (0, .ref 13), (1, oV b), (2, ii ((o0 + 1 : Nat) : Int))]) (S' := [.ref k1op]) dm_X7_choice_110 rfl rfl rfl rfl ?_
              refine me2 (pc' := 116) (S' := [.ref k1op]) dm_X7_choice_112 rfl rfl rfl ?_
              refine y_ret (r := some (.ref k1op)) dm_X7_choice_116 rfl rfl rfl ?_
              have hc : ceM 0 = 1 := rfl
              have zf3 : rdF k3 (((k3).set h.length (cO 4 [ii 6, ii (tqP (T i) : Int), ii 0, .long (Int64.ofInt 0), ii 0, ii 0, ii 0, .null, .ref k2op, .ref k3op])).set 13 (cO 7 [.ref 9, ii ((j_e3 + 1 : Nat) : Int), ii k3wr, ii ls, .long nm, st, k3tl])) h.length := rdF_set (Or.inl rfl) (rdF_set (Or.inr (Or.inl rfl)) (rdF_rf _ _))
              have zf2 : rdF k2 (((k3).set h.length (cO 4 [ii 6, ii (tqP (T i) : Int), ii 0, .long (Int64.ofInt 0), ii 0, ii 0, ii 0, .null, .ref k2op, .ref k3op])).set 13 (cO 7 [.ref 9, ii ((j_e3 + 1 : Nat) : Int), ii k3wr, ii ls, .long nm, st, k3tl])) h.length := rdF_tr (rdF_tr g3F (rdF_nw (p := h.length) (rdF_rf _ _) k3F (by omega))) zf3
              have zf1 : rdF k1 (((k3).set h.length (cO 4 [ii 6, ii (tqP (T i) : Int), ii 0, .long (Int64.ofInt 0), ii 0, ii 0, ii 0, .null, .ref k2op, .ref k3op])).set 13 (cO 7 [.ref 9, ii ((j_e3 + 1 : Nat) : Int), ii k3wr, ii ls, .long nm, st, k3tl])) h.length := rdF_tr (rdF_tr g2F (rdF_nw (p := h.length) (rdF_rf _ _) k2F (by omega))) zf2
              refine ⟨_, rfl, RX_iv (j := j_e3 + 1) ((pR3_c6 hm91 ho e1 hmke1 e2 hmke2 e3).trans (if_pos hmke3)) (hl_set (hl_lt (hl_ne (by omega) k3_13))) (rdF_set (Or.inl rfl) (rdF_set (Or.inr (Or.inr (Nat.le_refl _))) (rdF_tr (rdF_nw (rdF_tr (rdF_nw (rdF_tr g1F k1F) g2F (by omega)) k2F) g3F (by omega)) k3F))) ⟨by omega, by omega, by simp only [List.length_set]; omega⟩ ((cR_c hm91 e1 e2).mpr ⟨h.length, k2op, k3op, ⟨by omega, Or.inr ⟨Nat.le_refl _, by simp only [List.length_set]; omega⟩, (hl_ne (by omega) (hl_set (hl_lt k3_k0)))⟩, cR_k (kp_c hA hl (by omega) rfl zf1) _ _ _ _ _ _ _ _ k1C, cR_k (kp_c hA hl (by omega) rfl zf2) _ _ _ _ _ _ _ _ k2C, cR_k (kp_c hA hl (by omega) rfl zf3) _ _ _ _ _ _ _ _ k3C⟩) ?_ ?_⟩
              · show _ + (1 - 0) ≤ _
                simp only [List.length_set]; omega
              · show _ + 10 * (1 - 0) ≤ _
                rw [sl_set (e' := cO 7 [.ref 9, ii ((j_e3 + 1 : Nat) : Int), ii k3wr, ii ls, .long nm, st, k3tl]) (hl_ne (by omega) k3_13) rfl, sl_set (e' := cO 4 [ii 6, ii (tqP (T i) : Int), ii 0, .long (Int64.ofInt 0), ii 0, ii 0, ii 0, .null, .ref k2op, .ref k3op]) k3_k0 rfl]; omega
            · refine x_cv (pc' := 107) (rest := []) dm_X7_choice_104 rfl (g_inv (As := [ii 93]) (S := []) (hl_ne (by omega) k3_13) rfl rfl rfl (by decide)) rfl rfl rfl (d_skipF (i := j_e3) (by omega) hK (TT_set (by omega) k3T) (hl_ne (by omega) k3_13) (by omega) (by omega) hmke3 rfl) ?_
              rintro _ _ ⟨rfl, rfl⟩
              refine me_1t (pc' := 115) dm_X7_choice_107 rfl (by decide) ?_
              refine me0 (pc' := 116) (S' := [.null]) dm_X7_choice_115 rfl rfl rfl rfl ?_
              refine y_ret (r := some (.null)) dm_X7_choice_116 rfl rfl rfl ?_
              have hc : ceM 0 = 1 := rfl
              have hq1 := hPl j_e1
              have hq2 := hPl j_e2
              have hq3 := hPl j_e3
              have hr1 := hPl (j_e1 + 1)
              have hr2 := hPl (j_e2 + 1)
              have hr3 := hPl (j_e3 + 1)
              have hs0 := hPl (i + 1)
              exact ⟨_, rfl, RX_ie ((pR3_c6 hm91 ho e1 hmke1 e2 hmke2 e3).trans (if_neg hmke3)) (hl_set (hl_lt (hl_ne (by omega) k3_13))) (rdF_set (Or.inl rfl) (rdF_set (Or.inr (Or.inr (Nat.le_refl _))) (rdF_tr (rdF_nw (rdF_tr (rdF_nw (rdF_tr g1F k1F) g2F (by omega)) k2F) g3F (by omega)) k3F))) (by show _ ≤ _ + 0; (try simp only [List.length_set]); omega) (by show _ ≤ _ + 10 * 0; rw [sl_set (e' := cO 7 [.ref 9, ii ((j_e3 : Nat) : Int), ii (tqP (T j_e3) : Int), ii ls, .long nm, st, k3tl]) (hl_ne (by omega) k3_13) rfl, sl_set (e' := cO 4 [ii 6, ii (tqP (T i) : Int), ii 0, .long (Int64.ofInt 0), ii 0, ii 0, ii 0, .null, .ref k2op, .ref k3op]) k3_k0 rfl]; omega)⟩
        · refine x_cv (pc' := 79) (rest := []) dm_X7_choice_76 rfl (g_inv (As := [ii 59]) (S := []) (hl_ne (by omega) k2_13) rfl rfl rfl (by decide)) rfl rfl rfl (d_skipF (i := j_e2) (by omega) hK (TT_set (by omega) k2T) (hl_ne (by omega) k2_13) (by omega) (by omega) hmke2 rfl) ?_
          rintro _ _ ⟨rfl, rfl⟩
          refine me_1f (pc' := 82) dm_X7_choice_79 rfl (by decide) rfl ?_
          refine me0 (pc' := 83) (S' := [.null]) dm_X7_choice_82 rfl rfl rfl rfl ?_
          refine y_ret (r := some (.null)) dm_X7_choice_83 rfl rfl rfl ?_
          have hc : ceM 0 = 1 := rfl
          have hq1 := hPl j_e1
          have hq2 := hPl j_e2
          have hr1 := hPl (j_e1 + 1)
          have hr2 := hPl (j_e2 + 1)
          have hs0 := hPl (i + 1)
          exact ⟨_, rfl, RX_ie (pR3_c4 hm91 ho e1 hmke1 e2 hmke2) (hl_set (hl_lt (hl_ne (by omega) k2_13))) (rdF_set (Or.inl rfl) (rdF_set (Or.inr (Or.inr (Nat.le_refl _))) (rdF_tr (rdF_nw (rdF_tr g1F k1F) g2F (by omega)) k2F))) (by show _ ≤ _ + 0; (try simp only [List.length_set]); omega) (by show _ ≤ _ + 10 * 0; rw [sl_set (e' := cO 7 [.ref 9, ii ((j_e2 : Nat) : Int), ii (tqP (T j_e2) : Int), ii ls, .long nm, st, k2tl]) (hl_ne (by omega) k2_13) rfl, sl_set (e' := cO 4 [ii 6, ii (tqP (T i) : Int), ii 0, .long (Int64.ofInt 0), ii 0, ii 0, ii 0, .null, .ref k2op, .null]) k2_k0 rfl]; omega)⟩
    · refine x_cv (pc' := 51) (rest := []) dm_X7_choice_48 rfl (g_inv (As := [ii 59]) (S := []) k1_13 rfl rfl rfl (by decide)) rfl rfl rfl (d_skipF (i := j_e1) (by omega) hK k1T k1_13 (by omega) (by omega) hmke1 rfl) ?_
      rintro _ _ ⟨rfl, rfl⟩
      refine me_1f (pc' := 54) dm_X7_choice_51 rfl (by decide) rfl ?_
      refine me0 (pc' := 55) (S' := [.null]) dm_X7_choice_54 rfl rfl rfl rfl ?_
      refine y_ret (r := some (.null)) dm_X7_choice_55 rfl rfl rfl ?_
      have hc : ceM 0 = 1 := rfl
      have hq1 := hPl j_e1
      have hr1 := hPl (j_e1 + 1)
      have hs0 := hPl (i + 1)
      exact ⟨_, rfl, RX_ie (pR3_c2 hm91 ho e1 hmke1) (hl_set (hl_lt k1_13)) (rdF_set (Or.inl rfl) (rdF_tr g1F k1F)) (by show _ ≤ _ + 0; (try simp only [List.length_set]); omega) (by show _ ≤ _ + 10 * 0; rw [sl_set (e' := cO 7 [.ref 9, ii ((j_e1 : Nat) : Int), ii (tqP (T j_e1) : Int), ii ls, .long nm, st, k1tl]) k1_13 rfl]; omega)⟩
set_option maxRecDepth 20000 in
theorem pm_X7_base : mj_mmof pg_ms 45 = some ((⟨"ArrayCalculator$Reader", "base", "(LArrayCalculator$Op;I)LArrayCalculator$Op;"⟩, prog_9_method_18_code, 6, (Option.some (Jvm.ClassFile.FieldType.object "ArrayCalculator$Op"))), 7, false, mj_dec prog_9_method_18_code) := rfl
theorem dm_X7_base_0 : mj_dec prog_9_method_18_code 0 = some (.aload_n 0, 1) := by decide +kernel
theorem dm_X7_base_1 : mj_dec prog_9_method_18_code 1 = some (.getfield 9, 3) := by decide +kernel
theorem dm_X7_base_4 : mj_dec prog_9_method_18_code 4 = some (.aload_n 0, 1) := by decide +kernel
theorem dm_X7_base_5 : mj_dec prog_9_method_18_code 5 = some (.getfield 38, 3) := by decide +kernel
theorem dm_X7_base_8 : mj_dec prog_9_method_18_code 8 = some (.invokevirtual 81, 3) := by decide +kernel
theorem dm_X7_base_11 : mj_dec prog_9_method_18_code 11 = some (.istore_n 3, 1) := by decide +kernel
theorem dm_X7_base_12 : mj_dec prog_9_method_18_code 12 = some (.aload_n 0, 1) := by decide +kernel
theorem dm_X7_base_13 : mj_dec prog_9_method_18_code 13 = some (.getfield 9, 3) := by decide +kernel
theorem dm_X7_base_16 : mj_dec prog_9_method_18_code 16 = some (.aload_n 0, 1) := by decide +kernel
theorem dm_X7_base_17 : mj_dec prog_9_method_18_code 17 = some (.getfield 38, 3) := by decide +kernel
theorem dm_X7_base_20 : mj_dec prog_9_method_18_code 20 = some (.invokevirtual 59, 3) := by decide +kernel
theorem dm_X7_base_23 : mj_dec prog_9_method_18_code 23 = some (.istore 4, 2) := by decide +kernel
theorem dm_X7_base_25 : mj_dec prog_9_method_18_code 25 = some (.iload 4, 2) := by decide +kernel
theorem dm_X7_base_27 : mj_dec prog_9_method_18_code 27 = some (.iconst 1, 1) := by decide +kernel
theorem dm_X7_base_28 : mj_dec prog_9_method_18_code 28 = some (.if_icmp .ne 9, 3) := by decide +kernel
theorem dm_X7_base_31 : mj_dec prog_9_method_18_code 31 = some (.aload_n 0, 1) := by decide +kernel
theorem dm_X7_base_32 : mj_dec prog_9_method_18_code 32 = some (.aload_n 1, 1) := by decide +kernel
theorem dm_X7_base_33 : mj_dec prog_9_method_18_code 33 = some (.invokevirtual 133, 3) := by decide +kernel
theorem dm_X7_base_36 : mj_dec prog_9_method_18_code 36 = some (.areturn, 1) := by decide +kernel
theorem dm_X7_base_37 : mj_dec prog_9_method_18_code 37 = some (.iload 4, 2) := by decide +kernel
theorem dm_X7_base_39 : mj_dec prog_9_method_18_code 39 = some (.iconst 2, 1) := by decide +kernel
theorem dm_X7_base_40 : mj_dec prog_9_method_18_code 40 = some (.if_icmp .ne 44, 3) := by decide +kernel
theorem dm_X7_base_84 : mj_dec prog_9_method_18_code 84 = some (.iload 4, 2) := by decide +kernel
theorem dm_X7_base_86 : mj_dec prog_9_method_18_code 86 = some (.iconst 3, 1) := by decide +kernel
theorem dm_X7_base_87 : mj_dec prog_9_method_18_code 87 = some (.if_icmp .ne 44, 3) := by decide +kernel
theorem dm_X7_base_90 : mj_dec prog_9_method_18_code 90 = some (.new 15, 3) := by decide +kernel
theorem dm_X7_base_93 : mj_dec prog_9_method_18_code 93 = some (.dup, 1) := by decide +kernel
theorem dm_X7_base_94 : mj_dec prog_9_method_18_code 94 = some (.iconst 2, 1) := by decide +kernel
theorem dm_X7_base_95 : mj_dec prog_9_method_18_code 95 = some (.iload_n 3, 1) := by decide +kernel
theorem dm_X7_base_96 : mj_dec prog_9_method_18_code 96 = some (.aload_n 1, 1) := by decide +kernel
theorem dm_X7_base_97 : mj_dec prog_9_method_18_code 97 = some (.invokespecial 17, 3) := by decide +kernel
theorem dm_X7_base_100 : mj_dec prog_9_method_18_code 100 = some (.astore 5, 2) := by decide +kernel
theorem dm_X7_base_102 : mj_dec prog_9_method_18_code 102 = some (.aload 5, 2) := by decide +kernel
theorem dm_X7_base_104 : mj_dec prog_9_method_18_code 104 = some (.aload_n 0, 1) := by decide +kernel
theorem dm_X7_base_105 : mj_dec prog_9_method_18_code 105 = some (.getfield 9, 3) := by decide +kernel
theorem dm_X7_base_108 : mj_dec prog_9_method_18_code 108 = some (.aload_n 0, 1) := by decide +kernel
theorem dm_X7_base_109 : mj_dec prog_9_method_18_code 109 = some (.getfield 38, 3) := by decide +kernel
theorem dm_X7_base_112 : mj_dec prog_9_method_18_code 112 = some (.invokevirtual 41, 3) := by decide +kernel
theorem dm_X7_base_115 : mj_dec prog_9_method_18_code 115 = some (.putfield 91, 3) := by decide +kernel
theorem dm_X7_base_118 : mj_dec prog_9_method_18_code 118 = some (.aload_n 0, 1) := by decide +kernel
theorem dm_X7_base_119 : mj_dec prog_9_method_18_code 119 = some (.dup, 1) := by decide +kernel
theorem dm_X7_base_120 : mj_dec prog_9_method_18_code 120 = some (.getfield 38, 3) := by decide +kernel
theorem dm_X7_base_123 : mj_dec prog_9_method_18_code 123 = some (.iconst 1, 1) := by decide +kernel
theorem dm_X7_base_124 : mj_dec prog_9_method_18_code 124 = some (.iadd, 1) := by decide +kernel
theorem dm_X7_base_125 : mj_dec prog_9_method_18_code 125 = some (.putfield 38, 3) := by decide +kernel
theorem dm_X7_base_128 : mj_dec prog_9_method_18_code 128 = some (.aload 5, 2) := by decide +kernel
theorem dm_X7_base_130 : mj_dec prog_9_method_18_code 130 = some (.areturn, 1) := by decide +kernel
theorem dm_X7_base_131 : mj_dec prog_9_method_18_code 131 = some (.iload_n 2, 1) := by decide +kernel
theorem dm_X7_base_132 : mj_dec prog_9_method_18_code 132 = some (.bipush 12, 2) := by decide +kernel
theorem dm_X7_base_134 : mj_dec prog_9_method_18_code 134 = some (.if_icmp .ge 28, 3) := by decide +kernel
theorem dm_X7_base_137 : mj_dec prog_9_method_18_code 137 = some (.aload_n 0, 1) := by decide +kernel
theorem dm_X7_base_138 : mj_dec prog_9_method_18_code 138 = some (.getfield 9, 3) := by decide +kernel
theorem dm_X7_base_141 : mj_dec prog_9_method_18_code 141 = some (.aload_n 0, 1) := by decide +kernel
theorem dm_X7_base_142 : mj_dec prog_9_method_18_code 142 = some (.getfield 38, 3) := by decide +kernel
theorem dm_X7_base_145 : mj_dec prog_9_method_18_code 145 = some (.bipush 40, 2) := by decide +kernel
theorem dm_X7_base_147 : mj_dec prog_9_method_18_code 147 = some (.invokevirtual 84, 3) := by decide +kernel
theorem dm_X7_base_150 : mj_dec prog_9_method_18_code 150 = some (.ifCond .eq 12, 3) := by decide +kernel
theorem dm_X7_base_153 : mj_dec prog_9_method_18_code 153 = some (.aload_n 0, 1) := by decide +kernel
theorem dm_X7_base_154 : mj_dec prog_9_method_18_code 154 = some (.aload_n 1, 1) := by decide +kernel
theorem dm_X7_base_155 : mj_dec prog_9_method_18_code 155 = some (.iload_n 2, 1) := by decide +kernel
theorem dm_X7_base_156 : mj_dec prog_9_method_18_code 156 = some (.iconst 1, 1) := by decide +kernel
theorem dm_X7_base_157 : mj_dec prog_9_method_18_code 157 = some (.iadd, 1) := by decide +kernel
theorem dm_X7_base_158 : mj_dec prog_9_method_18_code 158 = some (.invokevirtual 145, 3) := by decide +kernel
theorem dm_X7_base_161 : mj_dec prog_9_method_18_code 161 = some (.areturn, 1) := by decide +kernel
theorem dm_X7_base_162 : mj_dec prog_9_method_18_code 162 = some (.iload_n 2, 1) := by decide +kernel
theorem dm_X7_base_163 : mj_dec prog_9_method_18_code 163 = some (.bipush 12, 2) := by decide +kernel
theorem dm_X7_base_165 : mj_dec prog_9_method_18_code 165 = some (.if_icmp .ge 28, 3) := by decide +kernel
theorem dm_X7_base_168 : mj_dec prog_9_method_18_code 168 = some (.aload_n 0, 1) := by decide +kernel
theorem dm_X7_base_169 : mj_dec prog_9_method_18_code 169 = some (.getfield 9, 3) := by decide +kernel
theorem dm_X7_base_172 : mj_dec prog_9_method_18_code 172 = some (.aload_n 0, 1) := by decide +kernel
theorem dm_X7_base_173 : mj_dec prog_9_method_18_code 173 = some (.getfield 38, 3) := by decide +kernel
theorem dm_X7_base_176 : mj_dec prog_9_method_18_code 176 = some (.bipush 91, 2) := by decide +kernel
theorem dm_X7_base_178 : mj_dec prog_9_method_18_code 178 = some (.invokevirtual 84, 3) := by decide +kernel
theorem dm_X7_base_181 : mj_dec prog_9_method_18_code 181 = some (.ifCond .eq 12, 3) := by decide +kernel
theorem dm_X7_base_184 : mj_dec prog_9_method_18_code 184 = some (.aload_n 0, 1) := by decide +kernel
theorem dm_X7_base_185 : mj_dec prog_9_method_18_code 185 = some (.aload_n 1, 1) := by decide +kernel
theorem dm_X7_base_186 : mj_dec prog_9_method_18_code 186 = some (.iload_n 2, 1) := by decide +kernel
theorem dm_X7_base_187 : mj_dec prog_9_method_18_code 187 = some (.iconst 1, 1) := by decide +kernel
theorem dm_X7_base_188 : mj_dec prog_9_method_18_code 188 = some (.iadd, 1) := by decide +kernel
theorem dm_X7_base_189 : mj_dec prog_9_method_18_code 189 = some (.invokevirtual 148, 3) := by decide +kernel
theorem dm_X7_base_192 : mj_dec prog_9_method_18_code 192 = some (.areturn, 1) := by decide +kernel
theorem dm_X7_base_193 : mj_dec prog_9_method_18_code 193 = some (.aload_n 0, 1) := by decide +kernel
theorem dm_X7_base_194 : mj_dec prog_9_method_18_code 194 = some (.invokevirtual 63, 3) := by decide +kernel
theorem dm_X7_base_197 : mj_dec prog_9_method_18_code 197 = some (.areturn, 1) := by decide +kernel
theorem d_baseN {xt : mj_X} {f1 : Nat → Value} {o0 f d mk ln i : Nat} {A : Nat → Prop} {T : Nat → Tok} {wr ls : Int} {nm : Int64} {st tl : Value} {h : mj_H} (hx1 : xt 1 = some (.long, 0, f1)) (hd : 4 * (12 - o0) + 8 ≤ d) (hl : 127 ≤ h.length) (hA : okA A h) (hK : TOKS T mk ln) (hT : TT h T mk ln) (h13 : h[13]? = some (rdC (i : Int) wr ls nm st tl)) {b : Option Nat} (hE : ∀ g, g ≤ f → EX xt T mk ln g ls nm st) (hi : i ≤ mk) (ho : o0 ≤ 12) (hn2 : tqS (T i) ≠ 2) (hf : 8 * (mk - i) + 4 ≤ f + 1) : pgV xt d 45 [.ref 13, oV b, ii (o0 : Int)] h (RX A h T ln (f + 1) 3 o0 i b ls nm st) := by
  obtain ⟨le_, gd, sf, pf, bf, df, hk9, -, -, -, -, -, -⟩ := id hT
  have h9 := hk9.1
  have hmk200 := hK.1
  have c7 := cS_7 T i
  have c8 := cS_r hK i
  have hPl := P_ln hK i
  have hP1 : i < mk → tqP (T i) + 1 ≤ tqP (T (i + 1)) := hK.2.2.2.2.2.2.1 i
  have hlt : 1 ≤ tqS (T i) → tqS (T i) ≤ 7 → i < mk := fun a b => TOKS_lt hK ⟨a, b⟩
  refine x_enter pm_X7_base (L0 := [(0, .ref 13), (1, oV b), (2, ii (o0 : Int))]) (by cases b <;> rfl) (by cases b <;> exact Nat.le_of_ble_eq_true rfl) (by omega) ?_
  refine me1 (pc' := 1) (L' := [(0, .ref 13), (1, oV b), (2, ii (o0 : Int))]) (S' := [.ref 13]) dm_X7_base_0 rfl rfl rfl rfl ?_
  refine me3 (pc' := 4) (S' := [.ref 9]) dm_X7_base_1 (g_get (v := .ref 9) h13 rfl rfl (by decide)) rfl rfl rfl ?_
  refine me1 (pc' := 5) (L' := [(0, .ref 13), (1, oV b), (2, ii (o0 : Int))]) (S' := [.ref 13, .ref 9]) dm_X7_base_4 rfl rfl rfl rfl ?_
  refine me3 (pc' := 8) (S' := [ii (i : Int), .ref 9]) dm_X7_base_5 (g_get (v := ii (i : Int)) h13 rfl rfl (by decide)) rfl rfl rfl ?_
  refine x_cp (pc' := 11) (v := ii (tqP (T i) : Int)) (rest := []) dm_X7_base_8 rfl (g_inv (As := [ii (i : Int)]) (S := []) h9 rfl rfl rfl (by decide)) rfl rfl rfl (tt_place (i := i) (by omega) hK hT (by omega)) ?_
  refine me1 (pc' := 12) (L' := [(3, ii (tqP (T i) : Int)), (0, .ref 13), (1, oV b), (2, ii (o0 : Int))]) (S' := []) dm_X7_base_11 (by cases b <;> rfl) rfl rfl rfl ?_
  refine me1 (pc' := 13) (L' := [(3, ii (tqP (T i) : Int)), (0, .ref 13), (1, oV b), (2, ii (o0 : Int))]) (S' := [.ref 13]) dm_X7_base_12 rfl rfl rfl rfl ?_
  refine me3 (pc' := 16) (S' := [.ref 9]) dm_X7_base_13 (g_get (v := .ref 9) h13 rfl rfl (by decide)) rfl rfl rfl ?_
  refine me1 (pc' := 17) (L' := [(3, ii (tqP (T i) : Int)), (0, .ref 13), (1, oV b), (2, ii (o0 : Int))]) (S' := [.ref 13, .ref 9]) dm_X7_base_16 rfl rfl rfl rfl ?_
  refine me3 (pc' := 20) (S' := [ii (i : Int), .ref 9]) dm_X7_base_17 (g_get (v := ii (i : Int)) h13 rfl rfl (by decide)) rfl rfl rfl ?_
  refine x_cp (pc' := 23) (v := ii ((cS T i : Nat) : Int)) (rest := []) dm_X7_base_20 rfl (g_inv (As := [ii (i : Int)]) (S := []) h9 rfl rfl rfl (by decide)) rfl rfl rfl (tt_sort (i := i) (by omega) hK hT (by omega)) ?_
  refine me1 (pc' := 25) (L' := [(4, ii ((cS T i : Nat) : Int)), (3, ii (tqP (T i) : Int)), (0, .ref 13), (1, oV b), (2, ii (o0 : Int))]) (S' := []) dm_X7_base_23 (by cases b <;> rfl) rfl rfl rfl ?_
  refine me1 (pc' := 27) (L' := [(4, ii ((cS T i : Nat) : Int)), (3, ii (tqP (T i) : Int)), (0, .ref 13), (1, oV b), (2, ii (o0 : Int))]) (S' := [ii ((cS T i : Nat) : Int)]) dm_X7_base_25 rfl rfl rfl rfl ?_
  refine me0 (pc' := 28) (S' := [ii 1, ii ((cS T i : Nat) : Int)]) dm_X7_base_27 rfl rfl rfl rfl ?_
  refine y_2ne (a := ((cS T i : Nat) : Int)) (b := 1) (t := 37) (pc' := 31) dm_X7_base_28 rfl rfl (by omega) (fun hb1 => ?_) (fun hb1 => ?_)
  · refine me1 (pc' := 39) (L' := [(4, ii ((cS T i : Nat) : Int)), (3, ii (tqP (T i) : Int)), (0, .ref 13), (1, oV b), (2, ii (o0 : Int))]) (S' := [ii ((cS T i : Nat) : Int)]) dm_X7_base_37 rfl rfl rfl rfl ?_
    refine me0 (pc' := 40) (S' := [ii 2, ii ((cS T i : Nat) : Int)]) dm_X7_base_39 rfl rfl rfl rfl ?_
    refine y_2ne (a := ((cS T i : Nat) : Int)) (b := 2) (t := 84) (pc' := 43) dm_X7_base_40 rfl rfl (by omega) (fun hb2 => ?_) (fun hb2 => ?_)
    · refine me1 (pc' := 86) (L' := [(4, ii ((cS T i : Nat) : Int)), (3, ii (tqP (T i) : Int)), (0, .ref 13), (1, oV b), (2, ii (o0 : Int))]) (S' := [ii ((cS T i : Nat) : Int)]) dm_X7_base_84 rfl rfl rfl rfl ?_
      refine me0 (pc' := 87) (S' := [ii 3, ii ((cS T i : Nat) : Int)]) dm_X7_base_86 rfl rfl rfl rfl ?_
      refine y_2ne (a := ((cS T i : Nat) : Int)) (b := 3) (t := 131) (pc' := 90) dm_X7_base_87 rfl rfl (by omega) (fun hb3 => ?_) (fun hb3 => ?_)
      · refine me1 (pc' := 132) (L' := [(4, ii ((cS T i : Nat) : Int)), (3, ii (tqP (T i) : Int)), (0, .ref 13), (1, oV b), (2, ii (o0 : Int))]) (S' := [ii (o0 : Int)]) dm_X7_base_131 rfl rfl rfl rfl ?_
        refine me0 (pc' := 134) (S' := [ii 12, ii (o0 : Int)]) dm_X7_base_132 rfl rfl rfl rfl ?_
        refine y_2ge (a := (o0 : Int)) (b := 12) (t := 162) (pc' := 137) dm_X7_base_134 rfl rfl (by omega) (fun hb4 => ?_) (fun hb4 => ?_)
        · refine me1 (pc' := 163) (L' := [(4, ii ((cS T i : Nat) : Int)), (3, ii (tqP (T i) : Int)), (0, .ref 13), (1, oV b), (2, ii (o0 : Int))]) (S' := [ii (o0 : Int)]) dm_X7_base_162 rfl rfl rfl rfl ?_
          refine me0 (pc' := 165) (S' := [ii 12, ii (o0 : Int)]) dm_X7_base_163 rfl rfl rfl rfl ?_
          refine y_2ge (a := (o0 : Int)) (b := 12) (t := 193) (pc' := 168) dm_X7_base_165 rfl rfl (by omega) (fun hb5 => ?_) (fun hb5 => ?_)
          · refine me1 (pc' := 194) (L' := [(4, ii ((cS T i : Nat) : Int)), (3, ii (tqP (T i) : Int)), (0, .ref 13), (1, oV b), (2, ii (o0 : Int))]) (S' := [.ref 13]) dm_X7_base_193 rfl rfl rfl rfl ?_
            refine x_cv (pc' := 197) (rest := []) dm_X7_base_194 rfl (g_inv (As := []) (S := []) h13 rfl rfl rfl (by decide)) rfl rfl rfl (d_fail (i := i) (by omega) hK hT h13 (by omega) rfl) ?_
            rintro _ _ ⟨rfl, rfl⟩
            refine y_ret (r := some (.null)) dm_X7_base_197 rfl rfl rfl ?_
            exact ⟨_, rfl, RX_ie (pR3_x (by omega) (by omega) (by omega)) (hl_set (hl_lt h13)) (rdF_set (Or.inl rfl) (rdF_rf h 13)) (by show _ ≤ _ + 0; (try simp only [List.length_set]); omega) (by show _ ≤ _ + 10 * 0; rw [sl_rd h13]; omega)⟩
          · refine me1 (pc' := 169) (L' := [(4, ii ((cS T i : Nat) : Int)), (3, ii (tqP (T i) : Int)), (0, .ref 13), (1, oV b), (2, ii (o0 : Int))]) (S' := [.ref 13]) dm_X7_base_168 rfl rfl rfl rfl ?_
            refine me3 (pc' := 172) (S' := [.ref 9]) dm_X7_base_169 (g_get (v := .ref 9) h13 rfl rfl (by decide)) rfl rfl rfl ?_
            refine me1 (pc' := 173) (L' := [(4, ii ((cS T i : Nat) : Int)), (3, ii (tqP (T i) : Int)), (0, .ref 13), (1, oV b), (2, ii (o0 : Int))]) (S' := [.ref 13, .ref 9]) dm_X7_base_172 rfl rfl rfl rfl ?_
            refine me3 (pc' := 176) (S' := [ii (i : Int), .ref 9]) dm_X7_base_173 (g_get (v := ii (i : Int)) h13 rfl rfl (by decide)) rfl rfl rfl ?_
            refine me0 (pc' := 178) (S' := [ii 91, ii (i : Int), .ref 9]) dm_X7_base_176 rfl rfl rfl rfl ?_
            refine x_cp (pc' := 181) (v := zz (decide (isMk T i 91))) (rest := []) dm_X7_base_178 rfl (g_inv (As := [ii (i : Int), ii 91]) (S := []) h9 rfl rfl rfl (by decide)) rfl rfl rfl (tt_mark (i := i) (by omega) hK hT (by omega) (by omega)) ?_
            refine y_zeq (c := decide (isMk T i 91)) (t := 193) (pc' := 184) dm_X7_base_181 rfl rfl (fun hb6 => ?_) (fun hb6 => ?_)
            · replace hb6 := dF hb6
              refine me1 (pc' := 194) (L' := [(4, ii ((cS T i : Nat) : Int)), (3, ii (tqP (T i) : Int)), (0, .ref 13), (1, oV b), (2, ii (o0 : Int))]) (S' := [.ref 13]) dm_X7_base_193 rfl rfl rfl rfl ?_
              refine x_cv (pc' := 197) (rest := []) dm_X7_base_194 rfl (g_inv (As := []) (S := []) h13 rfl rfl rfl (by decide)) rfl rfl rfl (d_fail (i := i) (by omega) hK hT h13 (by omega) rfl) ?_
              rintro _ _ ⟨rfl, rfl⟩
              refine y_ret (r := some (.null)) dm_X7_base_197 rfl rfl rfl ?_
              exact ⟨_, rfl, RX_ie (pR3_x (by omega) (by omega) (by omega)) (hl_set (hl_lt h13)) (rdF_set (Or.inl rfl) (rdF_rf h 13)) (by show _ ≤ _ + 0; (try simp only [List.length_set]); omega) (by show _ ≤ _ + 10 * 0; rw [sl_rd h13]; omega)⟩
            · replace hb6 := dT hb6
              refine me1 (pc' := 185) (L' := [(4, ii ((cS T i : Nat) : Int)), (3, ii (tqP (T i) : Int)), (0, .ref 13), (1, oV b), (2, ii (o0 : Int))]) (S' := [.ref 13]) dm_X7_base_184 rfl rfl rfl rfl ?_
              refine me1 (pc' := 186) (L' := [(4, ii ((cS T i : Nat) : Int)), (3, ii (tqP (T i) : Int)), (0, .ref 13), (1, oV b), (2, ii (o0 : Int))]) (S' := [oV b, .ref 13]) dm_X7_base_185 (by cases b <;> rfl) rfl rfl rfl ?_
              refine me1 (pc' := 187) (L' := [(4, ii ((cS T i : Nat) : Int)), (3, ii (tqP (T i) : Int)), (0, .ref 13), (1, oV b), (2, ii (o0 : Int))]) (S' := [ii (o0 : Int), oV b, .ref 13]) dm_X7_base_186 rfl rfl rfl rfl ?_
              refine me0 (pc' := 188) (S' := [ii 1, ii (o0 : Int), oV b, .ref 13]) dm_X7_base_187 rfl rfl rfl rfl ?_
              refine y_iadd (a := (o0 : Int)) (b := 1) dm_X7_base_188 (pc' := 189) rfl ?_
              refine pg_st (S' := [ii ((o0 + 1 : Nat) : Int), oV b, .ref 13]) rfl ?_
              refine x_cv (pc' := 192) (rest := []) dm_X7_base_189 rfl (g_inv (As := [oV b, ii ((o0 + 1 : Nat) : Int)]) (S := []) h13 rfl rfl rfl (by decide)) rfl rfl rfl (d_choice (f := f) hx1 (by omega) hl hA hK hT h13 (hE f (Nat.le_refl _)) (by assumption) (by omega) (by omega)) ?_
              rintro x9 h9 hres
              obtain ⟨q9, rfl⟩ := RX_o hres
              refine y_ret (r := some (oV q9)) dm_X7_base_192 (by cases q9 <;> rfl) rfl rfl ?_
              exact ⟨_, rfl, hres⟩
        · refine me1 (pc' := 138) (L' := [(4, ii ((cS T i : Nat) : Int)), (3, ii (tqP (T i) : Int)), (0, .ref 13), (1, oV b), (2, ii (o0 : Int))]) (S' := [.ref 13]) dm_X7_base_137 rfl rfl rfl rfl ?_
          refine me3 (pc' := 141) (S' := [.ref 9]) dm_X7_base_138 (g_get (v := .ref 9) h13 rfl rfl (by decide)) rfl rfl rfl ?_
          refine me1 (pc' := 142) (L' := [(4, ii ((cS T i : Nat) : Int)), (3, ii (tqP (T i) : Int)), (0, .ref 13), (1, oV b), (2, ii (o0 : Int))]) (S' := [.ref 13, .ref 9]) dm_X7_base_141 rfl rfl rfl rfl ?_
          refine me3 (pc' := 145) (S' := [ii (i : Int), .ref 9]) dm_X7_base_142 (g_get (v := ii (i : Int)) h13 rfl rfl (by decide)) rfl rfl rfl ?_
          refine me0 (pc' := 147) (S' := [ii 40, ii (i : Int), .ref 9]) dm_X7_base_145 rfl rfl rfl rfl ?_
          refine x_cp (pc' := 150) (v := zz (decide (isMk T i 40))) (rest := []) dm_X7_base_147 rfl (g_inv (As := [ii (i : Int), ii 40]) (S := []) h9 rfl rfl rfl (by decide)) rfl rfl rfl (tt_mark (i := i) (by omega) hK hT (by omega) (by omega)) ?_
          refine y_zeq (c := decide (isMk T i 40)) (t := 162) (pc' := 153) dm_X7_base_150 rfl rfl (fun hb7 => ?_) (fun hb7 => ?_)
          · replace hb7 := dF hb7
            refine me1 (pc' := 163) (L' := [(4, ii ((cS T i : Nat) : Int)), (3, ii (tqP (T i) : Int)), (0, .ref 13), (1, oV b), (2, ii (o0 : Int))]) (S' := [ii (o0 : Int)]) dm_X7_base_162 rfl rfl rfl rfl ?_
            refine me0 (pc' := 165) (S' := [ii 12, ii (o0 : Int)]) dm_X7_base_163 rfl rfl rfl rfl ?_
            refine y_2ge (a := (o0 : Int)) (b := 12) (t := 193) (pc' := 168) dm_X7_base_165 rfl rfl (by omega) (fun hb8 => ?_) (fun hb8 => ?_)
            · refine me1 (pc' := 194) (L' := [(4, ii ((cS T i : Nat) : Int)), (3, ii (tqP (T i) : Int)), (0, .ref 13), (1, oV b), (2, ii (o0 : Int))]) (S' := [.ref 13]) dm_X7_base_193 rfl rfl rfl rfl ?_
              refine x_cv (pc' := 197) (rest := []) dm_X7_base_194 rfl (g_inv (As := []) (S := []) h13 rfl rfl rfl (by decide)) rfl rfl rfl (d_fail (i := i) (by omega) hK hT h13 (by omega) rfl) ?_
              rintro _ _ ⟨rfl, rfl⟩
              refine y_ret (r := some (.null)) dm_X7_base_197 rfl rfl rfl ?_
              exact ⟨_, rfl, RX_ie (pR3_x (by omega) (by omega) (by omega)) (hl_set (hl_lt h13)) (rdF_set (Or.inl rfl) (rdF_rf h 13)) (by show _ ≤ _ + 0; (try simp only [List.length_set]); omega) (by show _ ≤ _ + 10 * 0; rw [sl_rd h13]; omega)⟩
            · refine me1 (pc' := 169) (L' := [(4, ii ((cS T i : Nat) : Int)), (3, ii (tqP (T i) : Int)), (0, .ref 13), (1, oV b), (2, ii (o0 : Int))]) (S' := [.ref 13]) dm_X7_base_168 rfl rfl rfl rfl ?_
              refine me3 (pc' := 172) (S' := [.ref 9]) dm_X7_base_169 (g_get (v := .ref 9) h13 rfl rfl (by decide)) rfl rfl rfl ?_
              refine me1 (pc' := 173) (L' := [(4, ii ((cS T i : Nat) : Int)), (3, ii (tqP (T i) : Int)), (0, .ref 13), (1, oV b), (2, ii (o0 : Int))]) (S' := [.ref 13, .ref 9]) dm_X7_base_172 rfl rfl rfl rfl ?_
              refine me3 (pc' := 176) (S' := [ii (i : Int), .ref 9]) dm_X7_base_173 (g_get (v := ii (i : Int)) h13 rfl rfl (by decide)) rfl rfl rfl ?_
              refine me0 (pc' := 178) (S' := [ii 91, ii (i : Int), .ref 9]) dm_X7_base_176 rfl rfl rfl rfl ?_
              refine x_cp (pc' := 181) (v := zz (decide (isMk T i 91))) (rest := []) dm_X7_base_178 rfl (g_inv (As := [ii (i : Int), ii 91]) (S := []) h9 rfl rfl rfl (by decide)) rfl rfl rfl (tt_mark (i := i) (by omega) hK hT (by omega) (by omega)) ?_
              refine y_zeq (c := decide (isMk T i 91)) (t := 193) (pc' := 184) dm_X7_base_181 rfl rfl (fun hb9 => ?_) (fun hb9 => ?_)
              · replace hb9 := dF hb9
                refine me1 (pc' := 194) (L' := [(4, ii ((cS T i : Nat) : Int)), (3, ii (tqP (T i) : Int)), (0, .ref 13), (1, oV b), (2, ii (o0 : Int))]) (S' := [.ref 13]) dm_X7_base_193 rfl rfl rfl rfl ?_
                refine x_cv (pc' := 197) (rest := []) dm_X7_base_194 rfl (g_inv (As := []) (S := []) h13 rfl rfl rfl (by decide)) rfl rfl rfl (d_fail (i := i) (by omega) hK hT h13 (by omega) rfl) ?_
                rintro _ _ ⟨rfl, rfl⟩
                refine y_ret (r := some (.null)) dm_X7_base_197 rfl rfl rfl ?_
                exact ⟨_, rfl, RX_ie (pR3_x (by omega) (by omega) (by omega)) (hl_set (hl_lt h13)) (rdF_set (Or.inl rfl) (rdF_rf h 13)) (by show _ ≤ _ + 0; (try simp only [List.length_set]); omega) (by show _ ≤ _ + 10 * 0; rw [sl_rd h13]; omega)⟩
              · replace hb9 := dT hb9
                refine me1 (pc' := 185) (L' := [(4, ii ((cS T i : Nat) : Int)), (3, ii (tqP (T i) : Int)), (0, .ref 13), (1, oV b), (2, ii (o0 : Int))]) (S' := [.ref 13]) dm_X7_base_184 rfl rfl rfl rfl ?_
                refine me1 (pc' := 186) (L' := [(4, ii ((cS T i : Nat) : Int)), (3, ii (tqP (T i) : Int)), (0, .ref 13), (1, oV b), (2, ii (o0 : Int))]) (S' := [oV b, .ref 13]) dm_X7_base_185 (by cases b <;> rfl) rfl rfl rfl ?_
                refine me1 (pc' := 187) (L' := [(4, ii ((cS T i : Nat) : Int)), (3, ii (tqP (T i) : Int)), (0, .ref 13), (1, oV b), (2, ii (o0 : Int))]) (S' := [ii (o0 : Int), oV b, .ref 13]) dm_X7_base_186 rfl rfl rfl rfl ?_
                refine me0 (pc' := 188) (S' := [ii 1, ii (o0 : Int), oV b, .ref 13]) dm_X7_base_187 rfl rfl rfl rfl ?_
                refine y_iadd (a := (o0 : Int)) (b := 1) dm_X7_base_188 (pc' := 189) rfl ?_
                refine pg_st (S' := [ii ((o0 + 1 : Nat) : Int), oV b, .ref 13]) rfl ?_
                refine x_cv (pc' := 192) (rest := []) dm_X7_base_189 rfl (g_inv (As := [oV b, ii ((o0 + 1 : Nat) : Int)]) (S := []) h13 rfl rfl rfl (by decide)) rfl rfl rfl (d_choice (f := f) hx1 (by omega) hl hA hK hT h13 (hE f (Nat.le_refl _)) (by assumption) (by omega) (by omega)) ?_
                rintro x9 h9 hres
                obtain ⟨q9, rfl⟩ := RX_o hres
                refine y_ret (r := some (oV q9)) dm_X7_base_192 (by cases q9 <;> rfl) rfl rfl ?_
                exact ⟨_, rfl, hres⟩
          · replace hb7 := dT hb7
            refine me1 (pc' := 154) (L' := [(4, ii ((cS T i : Nat) : Int)), (3, ii (tqP (T i) : Int)), (0, .ref 13), (1, oV b), (2, ii (o0 : Int))]) (S' := [.ref 13]) dm_X7_base_153 rfl rfl rfl rfl ?_
            refine me1 (pc' := 155) (L' := [(4, ii ((cS T i : Nat) : Int)), (3, ii (tqP (T i) : Int)), (0, .ref 13), (1, oV b), (2, ii (o0 : Int))]) (S' := [oV b, .ref 13]) dm_X7_base_154 (by cases b <;> rfl) rfl rfl rfl ?_
            refine me1 (pc' := 156) (L' := [(4, ii ((cS T i : Nat) : Int)), (3, ii (tqP (T i) : Int)), (0, .ref 13), (1, oV b), (2, ii (o0 : Int))]) (S' := [ii (o0 : Int), oV b, .ref 13]) dm_X7_base_155 rfl rfl rfl rfl ?_
            refine me0 (pc' := 157) (S' := [ii 1, ii (o0 : Int), oV b, .ref 13]) dm_X7_base_156 rfl rfl rfl rfl ?_
            refine y_iadd (a := (o0 : Int)) (b := 1) dm_X7_base_157 (pc' := 158) rfl ?_
            refine pg_st (S' := [ii ((o0 + 1 : Nat) : Int), oV b, .ref 13]) rfl ?_
            refine x_cv (pc' := 161) (rest := []) dm_X7_base_158 rfl (g_inv (As := [oV b, ii ((o0 + 1 : Nat) : Int)]) (S := []) h13 rfl rfl rfl (by decide)) rfl rfl rfl (show pgV xt (d - 1) 52 [.ref 13, oV b, ii ((o0 + 1 : Nat) : Int)] h (RX A h T ln (f + 1) 3 o0 i b ls nm st) by rw [show f = (f - 1) + 1 by omega]; exact d_group (g0 := f - 1) hx1 (by omega) hl hA hK hT h13 (fun g hg => hE g (by omega)) (by assumption) (by omega) (by omega)) ?_
            rintro x9 h9 hres
            obtain ⟨q9, rfl⟩ := RX_o hres
            refine y_ret (r := some (oV q9)) dm_X7_base_161 (by cases q9 <;> rfl) rfl rfl ?_
            exact ⟨_, rfl, hres⟩
      · refine me3 (pc' := 93) (S' := [.ref h.length]) (h1 := h ++ [cO 4 [ii 0, ii 0, ii 0, .long (Int64.ofInt 0), ii 0, ii 0, ii 0, .null, .null, .null]]) dm_X7_base_90 (g_nw rfl rfl rfl) rfl rfl rfl ?_
        refine me0 (pc' := 94) (S' := [.ref h.length, .ref h.length]) dm_X7_base_93 rfl rfl rfl rfl ?_
        refine me0 (pc' := 95) (S' := [ii 2, .ref h.length, .ref h.length]) dm_X7_base_94 rfl rfl rfl rfl ?_
        refine me1 (pc' := 96) (L' := [(4, ii ((cS T i : Nat) : Int)), (3, ii (tqP (T i) : Int)), (0, .ref 13), (1, oV b), (2, ii (o0 : Int))]) (S' := [ii (tqP (T i) : Int), ii 2, .ref h.length, .ref h.length]) dm_X7_base_95 rfl rfl rfl rfl ?_
        refine me1 (pc' := 97) (L' := [(4, ii ((cS T i : Nat) : Int)), (3, ii (tqP (T i) : Int)), (0, .ref 13), (1, oV b), (2, ii (o0 : Int))]) (S' := [oV b, ii (tqP (T i) : Int), ii 2, .ref h.length, .ref h.length]) dm_X7_base_96 (by cases b <;> rfl) rfl rfl rfl ?_
        refine x_cn (pc' := 100) (rest := [.ref h.length]) dm_X7_base_97 rfl (g_invp (As := [ii 2, ii (tqP (T i) : Int), oV b]) (S := [.ref h.length]) rfl rfl rfl) rfl rfl rfl (o_init (b := b) (by omega) (by omega) hl_new (hl_setl)) ?_
        rintro _ rfl
        refine me1 (pc' := 102) (L' := [(5, .ref h.length), (4, ii ((cS T i : Nat) : Int)), (3, ii (tqP (T i) : Int)), (0, .ref 13), (1, oV b), (2, ii (o0 : Int))]) (S' := []) dm_X7_base_100 (by cases b <;> rfl) rfl rfl rfl ?_
        refine me1 (pc' := 104) (L' := [(5, .ref h.length), (4, ii ((cS T i : Nat) : Int)), (3, ii (tqP (T i) : Int)), (0, .ref 13), (1, oV b), (2, ii (o0 : Int))]) (S' := [.ref h.length]) dm_X7_base_102 rfl rfl rfl rfl ?_
        refine me1 (pc' := 105) (L' := [(5, .ref h.length), (4, ii ((cS T i : Nat) : Int)), (3, ii (tqP (T i) : Int)), (0, .ref 13), (1, oV b), (2, ii (o0 : Int))]) (S' := [.ref 13, .ref h.length]) dm_X7_base_104 rfl rfl rfl rfl ?_
        refine me3 (pc' := 108) (S' := [.ref 9, .ref h.length]) dm_X7_base_105 (g_get (v := .ref 9) (hl_app h13) rfl rfl (by decide)) rfl rfl rfl ?_
        refine me1 (pc' := 109) (L' := [(5, .ref h.length), (4, ii ((cS T i : Nat) : Int)), (3, ii (tqP (T i) : Int)), (0, .ref 13), (1, oV b), (2, ii (o0 : Int))]) (S' := [.ref 13, .ref 9, .ref h.length]) dm_X7_base_108 rfl rfl rfl rfl ?_
        refine me3 (pc' := 112) (S' := [ii (i : Int), .ref 9, .ref h.length]) dm_X7_base_109 (g_get (v := ii (i : Int)) (hl_app h13) rfl rfl (by decide)) rfl rfl rfl ?_
        refine x_cp (pc' := 115) (v := .long (Int64.ofInt (tqD (T i)))) (rest := [.ref h.length]) dm_X7_base_112 rfl (g_inv (As := [ii (i : Int)]) (S := [.ref h.length]) (hl_app h9) rfl rfl rfl (by decide)) rfl rfl rfl (tt_data (i := i) (by omega) hK (TT_app (by omega) hT) (by omega)) ?_
        refine me3 (pc' := 118) (S' := []) (h1 := h ++ [cO 4 [ii 2, ii (tqP (T i) : Int), ii 0, .long (Int64.ofInt (tqD (T i))), ii 0, ii 0, ii 0, .null, oV b, .null]]) dm_X7_base_115 (g_put (fs' := [ii 2, ii (tqP (T i) : Int), ii 0, .long (Int64.ofInt (tqD (T i))), ii 0, ii 0, ii 0, .null, oV b, .null]) hl_new rfl (hl_setl) rfl (by simp) rfl (by decide) (fun z => by cases z) (by omega)) rfl rfl rfl ?_
        refine me1 (pc' := 119) (L' := [(5, .ref h.length), (4, ii ((cS T i : Nat) : Int)), (3, ii (tqP (T i) : Int)), (0, .ref 13), (1, oV b), (2, ii (o0 : Int))]) (S' := [.ref 13]) dm_X7_base_118 rfl rfl rfl rfl ?_
        refine me0 (pc' := 120) (S' := [.ref 13, .ref 13]) dm_X7_base_119 rfl rfl rfl rfl ?_
        refine me3 (pc' := 123) (S' := [ii (i : Int), .ref 13]) dm_X7_base_120 (g_get (v := ii (i : Int)) (hl_app h13) rfl rfl (by decide)) rfl rfl rfl ?_
        refine me0 (pc' := 124) (S' := [ii 1, ii (i : Int), .ref 13]) dm_X7_base_123 rfl rfl rfl rfl ?_
        refine y_iadd (a := (i : Int)) (b := 1) dm_X7_base_124 (pc' := 125) rfl ?_
        refine pg_st (S' := [ii ((i + 1 : Nat) : Int), .ref 13]) (congrArg (fun z => ii z :: [.ref 13]) (by omega)) ?_
        refine me3 (pc' := 128) (S' := []) (h1 := (h ++ [cO 4 [ii 2, ii (tqP (T i) : Int), ii 0, .long (Int64.ofInt (tqD (T i))), ii 0, ii 0, ii 0, .null, oV b, .null]]).set 13 (cO 7 [.ref 9, ii ((i + 1 : Nat) : Int), ii wr, ii ls, .long nm, st, tl])) dm_X7_base_125 (g_put (fs' := [.ref 9, ii ((i + 1 : Nat) : Int), ii wr, ii ls, .long nm, st, tl]) (hl_app h13) rfl rfl rfl (by simp) rfl (by decide) (fun z => by cases z) (by decide)) rfl rfl rfl ?_
        refine me1 (pc' := 130) (L' := [(5, .ref h.length), (4, ii ((cS T i : Nat) : Int)), (3, ii (tqP (T i) : Int)), (0, .ref 13), (1, oV b), (2, ii (o0 : Int))]) (S' := [.ref h.length]) dm_X7_base_128 rfl rfl rfl rfl ?_
        refine y_ret (r := some (.ref h.length)) dm_X7_base_130 rfl rfl rfl ?_
        refine ⟨_, rfl, RX_iv (j := i + 1) (pR3_2 (by omega)) (hl_set (hl_lt (hl_app h13))) (rdF_set (Or.inl rfl) (rdF_app (rdF_rf h 13))) ⟨by omega, Nat.le_refl _, by simp only [List.length_append, List.length_set, List.length_singleton]; omega⟩ ((cR_nm (by omega)).mpr ⟨by omega, Or.inr ⟨Nat.le_refl _, by simp only [List.length_append, List.length_set, List.length_singleton]; omega⟩, (hl_ne (by omega) hl_new)⟩) ?_ ?_⟩
        · show _ + (1 - 0) ≤ _
          simp only [List.length_append, List.length_set, List.length_singleton]; omega
        · show _ + 10 * (1 - 0) ≤ _
          rw [sl_rd (hl_app h13), sl_app, sl_op]; omega
    · exfalso; omega
  · refine me1 (pc' := 32) (L' := [(4, ii ((cS T i : Nat) : Int)), (3, ii (tqP (T i) : Int)), (0, .ref 13), (1, oV b), (2, ii (o0 : Int))]) (S' := [.ref 13]) dm_X7_base_31 rfl rfl rfl rfl ?_
    refine me1 (pc' := 33) (L' := [(4, ii ((cS T i : Nat) : Int)), (3, ii (tqP (T i) : Int)), (0, .ref 13), (1, oV b), (2, ii (o0 : Int))]) (S' := [oV b, .ref 13]) dm_X7_base_32 (by cases b <;> rfl) rfl rfl rfl ?_
    refine x_cv (pc' := 36) (rest := []) dm_X7_base_33 rfl (g_inv (As := [oV b]) (S := []) h13 rfl rfl rfl (by decide)) rfl rfl rfl (d_numbers (f := f) (o := o0) hx1 (by omega) hl hA hK hT h13 (by omega)) ?_
    rintro x9 h9 hres
    obtain ⟨q9, rfl⟩ := RX_o hres
    refine y_ret (r := some (oV q9)) dm_X7_base_36 (by cases q9 <;> rfl) rfl rfl ?_
    exact ⟨_, rfl, hres⟩
theorem dm_X7_base_43 : mj_dec prog_9_method_18_code 43 = some (.new 15, 3) := by decide +kernel
theorem dm_X7_base_46 : mj_dec prog_9_method_18_code 46 = some (.dup, 1) := by decide +kernel
theorem dm_X7_base_47 : mj_dec prog_9_method_18_code 47 = some (.iconst 1, 1) := by decide +kernel
theorem dm_X7_base_48 : mj_dec prog_9_method_18_code 48 = some (.iload_n 3, 1) := by decide +kernel
theorem dm_X7_base_49 : mj_dec prog_9_method_18_code 49 = some (.aload_n 1, 1) := by decide +kernel
theorem dm_X7_base_50 : mj_dec prog_9_method_18_code 50 = some (.invokespecial 17, 3) := by decide +kernel
theorem dm_X7_base_53 : mj_dec prog_9_method_18_code 53 = some (.astore 5, 2) := by decide +kernel
theorem dm_X7_base_55 : mj_dec prog_9_method_18_code 55 = some (.aload 5, 2) := by decide +kernel
theorem dm_X7_base_57 : mj_dec prog_9_method_18_code 57 = some (.aload_n 0, 1) := by decide +kernel
theorem dm_X7_base_58 : mj_dec prog_9_method_18_code 58 = some (.getfield 9, 3) := by decide +kernel
theorem dm_X7_base_61 : mj_dec prog_9_method_18_code 61 = some (.aload_n 0, 1) := by decide +kernel
theorem dm_X7_base_62 : mj_dec prog_9_method_18_code 62 = some (.getfield 38, 3) := by decide +kernel
theorem dm_X7_base_65 : mj_dec prog_9_method_18_code 65 = some (.invokevirtual 137, 3) := by decide +kernel
theorem dm_X7_base_68 : mj_dec prog_9_method_18_code 68 = some (.putfield 141, 3) := by decide +kernel
theorem dm_X7_base_71 : mj_dec prog_9_method_18_code 71 = some (.aload_n 0, 1) := by decide +kernel
theorem dm_X7_base_72 : mj_dec prog_9_method_18_code 72 = some (.dup, 1) := by decide +kernel
theorem dm_X7_base_73 : mj_dec prog_9_method_18_code 73 = some (.getfield 38, 3) := by decide +kernel
theorem dm_X7_base_76 : mj_dec prog_9_method_18_code 76 = some (.iconst 1, 1) := by decide +kernel
theorem dm_X7_base_77 : mj_dec prog_9_method_18_code 77 = some (.iadd, 1) := by decide +kernel
theorem dm_X7_base_78 : mj_dec prog_9_method_18_code 78 = some (.putfield 38, 3) := by decide +kernel
theorem dm_X7_base_81 : mj_dec prog_9_method_18_code 81 = some (.aload 5, 2) := by decide +kernel
theorem dm_X7_base_83 : mj_dec prog_9_method_18_code 83 = some (.areturn, 1) := by decide +kernel
theorem d_baseT {xt : mj_X} {f1 : Nat → Value} {o0 f d mk ln i : Nat} {A : Nat → Prop} {T : Nat → Tok} {wr ls : Int} {nm : Int64} {st tl : Value} {h : mj_H} (hx1 : xt 1 = some (.long, 0, f1)) (hd : 6 ≤ d) (hl : 127 ≤ h.length) (hA : okA A h) (hK : TOKS T mk ln) (hT : TT h T mk ln) (h13 : h[13]? = some (rdC (i : Int) wr ls nm st tl)) {b : Option Nat} (hi : i ≤ mk) (ht2 : tqS (T i) = 2) : pgV xt d 45 [.ref 13, oV b, ii (o0 : Int)] h (RX A h T ln (f + 1) 3 o0 i b ls nm st) := by
  obtain ⟨le_, gd, sf, pf, bf, df, hk9, -, -, -, -, -, -⟩ := id hT
  have h9 := hk9.1
  have hmk200 := hK.1
  have c7 := cS_7 T i
  have c8 := cS_r hK i
  have hPl := P_ln hK i
  have hlt := TOKS_lt hK (i := i) (by omega)
  have hx_ := (hK.2.2.2.2.2.2.2.1 i hlt ht2)
  obtain ⟨hx1_, hx2_, hx3_, -⟩ := hx_
  refine x_enter pm_X7_base (L0 := [(0, .ref 13), (1, oV b), (2, ii (o0 : Int))]) (by cases b <;> rfl) (by cases b <;> exact Nat.le_of_ble_eq_true rfl) (by omega) ?_
  refine me1 (pc' := 1) (L' := [(0, .ref 13), (1, oV b), (2, ii (o0 : Int))]) (S' := [.ref 13]) dm_X7_base_0 rfl rfl rfl rfl ?_
  refine me3 (pc' := 4) (S' := [.ref 9]) dm_X7_base_1 (g_get (v := .ref 9) h13 rfl rfl (by decide)) rfl rfl rfl ?_
  refine me1 (pc' := 5) (L' := [(0, .ref 13), (1, oV b), (2, ii (o0 : Int))]) (S' := [.ref 13, .ref 9]) dm_X7_base_4 rfl rfl rfl rfl ?_
  refine me3 (pc' := 8) (S' := [ii (i : Int), .ref 9]) dm_X7_base_5 (g_get (v := ii (i : Int)) h13 rfl rfl (by decide)) rfl rfl rfl ?_
  refine x_cp (pc' := 11) (v := ii (tqP (T i) : Int)) (rest := []) dm_X7_base_8 rfl (g_inv (As := [ii (i : Int)]) (S := []) h9 rfl rfl rfl (by decide)) rfl rfl rfl (tt_place (i := i) (by omega) hK hT (by omega)) ?_
  refine me1 (pc' := 12) (L' := [(3, ii (tqP (T i) : Int)), (0, .ref 13), (1, oV b), (2, ii (o0 : Int))]) (S' := []) dm_X7_base_11 (by cases b <;> rfl) rfl rfl rfl ?_
  refine me1 (pc' := 13) (L' := [(3, ii (tqP (T i) : Int)), (0, .ref 13), (1, oV b), (2, ii (o0 : Int))]) (S' := [.ref 13]) dm_X7_base_12 rfl rfl rfl rfl ?_
  refine me3 (pc' := 16) (S' := [.ref 9]) dm_X7_base_13 (g_get (v := .ref 9) h13 rfl rfl (by decide)) rfl rfl rfl ?_
  refine me1 (pc' := 17) (L' := [(3, ii (tqP (T i) : Int)), (0, .ref 13), (1, oV b), (2, ii (o0 : Int))]) (S' := [.ref 13, .ref 9]) dm_X7_base_16 rfl rfl rfl rfl ?_
  refine me3 (pc' := 20) (S' := [ii (i : Int), .ref 9]) dm_X7_base_17 (g_get (v := ii (i : Int)) h13 rfl rfl (by decide)) rfl rfl rfl ?_
  refine x_cp (pc' := 23) (v := ii ((cS T i : Nat) : Int)) (rest := []) dm_X7_base_20 rfl (g_inv (As := [ii (i : Int)]) (S := []) h9 rfl rfl rfl (by decide)) rfl rfl rfl (tt_sort (i := i) (by omega) hK hT (by omega)) ?_
  refine me1 (pc' := 25) (L' := [(4, ii ((cS T i : Nat) : Int)), (3, ii (tqP (T i) : Int)), (0, .ref 13), (1, oV b), (2, ii (o0 : Int))]) (S' := []) dm_X7_base_23 (by cases b <;> rfl) rfl rfl rfl ?_
  refine me1 (pc' := 27) (L' := [(4, ii ((cS T i : Nat) : Int)), (3, ii (tqP (T i) : Int)), (0, .ref 13), (1, oV b), (2, ii (o0 : Int))]) (S' := [ii ((cS T i : Nat) : Int)]) dm_X7_base_25 rfl rfl rfl rfl ?_
  refine me0 (pc' := 28) (S' := [ii 1, ii ((cS T i : Nat) : Int)]) dm_X7_base_27 rfl rfl rfl rfl ?_
  refine y_2ne (a := ((cS T i : Nat) : Int)) (b := 1) (t := 37) (pc' := 31) dm_X7_base_28 rfl rfl (by omega) (fun hb1 => ?_) (fun hb1 => ?_)
  · refine me1 (pc' := 39) (L' := [(4, ii ((cS T i : Nat) : Int)), (3, ii (tqP (T i) : Int)), (0, .ref 13), (1, oV b), (2, ii (o0 : Int))]) (S' := [ii ((cS T i : Nat) : Int)]) dm_X7_base_37 rfl rfl rfl rfl ?_
    refine me0 (pc' := 40) (S' := [ii 2, ii ((cS T i : Nat) : Int)]) dm_X7_base_39 rfl rfl rfl rfl ?_
    refine y_2ne (a := ((cS T i : Nat) : Int)) (b := 2) (t := 84) (pc' := 43) dm_X7_base_40 rfl rfl (by omega) (fun hb2 => ?_) (fun hb2 => ?_)
    · exfalso; omega
    · refine me3 (pc' := 46) (S' := [.ref h.length]) (h1 := h ++ [cO 4 [ii 0, ii 0, ii 0, .long (Int64.ofInt 0), ii 0, ii 0, ii 0, .null, .null, .null]]) dm_X7_base_43 (g_nw rfl rfl rfl) rfl rfl rfl ?_
      refine me0 (pc' := 47) (S' := [.ref h.length, .ref h.length]) dm_X7_base_46 rfl rfl rfl rfl ?_
      refine me0 (pc' := 48) (S' := [ii 1, .ref h.length, .ref h.length]) dm_X7_base_47 rfl rfl rfl rfl ?_
      refine me1 (pc' := 49) (L' := [(4, ii ((cS T i : Nat) : Int)), (3, ii (tqP (T i) : Int)), (0, .ref 13), (1, oV b), (2, ii (o0 : Int))]) (S' := [ii (tqP (T i) : Int), ii 1, .ref h.length, .ref h.length]) dm_X7_base_48 rfl rfl rfl rfl ?_
      refine me1 (pc' := 50) (L' := [(4, ii ((cS T i : Nat) : Int)), (3, ii (tqP (T i) : Int)), (0, .ref 13), (1, oV b), (2, ii (o0 : Int))]) (S' := [oV b, ii (tqP (T i) : Int), ii 1, .ref h.length, .ref h.length]) dm_X7_base_49 (by cases b <;> rfl) rfl rfl rfl ?_
      refine x_cn (pc' := 53) (rest := [.ref h.length]) dm_X7_base_50 rfl (g_invp (As := [ii 1, ii (tqP (T i) : Int), oV b]) (S := [.ref h.length]) rfl rfl rfl) rfl rfl rfl (o_init (b := b) (by omega) (by omega) hl_new (hl_setl)) ?_
      rintro _ rfl
      refine me1 (pc' := 55) (L' := [(5, .ref h.length), (4, ii ((cS T i : Nat) : Int)), (3, ii (tqP (T i) : Int)), (0, .ref 13), (1, oV b), (2, ii (o0 : Int))]) (S' := []) dm_X7_base_53 (by cases b <;> rfl) rfl rfl rfl ?_
      refine me1 (pc' := 57) (L' := [(5, .ref h.length), (4, ii ((cS T i : Nat) : Int)), (3, ii (tqP (T i) : Int)), (0, .ref 13), (1, oV b), (2, ii (o0 : Int))]) (S' := [.ref h.length]) dm_X7_base_55 rfl rfl rfl rfl ?_
      refine me1 (pc' := 58) (L' := [(5, .ref h.length), (4, ii ((cS T i : Nat) : Int)), (3, ii (tqP (T i) : Int)), (0, .ref 13), (1, oV b), (2, ii (o0 : Int))]) (S' := [.ref 13, .ref h.length]) dm_X7_base_57 rfl rfl rfl rfl ?_
      refine me3 (pc' := 61) (S' := [.ref 9, .ref h.length]) dm_X7_base_58 (g_get (v := .ref 9) (hl_app h13) rfl rfl (by decide)) rfl rfl rfl ?_
      refine me1 (pc' := 62) (L' := [(5, .ref h.length), (4, ii ((cS T i : Nat) : Int)), (3, ii (tqP (T i) : Int)), (0, .ref 13), (1, oV b), (2, ii (o0 : Int))]) (S' := [.ref 13, .ref 9, .ref h.length]) dm_X7_base_61 rfl rfl rfl rfl ?_
      refine me3 (pc' := 65) (S' := [ii (i : Int), .ref 9, .ref h.length]) dm_X7_base_62 (g_get (v := ii (i : Int)) (hl_app h13) rfl rfl (by decide)) rfl rfl rfl ?_
      refine x_cv (pc' := 68) (rest := [.ref h.length]) dm_X7_base_65 rfl (g_inv (As := [ii (i : Int)]) (S := [.ref h.length]) (hl_app h9) rfl rfl rfl (by decide)) rfl rfl rfl (x_textAtT (A := A) hx1 (by omega) (by simp; omega) hK (TT_app (by omega) hT) hlt ht2) ?_
      rintro x9 h2 ⟨q9, X9, rfl, hX, hX1, hX2, hcv⟩
      have h2_13 : h2[13]? = some (cO 7 [.ref 9, ii (i : Int), ii wr, ii ls, .long nm, st, tl]) := by rw [hX]; exact hl_app (hl_app h13)
      have h2_k : h2[h.length]? = some (cO 4 [ii 1, ii (tqP (T i) : Int), ii 0, .long (Int64.ofInt 0), ii 0, ii 0, ii 0, .null, oV b, .null]) := by rw [hX]; exact hl_app hl_new
      have h2T : TT h2 T mk ln := by rw [hX]; exact TT_app (by simp; omega) (TT_app (by omega) hT)
      have h2_9 : h2[9]? = some (cO 8 [.ref 10, .ref 11, .ref 12, ii ((mk + 1 : Nat) : Int), ii le_, .ref 3, .ref 4, ii (ln : Int), zz gd]) := by rw [hX]; exact hl_app (hl_app h9)
      have h2l : h2.length = h.length + 1 + X9.length := by rw [hX]; simp only [List.length_append, List.length_singleton]
      have h2s : mj_sl h2 = mj_sl h + 10 + mj_sl X9 := by rw [hX, sl_app, sl_app, sl_op]
      have h2F : rdF h h2 13 := by rw [hX]; exact rdF_app (rdF_app (rdF_rf h 13))
      refine me3 (pc' := 71) (S' := []) (h1 := (h2).set h.length (cO 4 [ii 1, ii (tqP (T i) : Int), ii 0, .long (Int64.ofInt 0), ii 0, ii 0, ii 0, .ref q9, oV b, .null])) dm_X7_base_68 (g_put (fs' := [ii 1, ii (tqP (T i) : Int), ii 0, .long (Int64.ofInt 0), ii 0, ii 0, ii 0, .ref q9, oV b, .null]) h2_k rfl rfl rfl (by simp) rfl (by decide) (fun z => by cases z) (by omega)) rfl rfl rfl ?_
      refine me1 (pc' := 72) (L' := [(5, .ref h.length), (4, ii ((cS T i : Nat) : Int)), (3, ii (tqP (T i) : Int)), (0, .ref 13), (1, oV b), (2, ii (o0 : Int))]) (S' := [.ref 13]) dm_X7_base_71 rfl rfl rfl rfl ?_
      refine me0 (pc' := 73) (S' := [.ref 13, .ref 13]) dm_X7_base_72 rfl rfl rfl rfl ?_
      refine me3 (pc' := 76) (S' := [ii (i : Int), .ref 13]) dm_X7_base_73 (g_get (v := ii (i : Int)) (hl_ne (by omega) h2_13) rfl rfl (by decide)) rfl rfl rfl ?_
      refine me0 (pc' := 77) (S' := [ii 1, ii (i : Int), .ref 13]) dm_X7_base_76 rfl rfl rfl rfl ?_
      refine y_iadd (a := (i : Int)) (b := 1) dm_X7_base_77 (pc' := 78) rfl ?_
      refine pg_st (S' := [ii ((i + 1 : Nat) : Int), .ref 13]) (congrArg (fun z => ii z :: [.ref 13]) (by omega)) ?_
      refine me3 (pc' := 81) (S' := []) (h1 := ((h2).set h.length (cO 4 [ii 1, ii (tqP (T i) : Int), ii 0, .long (Int64.ofInt 0), ii 0, ii 0, ii 0, .ref q9, oV b, .null])).set 13 (cO 7 [.ref 9, ii ((i + 1 : Nat) : Int), ii wr, ii ls, .long nm, st, tl])) dm_X7_base_78 (g_put (fs' := [.ref 9, ii ((i + 1 : Nat) : Int), ii wr, ii ls, .long nm, st, tl]) (hl_ne (by omega) h2_13) rfl rfl rfl (by simp) rfl (by decide) (fun z => by cases z) (by decide)) rfl rfl rfl ?_
      refine me1 (pc' := 83) (L' := [(5, .ref h.length), (4, ii ((cS T i : Nat) : Int)), (3, ii (tqP (T i) : Int)), (0, .ref 13), (1, oV b), (2, ii (o0 : Int))]) (S' := [.ref h.length]) dm_X7_base_81 rfl rfl rfl rfl ?_
      refine y_ret (r := some (.ref h.length)) dm_X7_base_83 rfl rfl rfl ?_
      have zF : rdF h2 (((h2).set h.length (cO 4 [ii 1, ii (tqP (T i) : Int), ii 0, .long (Int64.ofInt 0), ii 0, ii 0, ii 0, .ref q9, oV b, .null])).set 13 (cO 7 [.ref 9, ii ((i + 1 : Nat) : Int), ii wr, ii ls, .long nm, st, tl])) h.length := rdF_set (Or.inl rfl) (rdF_set (Or.inr (Or.inl rfl)) (rdF_rf _ _))
      refine ⟨_, rfl, RX_iv (j := i + 1) (pR3_2 (Or.inl ht2)) (hl_set (hl_lt (hl_ne (by omega) h2_13))) (rdF_set (Or.inl rfl) (rdF_set (Or.inr (Or.inr (Nat.le_refl _))) h2F)) ⟨by omega, Nat.le_refl _, by simp only [List.length_set]; omega⟩ ((cR_tx ht2).mpr ⟨q9, ⟨by omega, Or.inr ⟨Nat.le_refl _, by simp only [List.length_set]; omega⟩, (hl_ne (by omega) (hl_set (hl_lt h2_k)))⟩, cv_keep (kp_rd (g := (h ++ [cO 4 [ii 1, ii (tqP (T i) : Int), ii 0, .long (Int64.ofInt 0), ii 0, ii 0, ii 0, .null, oV b, .null]])) hA hl (by simp) zF (Or.inr ⟨by simp, fun x => by have := (hA _ x).1; omega⟩)) hcv⟩) ?_ ?_⟩
      · show _ + (1 - 0) ≤ _
        simp only [List.length_set]; omega
      · show _ + 10 * (1 - 0) ≤ _
        rw [sl_rd (hl_ne (by omega) h2_13), sl_set (e' := cO 4 [ii 1, ii (tqP (T i) : Int), ii 0, .long (Int64.ofInt 0), ii 0, ii 0, ii 0, .ref q9, oV b, .null]) h2_k rfl]; omega
  · exfalso; omega
theorem d_base {xt : mj_X} {f1 : Nat → Value} {o0 f d mk ln i : Nat} {A : Nat → Prop} {T : Nat → Tok} {wr ls : Int} {nm : Int64} {st tl : Value} {h : mj_H} (hx1 : xt 1 = some (.long, 0, f1)) (hd : 4 * (12 - o0) + 8 ≤ d) (hl : 127 ≤ h.length) (hA : okA A h) (hK : TOKS T mk ln) (hT : TT h T mk ln) (h13 : h[13]? = some (rdC (i : Int) wr ls nm st tl)) {b : Option Nat} (hE : ∀ g, g ≤ f → EX xt T mk ln g ls nm st) (hi : i ≤ mk) (ho : o0 ≤ 12) (hf : 8 * (mk - i) + 4 ≤ f + 1) : pgV xt d 45 [.ref 13, oV b, ii (o0 : Int)] h (RX A h T ln (f + 1) 3 o0 i b ls nm st) := by
  by_cases z : tqS (T i) = 2
  · exact d_baseT hx1 (by omega) hl hA hK hT h13 hi z
  · exact d_baseN hx1 hd hl hA hK hT h13 hE hi ho z hf
