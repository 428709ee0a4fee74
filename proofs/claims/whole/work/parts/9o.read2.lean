/-! the ADVERBS of an act, as a loop puts them together -/
def avJ (T : Nat → Tok) (i : Nat) : Nat → Int
  | 0 => 0
  | k + 1 => avJ T i k + tqD (T (i + k)) * 256 ^ k
theorem p256 : (256 : Int) ^ 0 = 1 ∧ (256 : Int) ^ 1 = 256 ∧ (256 : Int) ^ 2 = 65536 ∧ (256 : Int) ^ 3 = 16777216 := by
  refine ⟨rfl, ?_, ?_, ?_⟩ <;> (rw [show (256 : Int) = ((256 : Nat) : Int) from rfl, ← Int.natCast_pow]; try rfl)
theorem avJ_I {T : Nat → Tok} {i k : Nat} (h : k ≤ 4) : avI T i k = avJ T i k := by
  obtain ⟨e0, e1, e2, e3⟩ := p256
  have j1 : avJ T i 1 = 0 + tqD (T i) * 1 := by show 0 + tqD (T (i + 0)) * 256 ^ 0 = _; rw [e0]; rfl
  have j2 : avJ T i 2 = 0 + tqD (T i) * 1 + tqD (T (i + 1)) * 256 := by show avJ T i 1 + tqD (T (i + 1)) * 256 ^ 1 = _; rw [e1, j1]
  have j3 : avJ T i 3 = 0 + tqD (T i) * 1 + tqD (T (i + 1)) * 256 + tqD (T (i + 1 + 1)) * 65536 := by show avJ T i 2 + tqD (T (i + 2)) * 256 ^ 2 = _; rw [e2, j2]
  have j4 : avJ T i 4 = 0 + tqD (T i) * 1 + tqD (T (i + 1)) * 256 + tqD (T (i + 1 + 1)) * 65536 + tqD (T (i + 1 + 1 + 1)) * 16777216 := by show avJ T i 3 + tqD (T (i + 3)) * 256 ^ 3 = _; rw [e3, j3]
  rcases (show k = 0 ∨ k = 1 ∨ k = 2 ∨ k = 3 ∨ k = 4 by omega) with z | z | z | z | z
  · rw [z]; exact avI_0 T i
  · rw [z, j1]; exact avI_1 T i
  · rw [z, j2]; exact avI_2 T i
  · rw [z, j3]; exact avI_3 T i
  · rw [z, j4]; exact avI_4 T i
theorem avJ_r {T : Nat → Tok} {i : Nat} : ∀ k : Nat, (∀ j, j < k → 1 ≤ tqD (T (i + j)) ∧ tqD (T (i + j)) ≤ 126) → 0 ≤ avJ T i k ∧ avJ T i k < 256 ^ k := by
  intro k
  induction k with
  | zero => intro _; exact ⟨Int.le_refl _, by show (0 : Int) < 256 ^ 0; rw [p256.1]; decide⟩
  | succ k ih =>
    intro h
    have a := ih (fun j hj => h j (by omega))
    have b := h k (by omega)
    have p : (256 : Int) ^ (k + 1) = 256 ^ k * 256 := Int.pow_succ 256 k
    show 0 ≤ avJ T i k + tqD (T (i + k)) * 256 ^ k ∧ avJ T i k + tqD (T (i + k)) * 256 ^ k < 256 ^ (k + 1)
    rw [p]
    generalize (256 : Int) ^ k = P at *
    generalize tqD (T (i + k)) = D at *
    have c : D * P ≤ 126 * P := Int.mul_le_mul_of_nonneg_right b.2 (by omega)
    have c2 : 1 * P ≤ D * P := Int.mul_le_mul_of_nonneg_right b.1 (by omega)
    generalize D * P = Q at *
    omega
theorem p28 : ∀ c : Nat, (2 : Int) ^ (8 * c) = 256 ^ c := by
  intro c
  induction c with
  | zero => rfl
  | succ c ih =>
    rw [show 8 * (c + 1) = 8 * c + 1 + 1 + 1 + 1 + 1 + 1 + 1 + 1 by omega, Int.pow_succ, Int.pow_succ, Int.pow_succ, Int.pow_succ, Int.pow_succ, Int.pow_succ, Int.pow_succ, Int.pow_succ, ih, Int.pow_succ]
    generalize (256 : Int) ^ c = P
    omega
theorem p256_r {c : Nat} (h : c < 4) : 1 ≤ (256 : Int) ^ c ∧ (256 : Int) ^ c ≤ 16777216 := by
  obtain ⟨e0, e1, e2, e3⟩ := p256
  rcases (show c = 0 ∨ c = 1 ∨ c = 2 ∨ c = 3 by omega) with q | q | q | q
  · rw [q, e0]; decide
  · rw [q, e1]; decide
  · rw [q, e2]; decide
  · rw [q, e3]; decide
set_option maxRecDepth 20000 in
theorem pm_X7_readDoes : mj_mmof pg_ms 43 = some ((⟨"ArrayCalculator$Reader", "readDoes", "(LArrayCalculator$Op;)V"⟩, prog_9_method_14_code, 3, (Option.none : Option Jvm.ClassFile.FieldType)), 7, false, mj_dec prog_9_method_14_code) := rfl
theorem dm_X7_readDoes_0 : mj_dec prog_9_method_14_code 0 = some (.aload_n 1, 1) := by decide +kernel
theorem dm_X7_readDoes_1 : mj_dec prog_9_method_14_code 1 = some (.aload_n 0, 1) := by decide +kernel
theorem dm_X7_readDoes_2 : mj_dec prog_9_method_14_code 2 = some (.getfield 9, 3) := by decide +kernel
theorem dm_X7_readDoes_5 : mj_dec prog_9_method_14_code 5 = some (.aload_n 0, 1) := by decide +kernel
theorem dm_X7_readDoes_6 : mj_dec prog_9_method_14_code 6 = some (.getfield 38, 3) := by decide +kernel
theorem dm_X7_readDoes_9 : mj_dec prog_9_method_14_code 9 = some (.invokevirtual 81, 3) := by decide +kernel
theorem dm_X7_readDoes_12 : mj_dec prog_9_method_14_code 12 = some (.putfield 109, 3) := by decide +kernel
theorem dm_X7_readDoes_15 : mj_dec prog_9_method_14_code 15 = some (.aload_n 0, 1) := by decide +kernel
theorem dm_X7_readDoes_16 : mj_dec prog_9_method_14_code 16 = some (.getfield 9, 3) := by decide +kernel
theorem dm_X7_readDoes_19 : mj_dec prog_9_method_14_code 19 = some (.aload_n 0, 1) := by decide +kernel
theorem dm_X7_readDoes_20 : mj_dec prog_9_method_14_code 20 = some (.getfield 38, 3) := by decide +kernel
theorem dm_X7_readDoes_23 : mj_dec prog_9_method_14_code 23 = some (.invokevirtual 59, 3) := by decide +kernel
theorem dm_X7_readDoes_26 : mj_dec prog_9_method_14_code 26 = some (.iconst 5, 1) := by decide +kernel
theorem dm_X7_readDoes_27 : mj_dec prog_9_method_14_code 27 = some (.if_icmp .ne 22, 3) := by decide +kernel
theorem dm_X7_readDoes_30 : mj_dec prog_9_method_14_code 30 = some (.aload_n 1, 1) := by decide +kernel
theorem dm_X7_readDoes_31 : mj_dec prog_9_method_14_code 31 = some (.aload_n 0, 1) := by decide +kernel
theorem dm_X7_readDoes_32 : mj_dec prog_9_method_14_code 32 = some (.getfield 9, 3) := by decide +kernel
theorem dm_X7_readDoes_35 : mj_dec prog_9_method_14_code 35 = some (.aload_n 0, 1) := by decide +kernel
theorem dm_X7_readDoes_36 : mj_dec prog_9_method_14_code 36 = some (.getfield 38, 3) := by decide +kernel
theorem dm_X7_readDoes_39 : mj_dec prog_9_method_14_code 39 = some (.invokevirtual 41, 3) := by decide +kernel
theorem dm_X7_readDoes_42 : mj_dec prog_9_method_14_code 42 = some (.l2i, 1) := by decide +kernel
theorem dm_X7_readDoes_43 : mj_dec prog_9_method_14_code 43 = some (.putfield 112, 3) := by decide +kernel
theorem dm_X7_readDoes_46 : mj_dec prog_9_method_14_code 46 = some (.goto 18, 3) := by decide +kernel
theorem dm_X7_readDoes_49 : mj_dec prog_9_method_14_code 49 = some (.aload_n 1, 1) := by decide +kernel
theorem dm_X7_readDoes_50 : mj_dec prog_9_method_14_code 50 = some (.aload_n 0, 1) := by decide +kernel
theorem dm_X7_readDoes_51 : mj_dec prog_9_method_14_code 51 = some (.getfield 9, 3) := by decide +kernel
theorem dm_X7_readDoes_54 : mj_dec prog_9_method_14_code 54 = some (.aload_n 0, 1) := by decide +kernel
theorem dm_X7_readDoes_55 : mj_dec prog_9_method_14_code 55 = some (.getfield 38, 3) := by decide +kernel
theorem dm_X7_readDoes_58 : mj_dec prog_9_method_14_code 58 = some (.invokevirtual 41, 3) := by decide +kernel
theorem dm_X7_readDoes_61 : mj_dec prog_9_method_14_code 61 = some (.putfield 91, 3) := by decide +kernel
theorem dm_X7_readDoes_64 : mj_dec prog_9_method_14_code 64 = some (.aload_n 0, 1) := by decide +kernel
theorem dm_X7_readDoes_65 : mj_dec prog_9_method_14_code 65 = some (.dup, 1) := by decide +kernel
theorem dm_X7_readDoes_66 : mj_dec prog_9_method_14_code 66 = some (.getfield 38, 3) := by decide +kernel
theorem dm_X7_readDoes_69 : mj_dec prog_9_method_14_code 69 = some (.iconst 1, 1) := by decide +kernel
theorem dm_X7_readDoes_70 : mj_dec prog_9_method_14_code 70 = some (.iadd, 1) := by decide +kernel
theorem dm_X7_readDoes_71 : mj_dec prog_9_method_14_code 71 = some (.putfield 38, 3) := by decide +kernel
theorem dm_X7_readDoes_74 : mj_dec prog_9_method_14_code 74 = some (.iconst 0, 1) := by decide +kernel
theorem dm_X7_readDoes_75 : mj_dec prog_9_method_14_code 75 = some (.istore_n 2, 1) := by decide +kernel
theorem dm_X7_readDoes_76 : mj_dec prog_9_method_14_code 76 = some (.iload_n 2, 1) := by decide +kernel
theorem dm_X7_readDoes_77 : mj_dec prog_9_method_14_code 77 = some (.iconst 4, 1) := by decide +kernel
theorem dm_X7_readDoes_78 : mj_dec prog_9_method_14_code 78 = some (.if_icmp .ge 71, 3) := by decide +kernel
theorem dm_X7_readDoes_81 : mj_dec prog_9_method_14_code 81 = some (.aload_n 0, 1) := by decide +kernel
theorem dm_X7_readDoes_82 : mj_dec prog_9_method_14_code 82 = some (.getfield 9, 3) := by decide +kernel
theorem dm_X7_readDoes_85 : mj_dec prog_9_method_14_code 85 = some (.aload_n 0, 1) := by decide +kernel
theorem dm_X7_readDoes_86 : mj_dec prog_9_method_14_code 86 = some (.getfield 38, 3) := by decide +kernel
theorem dm_X7_readDoes_89 : mj_dec prog_9_method_14_code 89 = some (.invokevirtual 59, 3) := by decide +kernel
theorem dm_X7_readDoes_92 : mj_dec prog_9_method_14_code 92 = some (.bipush 6, 2) := by decide +kernel
theorem dm_X7_readDoes_94 : mj_dec prog_9_method_14_code 94 = some (.if_icmp .ne 55, 3) := by decide +kernel
theorem dm_X7_readDoes_97 : mj_dec prog_9_method_14_code 97 = some (.aload_n 1, 1) := by decide +kernel
theorem dm_X7_readDoes_98 : mj_dec prog_9_method_14_code 98 = some (.dup, 1) := by decide +kernel
theorem dm_X7_readDoes_99 : mj_dec prog_9_method_14_code 99 = some (.getfield 115, 3) := by decide +kernel
theorem dm_X7_readDoes_102 : mj_dec prog_9_method_14_code 102 = some (.aload_n 0, 1) := by decide +kernel
theorem dm_X7_readDoes_103 : mj_dec prog_9_method_14_code 103 = some (.getfield 9, 3) := by decide +kernel
theorem dm_X7_readDoes_106 : mj_dec prog_9_method_14_code 106 = some (.aload_n 0, 1) := by decide +kernel
theorem dm_X7_readDoes_107 : mj_dec prog_9_method_14_code 107 = some (.getfield 38, 3) := by decide +kernel
theorem dm_X7_readDoes_110 : mj_dec prog_9_method_14_code 110 = some (.invokevirtual 41, 3) := by decide +kernel
theorem dm_X7_readDoes_113 : mj_dec prog_9_method_14_code 113 = some (.l2i, 1) := by decide +kernel
theorem dm_X7_readDoes_114 : mj_dec prog_9_method_14_code 114 = some (.bipush 8, 2) := by decide +kernel
theorem dm_X7_readDoes_116 : mj_dec prog_9_method_14_code 116 = some (.iload_n 2, 1) := by decide +kernel
theorem dm_X7_readDoes_117 : mj_dec prog_9_method_14_code 117 = some (.imul, 1) := by decide +kernel
theorem dm_X7_readDoes_118 : mj_dec prog_9_method_14_code 118 = some (.ishl, 1) := by decide +kernel
theorem dm_X7_readDoes_119 : mj_dec prog_9_method_14_code 119 = some (.ior, 1) := by decide +kernel
theorem dm_X7_readDoes_120 : mj_dec prog_9_method_14_code 120 = some (.putfield 115, 3) := by decide +kernel
theorem dm_X7_readDoes_123 : mj_dec prog_9_method_14_code 123 = some (.aload_n 1, 1) := by decide +kernel
theorem dm_X7_readDoes_124 : mj_dec prog_9_method_14_code 124 = some (.dup, 1) := by decide +kernel
theorem dm_X7_readDoes_125 : mj_dec prog_9_method_14_code 125 = some (.getfield 118, 3) := by decide +kernel
theorem dm_X7_readDoes_128 : mj_dec prog_9_method_14_code 128 = some (.iconst 1, 1) := by decide +kernel
theorem dm_X7_readDoes_129 : mj_dec prog_9_method_14_code 129 = some (.iadd, 1) := by decide +kernel
theorem dm_X7_readDoes_130 : mj_dec prog_9_method_14_code 130 = some (.putfield 118, 3) := by decide +kernel
theorem dm_X7_readDoes_133 : mj_dec prog_9_method_14_code 133 = some (.aload_n 0, 1) := by decide +kernel
theorem dm_X7_readDoes_134 : mj_dec prog_9_method_14_code 134 = some (.dup, 1) := by decide +kernel
theorem dm_X7_readDoes_135 : mj_dec prog_9_method_14_code 135 = some (.getfield 38, 3) := by decide +kernel
theorem dm_X7_readDoes_138 : mj_dec prog_9_method_14_code 138 = some (.iconst 1, 1) := by decide +kernel
theorem dm_X7_readDoes_139 : mj_dec prog_9_method_14_code 139 = some (.iadd, 1) := by decide +kernel
theorem dm_X7_readDoes_140 : mj_dec prog_9_method_14_code 140 = some (.putfield 38, 3) := by decide +kernel
theorem dm_X7_readDoes_143 : mj_dec prog_9_method_14_code 143 = some (.iinc 2 1, 3) := by decide +kernel
theorem dm_X7_readDoes_146 : mj_dec prog_9_method_14_code 146 = some (.goto (-70), 3) := by decide +kernel
theorem dm_X7_readDoes_149 : mj_dec prog_9_method_14_code 149 = some (.return_, 1) := by decide +kernel
theorem d_readDoes {xt : mj_X} {d mk ln i : Nat} {T : Nat → Tok} {wr ls : Int} {nm : Int64} {st tl : Value} {h : mj_H} (hd : 2 ≤ d) (hK : TOKS T mk ln) (hT : TT h T mk ln) (h13 : h[13]? = some (rdC (i : Int) wr ls nm st tl)) {p : Nat} {dd : Int} {nx : Value} (hds0 : isDs T i) (hp : h[p]? = some (opC dd 0 0 (Int64.ofInt 0) 0 0 0 .null nx .null)) (hp13 : 13 ≠ p) (hp2 : 14 ≤ p) : pgN xt d 43 [.ref 13, .ref p] h (fun h' => h'[p]? = some (doC T i dd nx) ∧ h'[13]? = some (rdC ((dsE T i : Nat) : Int) wr ls nm st tl) ∧ W2 h h' p) := by
  obtain ⟨le_, gd, sf, pf, bf, df, hk9, -, -, -, -, -, -⟩ := id hT
  have h9 := hk9.1
  have hmk200 := hK.1
  have hlt := (dsE_mk hK hds0).1
  have c5 := (cS_7 T i).2.1
  have c8 := cS_r hK i
  refine x_enter pm_X7_readDoes (L0 := [(0, .ref 13), (1, .ref p)]) rfl (Nat.le_of_ble_eq_true rfl) (by omega) ?_
  refine me1 (pc' := 1) (L' := [(0, .ref 13), (1, .ref p)]) (S' := [.ref p]) dm_X7_readDoes_0 rfl rfl rfl rfl ?_
  refine me1 (pc' := 2) (L' := [(0, .ref 13), (1, .ref p)]) (S' := [.ref 13, .ref p]) dm_X7_readDoes_1 rfl rfl rfl rfl ?_
  refine me3 (pc' := 5) (S' := [.ref 9, .ref p]) dm_X7_readDoes_2 (g_get (v := .ref 9) h13 rfl rfl (by decide)) rfl rfl rfl ?_
  refine me1 (pc' := 6) (L' := [(0, .ref 13), (1, .ref p)]) (S' := [.ref 13, .ref 9, .ref p]) dm_X7_readDoes_5 rfl rfl rfl rfl ?_
  refine me3 (pc' := 9) (S' := [ii (i : Int), .ref 9, .ref p]) dm_X7_readDoes_6 (g_get (v := ii (i : Int)) h13 rfl rfl (by decide)) rfl rfl rfl ?_
  refine x_cp (pc' := 12) (v := ii (tqP (T i) : Int)) (rest := [.ref p]) dm_X7_readDoes_9 rfl (g_inv (As := [ii (i : Int)]) (S := [.ref p]) h9 rfl rfl rfl (by decide)) rfl rfl rfl (tt_place (i := i) (by omega) hK hT (by omega)) ?_
  refine me3 (pc' := 15) (S' := []) (h1 := (h).set p (cO 4 [ii dd, ii (tqP (T i) : Int), ii 0, .long (Int64.ofInt 0), ii 0, ii 0, ii 0, .null, nx, .null])) dm_X7_readDoes_12 (g_put (fs' := [ii dd, ii (tqP (T i) : Int), ii 0, .long (Int64.ofInt 0), ii 0, ii 0, ii 0, .null, nx, .null]) hp rfl rfl rfl (by simp) rfl (by decide) (fun z => by cases z) (by omega)) rfl rfl rfl ?_
  have jn64 : ∀ y0 : mj_H, (y0[p]? = some (cO 4 [ii dd, ii (tqP (T i) : Int), ii (if tqS (T i) = 5 then tqD (T i) else 0), .long (if tqS (T i) = 5 then Int64.ofInt 0 else Int64.ofInt (tqD (T i))), ii 0, ii 0, ii 0, .null, nx, .null])) → (y0[13]? = some (cO 7 [.ref 9, ii (i : Int), ii wr, ii ls, .long nm, st, tl])) → (y0[9]? = some (cO 8 [.ref 10, .ref 11, .ref 12, ii ((mk + 1 : Nat) : Int), ii le_, .ref 3, .ref 4, ii (ln : Int), zz gd])) → TT y0 T mk ln → W2 h y0 p → pgE xt (d - 1) 7 3 false (Option.none : Option Jvm.ClassFile.FieldType) (mj_dec prog_9_method_14_code) 64 [(0, .ref 13), (1, .ref p)] [] y0 (fun r h' => r = none ∧ h'[p]? = some (doC T i dd nx) ∧ h'[13]? = some (rdC ((dsE T i : Nat) : Int) wr ls nm st tl) ∧ W2 h h' p) := by
    intro y0 y0_p y0_13 y0_9 y0T y0W
    refine me1 (pc' := 65) (L' := [(0, .ref 13), (1, .ref p)]) (S' := [.ref 13]) dm_X7_readDoes_64 rfl rfl rfl rfl ?_
    refine me0 (pc' := 66) (S' := [.ref 13, .ref 13]) dm_X7_readDoes_65 rfl rfl rfl rfl ?_
    refine me3 (pc' := 69) (S' := [ii (i : Int), .ref 13]) dm_X7_readDoes_66 (g_get (v := ii (i : Int)) y0_13 rfl rfl (by decide)) rfl rfl rfl ?_
    refine me0 (pc' := 70) (S' := [ii 1, ii (i : Int), .ref 13]) dm_X7_readDoes_69 rfl rfl rfl rfl ?_
    refine y_iadd (a := (i : Int)) (b := 1) dm_X7_readDoes_70 (pc' := 71) rfl ?_
    refine pg_st (S' := [ii ((i + 1 : Nat) : Int), .ref 13]) (congrArg (fun z => ii z :: [.ref 13]) (by omega)) ?_
    refine me3 (pc' := 74) (S' := []) (h1 := (y0).set 13 (cO 7 [.ref 9, ii ((i + 1 : Nat) : Int), ii wr, ii ls, .long nm, st, tl])) dm_X7_readDoes_71 (g_put (fs' := [.ref 9, ii ((i + 1 : Nat) : Int), ii wr, ii ls, .long nm, st, tl]) y0_13 rfl rfl rfl (by simp) rfl (by decide) (fun z => by cases z) (by decide)) rfl rfl rfl ?_
    refine me0 (pc' := 75) (S' := [ii 0]) dm_X7_readDoes_74 rfl rfl rfl rfl ?_
    refine me1 (pc' := 76) (L' := [(2, ii 0), (0, .ref 13), (1, .ref p)]) (S' := []) dm_X7_readDoes_75 rfl rfl rfl rfl ?_
    obtain ⟨yn, yne⟩ : ∃ yn, yn = ((y0).set 13 (cO 7 [.ref 9, ii ((i + 1 : Nat) : Int), ii wr, ii ls, .long nm, st, tl])) := ⟨_, rfl⟩
    have yn_13 : yn[13]? = some (cO 7 [.ref 9, ii ((i + 1 + 0 : Nat) : Int), ii wr, ii ls, .long nm, st, tl]) := by rw [yne]; exact (hl_set (hl_lt y0_13))
    have yn_9 : yn[9]? = some (cO 8 [.ref 10, .ref 11, .ref 12, ii ((mk + 1 : Nat) : Int), ii le_, .ref 3, .ref 4, ii (ln : Int), zz gd]) := by rw [yne]; exact (hl_ne (by decide) y0_9)
    have yn_k0 : yn[p]? = some (cO 4 [ii dd, ii (tqP (T i) : Int), ii (if tqS (T i) = 5 then tqD (T i) else 0), .long (if tqS (T i) = 5 then Int64.ofInt 0 else Int64.ofInt (tqD (T i))), ii (avJ T (i + 1) 0), ii ((0 : Nat) : Int), ii 0, .null, nx, .null]) := by rw [yne]; exact (hl_ne (Ne.symm hp13) y0_p)
    have ynT : TT yn T mk ln := by rw [yne]; exact (TT_set (by omega) y0T)
    refine pg_cast (h2 := yn) yne.symm ?_
    have ynW : W2 h yn p := by rw [yne]; exact (W2_set (a := 13) (by omega) y0_13 rfl y0W)
    have lp76 : ∀ (n76 : Nat) (c : Nat) (y : mj_H), 5 - c = n76 → (y[p]? = some (cO 4 [ii dd, ii (tqP (T i) : Int), ii (if tqS (T i) = 5 then tqD (T i) else 0), .long (if tqS (T i) = 5 then Int64.ofInt 0 else Int64.ofInt (tqD (T i))), ii (avJ T (i + 1) c), ii ((c : Nat) : Int), ii 0, .null, nx, .null])) → (y[13]? = some (cO 7 [.ref 9, ii ((i + 1 + c : Nat) : Int), ii wr, ii ls, .long nm, st, tl])) → (y[9]? = some (cO 8 [.ref 10, .ref 11, .ref 12, ii ((mk + 1 : Nat) : Int), ii le_, .ref 3, .ref 4, ii (ln : Int), zz gd])) → (TT y T mk ln) → (W2 h y p) → (c ≤ 4 ∧ i + 1 + c ≤ mk) → (∀ j, j < c → tqS (T (i + 1 + j)) = 6) → pgE xt (d - 1) 7 3 false (Option.none : Option Jvm.ClassFile.FieldType) (mj_dec prog_9_method_14_code) 76 [(0, .ref 13), (1, .ref p), (2, ii ((c : Nat) : Int))] [] y (fun r h' => r = none ∧ h'[p]? = some (doC T i dd nx) ∧ h'[13]? = some (rdC ((dsE T i : Nat) : Int) wr ls nm st tl) ∧ W2 h h' p) := by
      intro n76
      induction n76 using Nat.strongRecOn with
      | ind n76 ih76 =>
        intro c y hm76 y_p y_13 y_9 yT yW hc4 hav
        have c8 := cS_r hK (i + 1 + c)
        have c6 := (cS_7 T (i + 1 + c)).2.2.2.2.2.2.1
        refine me1 (pc' := 77) (L' := [(0, .ref 13), (1, .ref p), (2, ii ((c : Nat) : Int))]) (S' := [ii ((c : Nat) : Int)]) dm_X7_readDoes_76 rfl rfl rfl rfl ?_
        refine me0 (pc' := 78) (S' := [ii 4, ii ((c : Nat) : Int)]) dm_X7_readDoes_77 rfl rfl rfl rfl ?_
        refine y_2ge (a := ((c : Nat) : Int)) (b := 4) (t := 149) (pc' := 81) dm_X7_readDoes_78 rfl rfl (by omega) (fun hb1 => ?_) (fun hb1 => ?_)
        · have hn : soN T 6 4 (i + 1) = c := soN_eq 4 (i + 1) c hc4.1 hav (Or.inl (by omega))
          refine y_ret (r := none) dm_X7_readDoes_149 rfl rfl rfl ?_
          have hds : dsE T i = i + 1 + c := by show i + 1 + soN T 6 4 (i + 1) = _; rw [hn]
          refine ⟨rfl, ?_, ?_, yW⟩
          · unfold doC avM; rw [hn, avJ_I hc4.1]
            exact y_p
          · rw [hds]
            exact y_13
        · refine me1 (pc' := 82) (L' := [(0, .ref 13), (1, .ref p), (2, ii ((c : Nat) : Int))]) (S' := [.ref 13]) dm_X7_readDoes_81 rfl rfl rfl rfl ?_
          refine me3 (pc' := 85) (S' := [.ref 9]) dm_X7_readDoes_82 (g_get (v := .ref 9) y_13 rfl rfl (by decide)) rfl rfl rfl ?_
          refine me1 (pc' := 86) (L' := [(0, .ref 13), (1, .ref p), (2, ii ((c : Nat) : Int))]) (S' := [.ref 13, .ref 9]) dm_X7_readDoes_85 rfl rfl rfl rfl ?_
          refine me3 (pc' := 89) (S' := [ii ((i + 1 + c : Nat) : Int), .ref 9]) dm_X7_readDoes_86 (g_get (v := ii ((i + 1 + c : Nat) : Int)) y_13 rfl rfl (by decide)) rfl rfl rfl ?_
          refine x_cp (pc' := 92) (v := ii ((cS T (i + 1 + c) : Nat) : Int)) (rest := []) dm_X7_readDoes_89 rfl (g_inv (As := [ii ((i + 1 + c : Nat) : Int)]) (S := []) y_9 rfl rfl rfl (by decide)) rfl rfl rfl (tt_sort (i := i + 1 + c) (by omega) hK yT (by omega)) ?_
          refine me0 (pc' := 94) (S' := [ii 6, ii ((cS T (i + 1 + c) : Nat) : Int)]) dm_X7_readDoes_92 rfl rfl rfl rfl ?_
          refine y_2ne (a := ((cS T (i + 1 + c) : Nat) : Int)) (b := 6) (t := 149) (pc' := 97) dm_X7_readDoes_94 rfl rfl (by omega) (fun hb2 => ?_) (fun hb2 => ?_)
          · have hn : soN T 6 4 (i + 1) = c := soN_eq 4 (i + 1) c hc4.1 hav (Or.inr (fun z => hb2 (by have := c6.mpr z; omega)))
            refine y_ret (r := none) dm_X7_readDoes_149 rfl rfl rfl ?_
            have hds : dsE T i = i + 1 + c := by show i + 1 + soN T 6 4 (i + 1) = _; rw [hn]
            refine ⟨rfl, ?_, ?_, yW⟩
            · unfold doC avM; rw [hn, avJ_I hc4.1]
              exact y_p
            · rw [hds]
              exact y_13
          · have h6 : tqS (T (i + 1 + c)) = 6 := c6.mp (by omega)
            have hil := TOKS_lt hK (i := i + 1 + c) (by omega)
            have hdd := hK.2.2.2.2.2.2.2.2.2.1 (i + 1 + c) (Or.inr (Or.inl h6))
            have hvr := avJ_r (T := T) (i := i + 1) c (fun j hj => hK.2.2.2.2.2.2.2.2.2.1 (i + 1 + j) (Or.inr (Or.inl (hav j hj))))
            have hpr := p256_r (c := c) (by omega)
            have hmx : tqD (T (i + 1 + c)) * 256 ^ c ≤ 126 * 16777216 := Int.le_trans (Int.mul_le_mul_of_nonneg_right hdd.2 (by omega)) (by omega)
            refine me1 (pc' := 98) (L' := [(0, .ref 13), (1, .ref p), (2, ii ((c : Nat) : Int))]) (S' := [.ref p]) dm_X7_readDoes_97 rfl rfl rfl rfl ?_
            refine me0 (pc' := 99) (S' := [.ref p, .ref p]) dm_X7_readDoes_98 rfl rfl rfl rfl ?_
            refine me3 (pc' := 102) (S' := [ii (avJ T (i + 1) c), .ref p]) dm_X7_readDoes_99 (g_get (v := ii (avJ T (i + 1) c)) y_p rfl rfl (by omega)) rfl rfl rfl ?_
            refine me1 (pc' := 103) (L' := [(0, .ref 13), (1, .ref p), (2, ii ((c : Nat) : Int))]) (S' := [.ref 13, ii (avJ T (i + 1) c), .ref p]) dm_X7_readDoes_102 rfl rfl rfl rfl ?_
            refine me3 (pc' := 106) (S' := [.ref 9, ii (avJ T (i + 1) c), .ref p]) dm_X7_readDoes_103 (g_get (v := .ref 9) y_13 rfl rfl (by decide)) rfl rfl rfl ?_
            refine me1 (pc' := 107) (L' := [(0, .ref 13), (1, .ref p), (2, ii ((c : Nat) : Int))]) (S' := [.ref 13, .ref 9, ii (avJ T (i + 1) c), .ref p]) dm_X7_readDoes_106 rfl rfl rfl rfl ?_
            refine me3 (pc' := 110) (S' := [ii ((i + 1 + c : Nat) : Int), .ref 9, ii (avJ T (i + 1) c), .ref p]) dm_X7_readDoes_107 (g_get (v := ii ((i + 1 + c : Nat) : Int)) y_13 rfl rfl (by decide)) rfl rfl rfl ?_
            refine x_cp (pc' := 113) (v := .long (Int64.ofInt (tqD (T (i + 1 + c))))) (rest := [ii (avJ T (i + 1) c), .ref p]) dm_X7_readDoes_110 rfl (g_inv (As := [ii ((i + 1 + c : Nat) : Int)]) (S := [ii (avJ T (i + 1) c), .ref p]) y_9 rfl rfl rfl (by decide)) rfl rfl rfl (tt_data (i := i + 1 + c) (by omega) hK yT (by omega)) ?_
            refine y_l2i (a := tqD (T (i + 1 + c))) dm_X7_readDoes_113 (pc' := 114) rfl (by rw [Int64.toInt32_ofInt]) ?_
            refine me0 (pc' := 116) (S' := [ii 8, ii (tqD (T (i + 1 + c))), ii (avJ T (i + 1) c), .ref p]) dm_X7_readDoes_114 rfl rfl rfl rfl ?_
            refine me1 (pc' := 117) (L' := [(0, .ref 13), (1, .ref p), (2, ii ((c : Nat) : Int))]) (S' := [ii ((c : Nat) : Int), ii 8, ii (tqD (T (i + 1 + c))), ii (avJ T (i + 1) c), .ref p]) dm_X7_readDoes_116 rfl rfl rfl rfl ?_
            refine y_imul (a := 8) (b := ((c : Nat) : Int)) dm_X7_readDoes_117 (pc' := 118) rfl ?_
            refine y_shlM (a := tqD (T (i + 1 + c))) (n := 8 * ((c : Nat) : Int)) (k := 8 * c) (m := 256 ^ c) dm_X7_readDoes_118 (pc' := 119) rfl (by push_cast; rfl) (by omega) (p28 c) ?_
            refine y_orM (a := avJ T (i + 1) c) (b := (tqD (T (i + 1 + c))) * 256 ^ c) (c := tqD (T (i + 1 + c))) (m := 256 ^ c) (k := 8 * c) dm_X7_readDoes_119 (pc' := 120) rfl (p28 c) rfl (by omega) (by omega) (by omega) (by omega) ?_
            refine me3 (pc' := 123) (S' := []) (h1 := (y).set p (cO 4 [ii dd, ii (tqP (T i) : Int), ii (if tqS (T i) = 5 then tqD (T i) else 0), .long (if tqS (T i) = 5 then Int64.ofInt 0 else Int64.ofInt (tqD (T i))), ii ((avJ T (i + 1) c) + ((tqD (T (i + 1 + c))) * 256 ^ c)), ii ((c : Nat) : Int), ii 0, .null, nx, .null])) dm_X7_readDoes_120 (g_put (fs' := [ii dd, ii (tqP (T i) : Int), ii (if tqS (T i) = 5 then tqD (T i) else 0), .long (if tqS (T i) = 5 then Int64.ofInt 0 else Int64.ofInt (tqD (T i))), ii ((avJ T (i + 1) c) + ((tqD (T (i + 1 + c))) * 256 ^ c)), ii ((c : Nat) : Int), ii 0, .null, nx, .null]) y_p rfl rfl rfl (by simp) rfl (by decide) (fun z => by cases z) (by omega)) rfl rfl rfl ?_
            refine me1 (pc' := 124) (L' := [(0, .ref 13), (1, .ref p), (2, ii ((c : Nat) : Int))]) (S' := [.ref p]) dm_X7_readDoes_123 rfl rfl rfl rfl ?_
            refine me0 (pc' := 125) (S' := [.ref p, .ref p]) dm_X7_readDoes_124 rfl rfl rfl rfl ?_
            refine me3 (pc' := 128) (S' := [ii ((c : Nat) : Int), .ref p]) dm_X7_readDoes_125 (g_get (v := ii ((c : Nat) : Int)) (hl_set (hl_lt y_p)) rfl rfl (by omega)) rfl rfl rfl ?_
            refine me0 (pc' := 129) (S' := [ii 1, ii ((c : Nat) : Int), .ref p]) dm_X7_readDoes_128 rfl rfl rfl rfl ?_
            refine y_iadd (a := ((c : Nat) : Int)) (b := 1) dm_X7_readDoes_129 (pc' := 130) rfl ?_
            refine pg_st (S' := [ii ((c + 1 : Nat) : Int), .ref p]) (congrArg (fun z => ii z :: [.ref p]) (by push_cast; rfl)) ?_
            refine me3 (pc' := 133) (S' := []) (h1 := (y).set p (cO 4 [ii dd, ii (tqP (T i) : Int), ii (if tqS (T i) = 5 then tqD (T i) else 0), .long (if tqS (T i) = 5 then Int64.ofInt 0 else Int64.ofInt (tqD (T i))), ii ((avJ T (i + 1) c) + ((tqD (T (i + 1 + c))) * 256 ^ c)), ii ((c + 1 : Nat) : Int), ii 0, .null, nx, .null])) dm_X7_readDoes_130 (g_put (fs' := [ii dd, ii (tqP (T i) : Int), ii (if tqS (T i) = 5 then tqD (T i) else 0), .long (if tqS (T i) = 5 then Int64.ofInt 0 else Int64.ofInt (tqD (T i))), ii ((avJ T (i + 1) c) + ((tqD (T (i + 1 + c))) * 256 ^ c)), ii ((c + 1 : Nat) : Int), ii 0, .null, nx, .null]) (hl_set (hl_lt y_p)) rfl (by rw [List.set_set]) rfl (by simp) rfl (by decide) (fun z => by cases z) (by omega)) rfl rfl rfl ?_
            refine me1 (pc' := 134) (L' := [(0, .ref 13), (1, .ref p), (2, ii ((c : Nat) : Int))]) (S' := [.ref 13]) dm_X7_readDoes_133 rfl rfl rfl rfl ?_
            refine me0 (pc' := 135) (S' := [.ref 13, .ref 13]) dm_X7_readDoes_134 rfl rfl rfl rfl ?_
            refine me3 (pc' := 138) (S' := [ii ((i + 1 + c : Nat) : Int), .ref 13]) dm_X7_readDoes_135 (g_get (v := ii ((i + 1 + c : Nat) : Int)) (hl_ne hp13 y_13) rfl rfl (by decide)) rfl rfl rfl ?_
            refine me0 (pc' := 139) (S' := [ii 1, ii ((i + 1 + c : Nat) : Int), .ref 13]) dm_X7_readDoes_138 rfl rfl rfl rfl ?_
            refine y_iadd (a := ((i + 1 + c : Nat) : Int)) (b := 1) dm_X7_readDoes_139 (pc' := 140) rfl ?_
            refine pg_st (S' := [ii ((i + 1 + (c + 1) : Nat) : Int), .ref 13]) (congrArg (fun z => ii z :: [.ref 13]) (by push_cast; omega)) ?_
            refine me3 (pc' := 143) (S' := []) (h1 := ((y).set p (cO 4 [ii dd, ii (tqP (T i) : Int), ii (if tqS (T i) = 5 then tqD (T i) else 0), .long (if tqS (T i) = 5 then Int64.ofInt 0 else Int64.ofInt (tqD (T i))), ii ((avJ T (i + 1) c) + ((tqD (T (i + 1 + c))) * 256 ^ c)), ii ((c + 1 : Nat) : Int), ii 0, .null, nx, .null])).set 13 (cO 7 [.ref 9, ii ((i + 1 + (c + 1) : Nat) : Int), ii wr, ii ls, .long nm, st, tl])) dm_X7_readDoes_140 (g_put (fs' := [.ref 9, ii ((i + 1 + (c + 1) : Nat) : Int), ii wr, ii ls, .long nm, st, tl]) (hl_ne hp13 y_13) rfl rfl rfl (by simp) rfl (by decide) (fun z => by cases z) (by decide)) rfl rfl rfl ?_
            refine y_iinc (pc' := 146) (L' := [(2, ii (((c : Nat) : Int) + 1)), (0, .ref 13), (1, .ref p)]) dm_X7_readDoes_143 (y_incp (a := ((c : Nat) : Int)) (c := 1) rfl rfl (by decide)) rfl ?_
            refine me2 (pc' := 76) (S' := []) dm_X7_readDoes_146 rfl rfl rfl ?_
            obtain ⟨ym, yme⟩ : ∃ ym, ym = (((y).set p (cO 4 [ii dd, ii (tqP (T i) : Int), ii (if tqS (T i) = 5 then tqD (T i) else 0), .long (if tqS (T i) = 5 then Int64.ofInt 0 else Int64.ofInt (tqD (T i))), ii ((avJ T (i + 1) c) + ((tqD (T (i + 1 + c))) * 256 ^ c)), ii ((c + 1 : Nat) : Int), ii 0, .null, nx, .null])).set 13 (cO 7 [.ref 9, ii ((i + 1 + (c + 1) : Nat) : Int), ii wr, ii ls, .long nm, st, tl])) := ⟨_, rfl⟩
            have ym_13 : ym[13]? = some (cO 7 [.ref 9, ii ((i + 1 + (c + 1) : Nat) : Int), ii wr, ii ls, .long nm, st, tl]) := by rw [yme]; exact (hl_set (hl_lt (hl_ne hp13 y_13)))
            have ym_9 : ym[9]? = some (cO 8 [.ref 10, .ref 11, .ref 12, ii ((mk + 1 : Nat) : Int), ii le_, .ref 3, .ref 4, ii (ln : Int), zz gd]) := by rw [yme]; exact (hl_ne (by decide) (hl_ne (by omega) y_9))
            have ym_k0 : ym[p]? = some (cO 4 [ii dd, ii (tqP (T i) : Int), ii (if tqS (T i) = 5 then tqD (T i) else 0), .long (if tqS (T i) = 5 then Int64.ofInt 0 else Int64.ofInt (tqD (T i))), ii (avJ T (i + 1) (c + 1)), ii ((c + 1 : Nat) : Int), ii 0, .null, nx, .null]) := by rw [yme]; exact (hl_ne (Ne.symm hp13) (hl_set (hl_lt y_p)))
            have ymT : TT ym T mk ln := by rw [yme]; exact (TT_set (by omega) (TT_set (by omega) yT))
            refine pg_cast (h2 := ym) yme.symm ?_
            have ymW : W2 h ym p := by rw [yme]; exact (W2_set (a := 13) (by omega) (hl_ne hp13 y_13) rfl (W2_set (a := p) (by omega) y_p rfl yW))
            exact pg_sub (L := [(0, .ref 13), (1, .ref p), (2, ii (((c + 1) : Nat) : Int))]) rfl rfl rfl (ih76 (5 - (c + 1)) (by omega) (c + 1) ym rfl ym_k0 ym_13 ym_9 ymT ymW ⟨by omega, by omega⟩ (fun j hj => by by_cases z : j = c; (rw [z]; exact h6); exact hav j (by omega)))
    exact pg_sub (L := [(0, .ref 13), (1, .ref p), (2, ii ((0 : Nat) : Int))]) rfl rfl rfl (lp76 _ 0 yn rfl yn_k0 yn_13 yn_9 ynT ynW ⟨by decide, by omega⟩ (fun j hj => absurd hj (by omega)))
  refine me1 (pc' := 16) (L' := [(0, .ref 13), (1, .ref p)]) (S' := [.ref 13]) dm_X7_readDoes_15 rfl rfl rfl rfl ?_
  refine me3 (pc' := 19) (S' := [.ref 9]) dm_X7_readDoes_16 (g_get (v := .ref 9) (hl_ne hp13 h13) rfl rfl (by decide)) rfl rfl rfl ?_
  refine me1 (pc' := 20) (L' := [(0, .ref 13), (1, .ref p)]) (S' := [.ref 13, .ref 9]) dm_X7_readDoes_19 rfl rfl rfl rfl ?_
  refine me3 (pc' := 23) (S' := [ii (i : Int), .ref 9]) dm_X7_readDoes_20 (g_get (v := ii (i : Int)) (hl_ne hp13 h13) rfl rfl (by decide)) rfl rfl rfl ?_
  refine x_cp (pc' := 26) (v := ii ((cS T i : Nat) : Int)) (rest := []) dm_X7_readDoes_23 rfl (g_inv (As := [ii (i : Int)]) (S := []) (hl_ne (by omega) h9) rfl rfl rfl (by decide)) rfl rfl rfl (tt_sort (i := i) (by omega) hK (TT_set (by omega) hT) (by omega)) ?_
  refine me0 (pc' := 27) (S' := [ii 5, ii ((cS T i : Nat) : Int)]) dm_X7_readDoes_26 rfl rfl rfl rfl ?_
  refine y_2ne (a := ((cS T i : Nat) : Int)) (b := 5) (t := 49) (pc' := 30) dm_X7_readDoes_27 rfl rfl (by omega) (fun hb3 => ?_) (fun hb3 => ?_)
  · have hs5 : ¬ tqS (T i) = 5 := by omega
    refine me1 (pc' := 50) (L' := [(0, .ref 13), (1, .ref p)]) (S' := [.ref p]) dm_X7_readDoes_49 rfl rfl rfl rfl ?_
    refine me1 (pc' := 51) (L' := [(0, .ref 13), (1, .ref p)]) (S' := [.ref 13, .ref p]) dm_X7_readDoes_50 rfl rfl rfl rfl ?_
    refine me3 (pc' := 54) (S' := [.ref 9, .ref p]) dm_X7_readDoes_51 (g_get (v := .ref 9) (hl_ne hp13 h13) rfl rfl (by decide)) rfl rfl rfl ?_
    refine me1 (pc' := 55) (L' := [(0, .ref 13), (1, .ref p)]) (S' := [.ref 13, .ref 9, .ref p]) dm_X7_readDoes_54 rfl rfl rfl rfl ?_
    refine me3 (pc' := 58) (S' := [ii (i : Int), .ref 9, .ref p]) dm_X7_readDoes_55 (g_get (v := ii (i : Int)) (hl_ne hp13 h13) rfl rfl (by decide)) rfl rfl rfl ?_
    refine x_cp (pc' := 61) (v := .long (Int64.ofInt (tqD (T i)))) (rest := [.ref p]) dm_X7_readDoes_58 rfl (g_inv (As := [ii (i : Int)]) (S := [.ref p]) (hl_ne (by omega) h9) rfl rfl rfl (by decide)) rfl rfl rfl (tt_data (i := i) (by omega) hK (TT_set (by omega) hT) (by omega)) ?_
    refine me3 (pc' := 64) (S' := []) (h1 := (h).set p (cO 4 [ii dd, ii (tqP (T i) : Int), ii 0, .long (Int64.ofInt (tqD (T i))), ii 0, ii 0, ii 0, .null, nx, .null])) dm_X7_readDoes_61 (g_put (fs' := [ii dd, ii (tqP (T i) : Int), ii 0, .long (Int64.ofInt (tqD (T i))), ii 0, ii 0, ii 0, .null, nx, .null]) (hl_set (hl_lt hp)) rfl (by rw [List.set_set]) rfl (by simp) rfl (by decide) (fun z => by cases z) (by omega)) rfl rfl rfl ?_
    exact pg_sub (L := [(0, .ref 13), (1, .ref p)]) rfl rfl rfl (jn64 _ (by rw [if_neg hs5, if_neg hs5]; exact (hl_set (hl_lt hp))) (hl_ne hp13 h13) (hl_ne (by omega) h9) (TT_set (by omega) hT) (W2_set (a := p) (by omega) hp rfl (W2_rf _ _)))
  · have hs5 : tqS (T i) = 5 := by omega
    refine me1 (pc' := 31) (L' := [(0, .ref 13), (1, .ref p)]) (S' := [.ref p]) dm_X7_readDoes_30 rfl rfl rfl rfl ?_
    refine me1 (pc' := 32) (L' := [(0, .ref 13), (1, .ref p)]) (S' := [.ref 13, .ref p]) dm_X7_readDoes_31 rfl rfl rfl rfl ?_
    refine me3 (pc' := 35) (S' := [.ref 9, .ref p]) dm_X7_readDoes_32 (g_get (v := .ref 9) (hl_ne hp13 h13) rfl rfl (by decide)) rfl rfl rfl ?_
    refine me1 (pc' := 36) (L' := [(0, .ref 13), (1, .ref p)]) (S' := [.ref 13, .ref 9, .ref p]) dm_X7_readDoes_35 rfl rfl rfl rfl ?_
    refine me3 (pc' := 39) (S' := [ii (i : Int), .ref 9, .ref p]) dm_X7_readDoes_36 (g_get (v := ii (i : Int)) (hl_ne hp13 h13) rfl rfl (by decide)) rfl rfl rfl ?_
    refine x_cp (pc' := 42) (v := .long (Int64.ofInt (tqD (T i)))) (rest := [.ref p]) dm_X7_readDoes_39 rfl (g_inv (As := [ii (i : Int)]) (S := [.ref p]) (hl_ne (by omega) h9) rfl rfl rfl (by decide)) rfl rfl rfl (tt_data (i := i) (by omega) hK (TT_set (by omega) hT) (by omega)) ?_
    refine y_l2i (a := tqD (T i)) dm_X7_readDoes_42 (pc' := 43) rfl (by rw [Int64.toInt32_ofInt]) ?_
    refine me3 (pc' := 46) (S' := []) (h1 := (h).set p (cO 4 [ii dd, ii (tqP (T i) : Int), ii (tqD (T i)), .long (Int64.ofInt 0), ii 0, ii 0, ii 0, .null, nx, .null])) dm_X7_readDoes_43 (g_put (fs' := [ii dd, ii (tqP (T i) : Int), ii (tqD (T i)), .long (Int64.ofInt 0), ii 0, ii 0, ii 0, .null, nx, .null]) (hl_set (hl_lt hp)) rfl (by rw [List.set_set]) rfl (by simp) rfl (by decide) (fun z => by cases z) (by omega)) rfl rfl rfl ?_
    refine me2 (pc' := 64) (S' := []) dm_X7_readDoes_46 rfl rfl rfl ?_
    exact pg_sub (L := [(0, .ref 13), (1, .ref p)]) rfl rfl rfl (jn64 _ (by rw [if_pos hs5, if_pos hs5]; exact (hl_set (hl_lt hp))) (hl_ne hp13 h13) (hl_ne (by omega) h9) (TT_set (by omega) hT) (W2_set (a := p) (by omega) hp rfl (W2_rf _ _)))
