/-! reading: what is passed from call to call -/
theorem okA_len {A : Nat → Prop} {h g : mj_H} (hA : okA A h) (hl : h.length ≤ g.length) : okA A g := fun a x => ⟨Nat.lt_of_lt_of_le (hA a x).1 hl, (hA a x).2⟩
theorem kp_rd {A : Nat → Prop} {h g k z : mj_H} {p : Nat} (hA : okA A h) (hl : 127 ≤ h.length) (hg : h.length ≤ g.length) (hkz : rdF k z p) (hp : p = 13 ∨ (p < g.length ∧ ¬ A p)) : kpA (newA A g k) k (newA A h z) z := by
  intro a e x y
  have hlt : a < k.length := hl_lt y
  have h13 : a ≠ 13 := by
    rcases x with x | x
    · have := hA a x; omega
    · have := x.1; omega
  have hap : a ≠ p := by
    rcases hp with z | z
    · omega
    · rcases x with x | x
      · intro w; rw [w] at x; exact z.2 x
      · have := x.1; omega
  refine ⟨?_, by rw [hkz.2 a hlt h13 hap]; exact y⟩
  rcases x with x | x
  · exact Or.inl x
  · exact Or.inr ⟨by have := x.1; omega, Nat.lt_of_lt_of_le hlt hkz.1⟩
/-- the contract of expr, for one fuel -/
def EX (xt : mj_X) (T : Nat → Tok) (mk ln f : Nat) (ls : Int) (nm : Int64) (st : Value) : Prop := ∀ (d : Nat) (h : mj_H) (A : Nat → Prop) (i o : Nat) (b : Option Nat) (wr : Int) (tl : Value), 4 * (12 - o) + 10 ≤ d → 127 ≤ h.length → okA A h → TT h T mk ln → h[13]? = some (rdC (i : Int) wr ls nm st tl) → i ≤ mk → o ≤ 12 → 8 * (mk - i) + 6 ≤ f → pgV xt d 41 [.ref 13, oV b, ii (o : Int)] h (RX A h T ln f 0 o i b ls nm st)
/-- the parts of a list that are read; g0 is the Op that gathers -/
def LI (A : Nat → Prop) (h : mj_H) (T : Nat → Tok) (mk ln f o i : Nat) (b : Option Nat) (ls : Int) (nm : Int64) (st : Value) (n a g ft : Nat) (z : mj_H) (wr : Int) (tl : Value) (pl : Int) : Prop :=
  z[13]? = some (rdC (a : Int) wr ls nm st tl) ∧ z[h.length]? = some (opC 5 pl 0 (Int64.ofInt 0) 0 0 (n : Int) .null (oV b) .null) ∧ rdF h z 13 ∧ h.length + 1 ≤ z.length ∧ (i ≤ a ∧ a ≤ mk) ∧ n ≤ a - i ∧ (8 * (mk - a) + 7 ≤ g + 1 ∧ g ≤ f) ∧ pR T (f + 1) 4 o i = pR T (g + 1) 4 o a ∧ plN T (f + 1) o i = n + plN T (g + 1) o a ∧ z.length + 4 * tqP (T i) ≤ h.length + 1 + 4 * tqP (T a) ∧ mj_sl z + 40 * tqP (T i) ≤ mj_sl h + 10 + 40 * tqP (T a) ∧ (∀ A' z' op, kpA (fun x => newA A h z x ∧ x ≠ h.length) z A' z' → cR A' z' T (g + 1) 4 o a op (some ft) 0 0 → cR A' z' T (f + 1) 4 o i op (some h.length) 0 0)
/-- what indexed leaves: the ( of an index stands at i -/
def IX (A : Nat → Prop) (h : mj_H) (T : Nat → Tok) (ln f o i b : Nat) (ls : Int) (nm : Int64) (st : Value) (x : Value) (h' : mj_H) : Prop :=
  ∃ (at_ wr : Int) (tl : Value), h'[13]? = some (rdC at_ wr ls nm st tl) ∧ rdF h h' 13 ∧ (if 12 ≤ o then x = .null ∧ wr = (tqP (T i) : Int) ∧ h'.length = h.length ∧ mj_sl h' = mj_sl h else match pR T f 0 (o + 1) (i + 1) with
    | .inl p => x = .null ∧ wr = (p : Int) ∧ h'.length + 4 * tqP (T (i + 1)) ≤ h.length + 4 * ln + 1 ∧ mj_sl h' + 40 * tqP (T (i + 1)) ≤ mj_sl h + 40 * ln + 10
    | .inr j => if isMk T j 41 then at_ = ((j + 1 : Nat) : Int) ∧ ∃ op, x = .ref op ∧ (2 ≤ op ∧ h.length ≤ op ∧ op < h'.length) ∧ cR (newA A h h') h' T f 0 (o + 1) (i + 1) op (some b) 0 0 ∧ h'.length + 4 * tqP (T (i + 1)) ≤ h.length + 4 * tqP (T j) ∧ mj_sl h' + 40 * tqP (T (i + 1)) ≤ mj_sl h + 40 * tqP (T j)
      else x = .null ∧ wr = (tqP (T j) : Int) ∧ h'.length + 4 * tqP (T (i + 1)) ≤ h.length + 4 * tqP (T j) ∧ mj_sl h' + 40 * tqP (T (i + 1)) ≤ mj_sl h + 40 * tqP (T j))
theorem IX_iv {A : Nat → Prop} {h h' : mj_H} {T : Nat → Tok} {ln f o i b j op : Nat} {ls wr : Int} {nm : Int64} {st tl : Value} (ho : ¬ 12 ≤ o) (e : pR T f 0 (o + 1) (i + 1) = .inr j) (hj : isMk T j 41) (h1 : h'[13]? = some (rdC ((j + 1 : Nat) : Int) wr ls nm st tl)) (h2 : rdF h h' 13) (hop : 2 ≤ op ∧ h.length ≤ op ∧ op < h'.length) (hc : cR (newA A h h') h' T f 0 (o + 1) (i + 1) op (some b) 0 0) (h3 : h'.length + 4 * tqP (T (i + 1)) ≤ h.length + 4 * tqP (T j)) (h4 : mj_sl h' + 40 * tqP (T (i + 1)) ≤ mj_sl h + 40 * tqP (T j)) : IX A h T ln f o i b ls nm st (.ref op) h' := by
  refine ⟨_, _, _, h1, h2, ?_⟩
  rw [if_neg ho, e]
  exact (iff_of_eq (if_pos hj)).mpr ⟨rfl, op, rfl, hop, hc, h3, h4⟩
set_option maxRecDepth 20000 in
theorem pm_X7_indexed : mj_mmof pg_ms 56 = some ((⟨"ArrayCalculator$Reader", "indexed", "(LArrayCalculator$Op;I)LArrayCalculator$Op;"⟩, prog_9_method_17_code, 4, (Option.some (Jvm.ClassFile.FieldType.object "ArrayCalculator$Op"))), 7, false, mj_dec prog_9_method_17_code) := rfl
theorem dm_X7_indexed_0 : mj_dec prog_9_method_17_code 0 = some (.iload_n 2, 1) := by decide +kernel
theorem dm_X7_indexed_1 : mj_dec prog_9_method_17_code 1 = some (.bipush 12, 2) := by decide +kernel
theorem dm_X7_indexed_3 : mj_dec prog_9_method_17_code 3 = some (.if_icmp .lt 8, 3) := by decide +kernel
theorem dm_X7_indexed_6 : mj_dec prog_9_method_17_code 6 = some (.aload_n 0, 1) := by decide +kernel
theorem dm_X7_indexed_7 : mj_dec prog_9_method_17_code 7 = some (.invokevirtual 63, 3) := by decide +kernel
theorem dm_X7_indexed_10 : mj_dec prog_9_method_17_code 10 = some (.areturn, 1) := by decide +kernel
theorem dm_X7_indexed_11 : mj_dec prog_9_method_17_code 11 = some (.aload_n 0, 1) := by decide +kernel
theorem dm_X7_indexed_12 : mj_dec prog_9_method_17_code 12 = some (.dup, 1) := by decide +kernel
theorem dm_X7_indexed_13 : mj_dec prog_9_method_17_code 13 = some (.getfield 38, 3) := by decide +kernel
theorem dm_X7_indexed_16 : mj_dec prog_9_method_17_code 16 = some (.iconst 1, 1) := by decide +kernel
theorem dm_X7_indexed_17 : mj_dec prog_9_method_17_code 17 = some (.iadd, 1) := by decide +kernel
theorem dm_X7_indexed_18 : mj_dec prog_9_method_17_code 18 = some (.putfield 38, 3) := by decide +kernel
theorem dm_X7_indexed_21 : mj_dec prog_9_method_17_code 21 = some (.aload_n 0, 1) := by decide +kernel
theorem dm_X7_indexed_22 : mj_dec prog_9_method_17_code 22 = some (.aload_n 1, 1) := by decide +kernel
theorem dm_X7_indexed_23 : mj_dec prog_9_method_17_code 23 = some (.iload_n 2, 1) := by decide +kernel
theorem dm_X7_indexed_24 : mj_dec prog_9_method_17_code 24 = some (.iconst 1, 1) := by decide +kernel
theorem dm_X7_indexed_25 : mj_dec prog_9_method_17_code 25 = some (.iadd, 1) := by decide +kernel
theorem dm_X7_indexed_26 : mj_dec prog_9_method_17_code 26 = some (.invokevirtual 70, 3) := by decide +kernel
theorem dm_X7_indexed_29 : mj_dec prog_9_method_17_code 29 = some (.astore_n 3, 1) := by decide +kernel
theorem dm_X7_indexed_30 : mj_dec prog_9_method_17_code 30 = some (.aload_n 3, 1) := by decide +kernel
theorem dm_X7_indexed_31 : mj_dec prog_9_method_17_code 31 = some (.ifnull 16, 3) := by decide +kernel
theorem dm_X7_indexed_34 : mj_dec prog_9_method_17_code 34 = some (.aload_n 0, 1) := by decide +kernel
theorem dm_X7_indexed_35 : mj_dec prog_9_method_17_code 35 = some (.bipush 41, 2) := by decide +kernel
theorem dm_X7_indexed_37 : mj_dec prog_9_method_17_code 37 = some (.invokevirtual 74, 3) := by decide +kernel
theorem dm_X7_indexed_40 : mj_dec prog_9_method_17_code 40 = some (.ifCond .eq 7, 3) := by decide +kernel
theorem dm_X7_indexed_43 : mj_dec prog_9_method_17_code 43 = some (.aload_n 3, 1) := by decide +kernel
theorem dm_X7_indexed_44 : mj_dec prog_9_method_17_code 44 = some (.goto 4, 3) := by decide +kernel
theorem dm_X7_indexed_47 : mj_dec prog_9_method_17_code 47 = some (.aconst_null, 1) := by decide +kernel
theorem dm_X7_indexed_48 : mj_dec prog_9_method_17_code 48 = some (.areturn, 1) := by decide +kernel
theorem d_indexed {xt : mj_X} {f1 : Nat → Value} {o d mk ln i : Nat} {A : Nat → Prop} {T : Nat → Tok} {wr ls : Int} {nm : Int64} {st tl : Value} {h : mj_H} (hx1 : xt 1 = some (.long, 0, f1)) (hd : 4 * (12 - o) + 8 ≤ d) (hl : 127 ≤ h.length) (hA : okA A h) (hK : TOKS T mk ln) (hT : TT h T mk ln) (h13 : h[13]? = some (rdC (i : Int) wr ls nm st tl)) {f : Nat} (hE : EX xt T mk ln f ls nm st) {b : Nat} (hm40 : isMk T i 40) (ho : o ≤ 12) (hf : 8 * (mk - (i + 1)) + 6 ≤ f) : pgV xt d 56 [.ref 13, .ref b, ii (o : Int)] h (IX A h T ln f o i b ls nm st) := by
  obtain ⟨le_, gd, sf, pf, bf, df, hk9, -, -, -, -, -, -⟩ := id hT
  have h9 := hk9.1
  have hmk200 := hK.1
  have hlt := TOKS_lt hK (i := i) (by have := hm40.1; omega)
  have hP1 := P_ln hK (i + 1)
  refine x_enter pm_X7_indexed (L0 := [(0, .ref 13), (1, .ref b), (2, ii (o : Int))]) rfl (Nat.le_of_ble_eq_true rfl) (by omega) ?_
  refine me1 (pc' := 1) (L' := [(0, .ref 13), (1, .ref b), (2, ii (o : Int))]) (S' := [ii (o : Int)]) dm_X7_indexed_0 rfl rfl rfl rfl ?_
  refine me0 (pc' := 3) (S' := [ii 12, ii (o : Int)]) dm_X7_indexed_1 rfl rfl rfl rfl ?_
  refine y_2lt (a := (o : Int)) (b := 12) (t := 11) (pc' := 6) dm_X7_indexed_3 rfl rfl (by omega) (fun hb1 => ?_) (fun hb1 => ?_)
  · refine me1 (pc' := 12) (L' := [(0, .ref 13), (1, .ref b), (2, ii (o : Int))]) (S' := [.ref 13]) dm_X7_indexed_11 rfl rfl rfl rfl ?_
    refine me0 (pc' := 13) (S' := [.ref 13, .ref 13]) dm_X7_indexed_12 rfl rfl rfl rfl ?_
    refine me3 (pc' := 16) (S' := [ii (i : Int), .ref 13]) dm_X7_indexed_13 (g_get (v := ii (i : Int)) h13 rfl rfl (by decide)) rfl rfl rfl ?_
    refine me0 (pc' := 17) (S' := [ii 1, ii (i : Int), .ref 13]) dm_X7_indexed_16 rfl rfl rfl rfl ?_
    refine y_iadd (a := (i : Int)) (b := 1) dm_X7_indexed_17 (pc' := 18) rfl ?_
    refine pg_st (S' := [ii ((i + 1 : Nat) : Int), .ref 13]) (congrArg (fun z => ii z :: [.ref 13]) (by omega)) ?_
    refine me3 (pc' := 21) (S' := []) (h1 := (h).set 13 (cO 7 [.ref 9, ii ((i + 1 : Nat) : Int), ii wr, ii ls, .long nm, st, tl])) dm_X7_indexed_18 (g_put (fs' := [.ref 9, ii ((i + 1 : Nat) : Int), ii wr, ii ls, .long nm, st, tl]) h13 rfl rfl rfl (by simp) rfl (by decide) (fun z => by cases z) (by decide)) rfl rfl rfl ?_
    refine me1 (pc' := 22) (L' := [(0, .ref 13), (1, .ref b), (2, ii (o : Int))]) (S' := [.ref 13]) dm_X7_indexed_21 rfl rfl rfl rfl ?_
    refine me1 (pc' := 23) (L' := [(0, .ref 13), (1, .ref b), (2, ii (o : Int))]) (S' := [.ref b, .ref 13]) dm_X7_indexed_22 rfl rfl rfl rfl ?_
    refine me1 (pc' := 24) (L' := [(0, .ref 13), (1, .ref b), (2, ii (o : Int))]) (S' := [ii (o : Int), .ref b, .ref 13]) dm_X7_indexed_23 rfl rfl rfl rfl ?_
    refine me0 (pc' := 25) (S' := [ii 1, ii (o : Int), .ref b, .ref 13]) dm_X7_indexed_24 rfl rfl rfl rfl ?_
    refine y_iadd (a := (o : Int)) (b := 1) dm_X7_indexed_25 (pc' := 26) rfl ?_
    refine pg_st (S' := [ii ((o + 1 : Nat) : Int), .ref b, .ref 13]) rfl ?_
    obtain ⟨g1, g1e⟩ : ∃ g1, g1 = ((h).set 13 (cO 7 [.ref 9, ii ((i + 1 : Nat) : Int), ii wr, ii ls, .long nm, st, tl])) := ⟨_, rfl⟩
    have g1_13 : g1[13]? = some (cO 7 [.ref 9, ii ((i + 1 : Nat) : Int), ii wr, ii ls, .long nm, st, tl]) := by rw [g1e]; exact (hl_set (hl_lt h13))
    have g1_9 : g1[9]? = some (cO 8 [.ref 10, .ref 11, .ref 12, ii ((mk + 1 : Nat) : Int), ii le_, .ref 3, .ref 4, ii (ln : Int), zz gd]) := by rw [g1e]; exact (hl_ne (by decide) h9)
    have g1T : TT g1 T mk ln := by rw [g1e]; exact (TT_set (by omega) hT)
    refine pg_cast (h2 := g1) g1e.symm ?_
    have g1l : g1.length = h.length := by rw [g1e]; simp
    have g1s : mj_sl g1 = mj_sl h := by rw [g1e]; exact sl_rd h13
    have g1F : rdF h g1 13 := by rw [g1e]; exact rdF_set (Or.inl rfl) (rdF_rf h 13)
    rcases e : pR T f 0 (o + 1) (i + 1) with p_e | j_e
    · refine x_cv (pc' := 29) (rest := []) dm_X7_indexed_26 rfl (g_inv (As := [.ref b, ii ((o + 1 : Nat) : Int)]) (S := []) g1_13 rfl rfl rfl (by decide)) rfl rfl rfl (hE _ g1 A (i + 1) (o + 1) (some b) wr tl (by omega) (by omega) (okA_len hA (by omega)) g1T g1_13 (by omega) (by omega) (by omega)) ?_
      rintro x1 k hx
      obtain ⟨kat, ktl, rfl, k_13, kF, kL, kS⟩ := RX_e e hx
      have kT : TT k T mk ln := rdF_TT kF (by decide) (by omega) g1T
      have kl := kF.1
      have k_9 : k[9]? = some (cO 8 [.ref 10, .ref 11, .ref 12, ii ((mk + 1 : Nat) : Int), ii le_, .ref 3, .ref 4, ii (ln : Int), zz gd]) := (kF.2 9 (by omega) (by omega) (by omega)).trans g1_9
      refine me1 (pc' := 30) (L' := [(3, .null), (0, .ref 13), (1, .ref b), (2, ii (o : Int))]) (S' := []) dm_X7_indexed_29 rfl rfl rfl rfl ?_
      refine me1 (pc' := 31) (L' := [(3, .null), (0, .ref 13), (1, .ref b), (2, ii (o : Int))]) (S' := [.null]) dm_X7_indexed_30 rfl rfl rfl rfl ?_
      refine me2 (pc' := 47) (S' := []) dm_X7_indexed_31 rfl rfl rfl ?_
      refine me0 (pc' := 48) (S' := [.null]) dm_X7_indexed_47 rfl rfl rfl rfl ?_
      refine y_ret (r := some (.null)) dm_X7_indexed_48 rfl rfl rfl ?_
      refine ⟨_, rfl, _, _, _, k_13, rdF_tr g1F kF, ?_⟩
      rw [if_neg (by omega), e]
      have hc : ceM 0 = 1 := rfl
      exact ⟨rfl, rfl, by omega, by omega⟩
    · refine x_cv (pc' := 29) (rest := []) dm_X7_indexed_26 rfl (g_inv (As := [.ref b, ii ((o + 1 : Nat) : Int)]) (S := []) g1_13 rfl rfl rfl (by decide)) rfl rfl rfl (hE _ g1 A (i + 1) (o + 1) (some b) wr tl (by omega) (by omega) (okA_len hA (by omega)) g1T g1_13 (by omega) (by omega) (by omega)) ?_
      rintro x1 k hx
      obtain ⟨kop, kwr, ktl, rfl, k_13, kF, kO, kC, kL, kS⟩ := RX_v e hx
      have kT : TT k T mk ln := rdF_TT kF (by decide) (by omega) g1T
      have kl := kF.1
      have k_9 : k[9]? = some (cO 8 [.ref 10, .ref 11, .ref 12, ii ((mk + 1 : Nat) : Int), ii le_, .ref 3, .ref 4, ii (ln : Int), zz gd]) := (kF.2 9 (by omega) (by omega) (by omega)).trans g1_9
      have hj := pR_mk hK _ 0 _ _ _ (show i + 1 ≤ mk by omega) e
      refine me1 (pc' := 30) (L' := [(3, .ref kop), (0, .ref 13), (1, .ref b), (2, ii (o : Int))]) (S' := []) dm_X7_indexed_29 rfl rfl rfl rfl ?_
      refine me1 (pc' := 31) (L' := [(3, .ref kop), (0, .ref 13), (1, .ref b), (2, ii (o : Int))]) (S' := [.ref kop]) dm_X7_indexed_30 rfl rfl rfl rfl ?_
      refine me2 (pc' := 34) (S' := []) dm_X7_indexed_31 rfl rfl rfl ?_
      refine me1 (pc' := 35) (L' := [(3, .ref kop), (0, .ref 13), (1, .ref b), (2, ii (o : Int))]) (S' := [.ref 13]) dm_X7_indexed_34 rfl rfl rfl rfl ?_
      refine me0 (pc' := 37) (S' := [ii 41, .ref 13]) dm_X7_indexed_35 rfl rfl rfl rfl ?_
      by_cases hmk : isMk T j_e 41
      · refine x_cv (pc' := 40) (rest := []) dm_X7_indexed_37 rfl (g_inv (As := [ii 41]) (S := []) k_13 rfl rfl rfl (by decide)) rfl rfl rfl (d_skipT (i := j_e) (by omega) hK kT k_13 (by omega) (by omega) hmk rfl) ?_
        rintro _ _ ⟨rfl, rfl⟩
        refine me_1f (pc' := 43) dm_X7_indexed_40 rfl (by decide) rfl ?_
        refine me1 (pc' := 44) (L' := [(3, .ref kop), (0, .ref 13), (1, .ref b), (2, ii (o : Int))]) (S' := [.ref kop]) dm_X7_indexed_43 rfl rfl rfl rfl ?_
        refine me2 (pc' := 48) (S' := [.ref kop]) dm_X7_indexed_44 rfl rfl rfl ?_
        refine y_ret (r := some (.ref kop)) dm_X7_indexed_48 rfl rfl rfl ?_
        have hc : ceM 0 = 1 := rfl
        exact ⟨_, rfl, IX_iv (by omega) e hmk (hl_set (hl_lt k_13)) (rdF_set (Or.inl rfl) (rdF_tr g1F kF)) ⟨by omega, by omega, by simp only [List.length_append, List.length_set, List.length_singleton]; omega⟩ (cR_k (kp_rd (A := A) (g := g1) hA hl (by omega) (rdF_set (Or.inl rfl) (rdF_rf k 13)) (Or.inl rfl)) _ _ _ _ _ _ _ _ kC) (by simp only [List.length_append, List.length_set, List.length_singleton]; omega) (by rw [sl_rd k_13]; omega)⟩
      · refine x_cv (pc' := 40) (rest := []) dm_X7_indexed_37 rfl (g_inv (As := [ii 41]) (S := []) k_13 rfl rfl rfl (by decide)) rfl rfl rfl (d_skipF (i := j_e) (by omega) hK kT k_13 (by omega) (by omega) hmk rfl) ?_
        rintro _ _ ⟨rfl, rfl⟩
        refine me_1t (pc' := 47) dm_X7_indexed_40 rfl (by decide) ?_
        refine me0 (pc' := 48) (S' := [.null]) dm_X7_indexed_47 rfl rfl rfl rfl ?_
        refine y_ret (r := some (.null)) dm_X7_indexed_48 rfl rfl rfl ?_
        refine ⟨_, rfl, _, _, _, (hl_set (hl_lt k_13)), rdF_set (Or.inl rfl) (rdF_tr g1F kF), ?_⟩
        rw [if_neg (by omega), e]
        have hc : ceM 0 = 1 := rfl
        exact (iff_of_eq (if_neg hmk)).mpr ⟨rfl, rfl, by simp only [List.length_append, List.length_set, List.length_singleton]; omega, by rw [sl_rd k_13]; omega⟩
  · refine me1 (pc' := 7) (L' := [(0, .ref 13), (1, .ref b), (2, ii (o : Int))]) (S' := [.ref 13]) dm_X7_indexed_6 rfl rfl rfl rfl ?_
    refine x_cv (pc' := 10) (rest := []) dm_X7_indexed_7 rfl (g_inv (As := []) (S := []) h13 rfl rfl rfl (by decide)) rfl rfl rfl (d_fail (i := i) (by omega) hK hT h13 (by omega) rfl) ?_
    rintro _ _ ⟨rfl, rfl⟩
    refine y_ret (r := some (.null)) dm_X7_indexed_10 rfl rfl rfl ?_
    refine ⟨_, rfl, _, _, _, (hl_set (hl_lt h13)), rdF_set (Or.inl rfl) (rdF_rf h 13), ?_⟩
    rw [if_pos (by omega)]
    exact ⟨rfl, rfl, by simp, sl_rd h13⟩
