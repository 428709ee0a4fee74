section LIs
variable {A : Nat → Prop} {h : mj_H} {T : Nat → Tok} {mk ln f o i : Nat} {b : Option Nat} {ls : Int} {nm : Int64} {st : Value} {n a g ft : Nat} {z k z' : mj_H} {wr wr' : Int} {tl tl' : Value} {pl : Int}
theorem kp_ex {p : Nat} {C : Nat → Prop} (hl : 127 ≤ h.length) (hkz : rdF k z p) (hp : p = 13 ∨ (p < k.length ∧ ¬ C p)) (hC : ∀ x, C x → x ≠ 13 ∧ newA A h z x) : kpA C k C z := by
  intro a e x y
  have c := hC a x
  refine ⟨x, ?_⟩
  rw [hkz.2 a (hl_lt y) c.1 (by
    rcases hp with w | w
    · omega
    · intro v; rw [v] at x; exact w.2 x)]
  exact y
/-- one part more is read, and another follows -/
theorem LI_s (hl : 127 ≤ h.length) (hA : okA A h) (hL : LI A h T mk ln f o i b ls nm st n a (g + 1) ft z wr tl pl) {j op : Nat} (e : pR T (g + 1) 0 o a = .inr j) (hj : isMk T j 59) (haj : a < j ∧ j < mk) (kF : rdF z k 13) (kC : cR (newA A z k) k T (g + 1) 0 o a op (some ft) 0 0) (kL : k.length + 4 * tqP (T a) ≤ z.length + 4 * tqP (T j)) (kS : mj_sl k + 40 * tqP (T a) ≤ mj_sl z + 40 * tqP (T j)) (hP : tqP (T j) + 1 ≤ tqP (T (j + 1))) (zF : rdF k z' h.length) (z13 : z'[13]? = some (rdC ((j + 1 : Nat) : Int) wr' ls nm st tl')) (zg : z'[h.length]? = some (opC 5 pl 0 (Int64.ofInt 0) 0 0 ((n + 1 : Nat) : Int) .null (oV b) .null)) (zl : z'.length = k.length) (zs : mj_sl z' = mj_sl k) : LI A h T mk ln f o i b ls nm st (n + 1) (j + 1) g op z' wr' tl' pl := by
  obtain ⟨h1, h2, h3, h4, h5, h6, h7, h8, h9, h10, h11, h12⟩ := hL
  have kl := kF.1
  have hF : rdF h z' 13 := ⟨by omega, fun x c1 c2 c3 => (zF.2 x (by omega) c2 (by omega)).trans ((kF.2 x (by omega) c2 c3).trans (h3.2 x c1 c2 c3))⟩
  have n13 : ∀ x, newA A h z' x → x ≠ 13 := fun x w => by
    rcases w with w | w
    · have := hA x w; omega
    · have := w.1; omega
  refine ⟨z13, zg, hF, by omega, by omega, by omega, by omega, by rw [h8, pR4_g e hj], by rw [h9, plN_s e hj]; omega, by omega, by omega, ?_⟩
  intro A' z'' op' kp cr
  have kpz : kpA (newA A z k) k A' z'' := by
    intro x y u v
    have nx : x ≠ h.length := by
      rcases u with u | u
      · have := (hA x u).1; omega
      · have := u.1; omega
    have n1 : newA A h z' x := by
      rcases u with u | u
      · exact Or.inl u
      · exact Or.inr ⟨by have := u.1; omega, by rw [zl]; exact u.2⟩
    exact kp x y ⟨n1, nx⟩ (by rw [zF.2 x (hl_lt v) (n13 x n1) nx]; exact v)
  refine h12 A' z'' op' ?_ ((cR_l e hj).mpr ⟨op, cR_k kpz _ _ _ _ _ _ _ _ kC, cr⟩)
  intro x y u v
  have n1 : newA A h z' x := by
    rcases u.1 with w | w
    · exact Or.inl w
    · exact Or.inr ⟨w.1, by have := w.2; omega⟩
  refine kp x y ⟨n1, u.2⟩ ?_
  have hx := hl_lt v
  rw [zF.2 x (by omega) (n13 x n1) u.2, kF.2 x hx (n13 x n1) (n13 x n1)]
  exact v
/-- the last part is read -/
theorem LI_e (hl : 127 ≤ h.length) (hA : okA A h) (hL : LI A h T mk ln f o i b ls nm st n a (g + 1) ft z wr tl pl) {j op : Nat} (e : pR T (g + 1) 0 o a = .inr j) (hj : ¬ isMk T j 59) (kF : rdF z k 13) (kC : cR (newA A z k) k T (g + 1) 0 o a op (some ft) 0 0) (zF : rdF k z' h.length) (zl : z'.length = k.length) : plN T (f + 1) o i = n + 1 ∧ cR (newA A h z') z' T (f + 1) 4 o i op (some h.length) 0 0 := by
  obtain ⟨h1, h2, h3, h4, h5, h6, h7, h8, h9, h10, h11, h12⟩ := hL
  have kl := kF.1
  have n13 : ∀ x, newA A h z' x → x ≠ 13 := fun x w => by
    rcases w with w | w
    · have := hA x w; omega
    · have := w.1; omega
  refine ⟨by rw [h9, plN_e e hj], h12 _ _ _ ?_ ((cR_ln e hj).mpr (cR_k ?_ _ _ _ _ _ _ _ _ kC))⟩
  · intro x y u v
    have n1 : newA A h z' x := by
      rcases u.1 with w | w
      · exact Or.inl w
      · exact Or.inr ⟨w.1, by have := w.2; omega⟩
    have hx := hl_lt v
    refine ⟨n1, ?_⟩
    rw [zF.2 x (by omega) (n13 x n1) u.2, kF.2 x hx (n13 x n1) (n13 x n1)]
    exact v
  · intro x y u v
    have nx : x ≠ h.length := by
      rcases u with u | u
      · have := (hA x u).1; omega
      · have := u.1; omega
    have n1 : newA A h z' x := by
      rcases u with u | u
      · exact Or.inl u
      · exact Or.inr ⟨by have := u.1; omega, by rw [zl]; exact u.2⟩
    exact ⟨n1, by rw [zF.2 x (hl_lt v) (n13 x n1) nx]; exact v⟩
theorem LI_0 (h13 : z[13]? = some (rdC (i : Int) wr ls nm st tl)) (hg : z[h.length]? = some (opC 5 pl 0 (Int64.ofInt 0) 0 0 0 .null (oV b) .null)) (hF : rdF h z 13) (hl : z.length = h.length + 1) (hs : mj_sl z = mj_sl h + 10) (hi : i ≤ mk) (hf : 8 * (mk - i) + 7 ≤ f + 1) : LI A h T mk ln f o i b ls nm st 0 i f h.length z wr tl pl :=
  ⟨h13, hg, hF, by omega, ⟨Nat.le_refl _, hi⟩, by omega, ⟨hf, Nat.le_refl _⟩, rfl, by omega, by omega, by omega, fun A' z' op kp cr => cr⟩
end LIs
set_option maxRecDepth 20000 in
theorem pm_X7_group : mj_mmof pg_ms 52 = some ((⟨"ArrayCalculator$Reader", "group", "(LArrayCalculator$Op;I)LArrayCalculator$Op;"⟩, prog_9_method_20_code, 6, (Option.some (Jvm.ClassFile.FieldType.object "ArrayCalculator$Op"))), 7, false, mj_dec prog_9_method_20_code) := rfl
theorem dm_X7_group_0 : mj_dec prog_9_method_20_code 0 = some (.new 15, 3) := by decide +kernel
theorem dm_X7_group_3 : mj_dec prog_9_method_20_code 3 = some (.dup, 1) := by decide +kernel
theorem dm_X7_group_4 : mj_dec prog_9_method_20_code 4 = some (.iconst 5, 1) := by decide +kernel
theorem dm_X7_group_5 : mj_dec prog_9_method_20_code 5 = some (.aload_n 0, 1) := by decide +kernel
theorem dm_X7_group_6 : mj_dec prog_9_method_20_code 6 = some (.getfield 9, 3) := by decide +kernel
theorem dm_X7_group_9 : mj_dec prog_9_method_20_code 9 = some (.aload_n 0, 1) := by decide +kernel
theorem dm_X7_group_10 : mj_dec prog_9_method_20_code 10 = some (.getfield 38, 3) := by decide +kernel
theorem dm_X7_group_13 : mj_dec prog_9_method_20_code 13 = some (.invokevirtual 81, 3) := by decide +kernel
theorem dm_X7_group_16 : mj_dec prog_9_method_20_code 16 = some (.aload_n 1, 1) := by decide +kernel
theorem dm_X7_group_17 : mj_dec prog_9_method_20_code 17 = some (.invokespecial 17, 3) := by decide +kernel
theorem dm_X7_group_20 : mj_dec prog_9_method_20_code 20 = some (.astore_n 3, 1) := by decide +kernel
theorem dm_X7_group_21 : mj_dec prog_9_method_20_code 21 = some (.aload_n 0, 1) := by decide +kernel
theorem dm_X7_group_22 : mj_dec prog_9_method_20_code 22 = some (.dup, 1) := by decide +kernel
theorem dm_X7_group_23 : mj_dec prog_9_method_20_code 23 = some (.getfield 38, 3) := by decide +kernel
theorem dm_X7_group_26 : mj_dec prog_9_method_20_code 26 = some (.iconst 1, 1) := by decide +kernel
theorem dm_X7_group_27 : mj_dec prog_9_method_20_code 27 = some (.iadd, 1) := by decide +kernel
theorem dm_X7_group_28 : mj_dec prog_9_method_20_code 28 = some (.putfield 38, 3) := by decide +kernel
theorem dm_X7_group_31 : mj_dec prog_9_method_20_code 31 = some (.aload_n 0, 1) := by decide +kernel
theorem dm_X7_group_32 : mj_dec prog_9_method_20_code 32 = some (.getfield 9, 3) := by decide +kernel
theorem dm_X7_group_35 : mj_dec prog_9_method_20_code 35 = some (.aload_n 0, 1) := by decide +kernel
theorem dm_X7_group_36 : mj_dec prog_9_method_20_code 36 = some (.getfield 38, 3) := by decide +kernel
theorem dm_X7_group_39 : mj_dec prog_9_method_20_code 39 = some (.bipush 41, 2) := by decide +kernel
theorem dm_X7_group_41 : mj_dec prog_9_method_20_code 41 = some (.invokevirtual 84, 3) := by decide +kernel
theorem dm_X7_group_44 : mj_dec prog_9_method_20_code 44 = some (.ifCond .eq 15, 3) := by decide +kernel
theorem dm_X7_group_47 : mj_dec prog_9_method_20_code 47 = some (.aload_n 0, 1) := by decide +kernel
theorem dm_X7_group_48 : mj_dec prog_9_method_20_code 48 = some (.dup, 1) := by decide +kernel
theorem dm_X7_group_49 : mj_dec prog_9_method_20_code 49 = some (.getfield 38, 3) := by decide +kernel
theorem dm_X7_group_52 : mj_dec prog_9_method_20_code 52 = some (.iconst 1, 1) := by decide +kernel
theorem dm_X7_group_53 : mj_dec prog_9_method_20_code 53 = some (.iadd, 1) := by decide +kernel
theorem dm_X7_group_54 : mj_dec prog_9_method_20_code 54 = some (.putfield 38, 3) := by decide +kernel
theorem dm_X7_group_57 : mj_dec prog_9_method_20_code 57 = some (.aload_n 3, 1) := by decide +kernel
theorem dm_X7_group_58 : mj_dec prog_9_method_20_code 58 = some (.areturn, 1) := by decide +kernel
theorem dm_X7_group_59 : mj_dec prog_9_method_20_code 59 = some (.aload_n 3, 1) := by decide +kernel
theorem dm_X7_group_60 : mj_dec prog_9_method_20_code 60 = some (.astore 4, 2) := by decide +kernel
theorem dm_X7_group_62 : mj_dec prog_9_method_20_code 62 = some (.iconst 0, 1) := by decide +kernel
theorem dm_X7_group_63 : mj_dec prog_9_method_20_code 63 = some (.istore 5, 2) := by decide +kernel
theorem dm_X7_group_65 : mj_dec prog_9_method_20_code 65 = some (.iload 5, 2) := by decide +kernel
theorem dm_X7_group_67 : mj_dec prog_9_method_20_code 67 = some (.sipush 200, 3) := by decide +kernel
theorem dm_X7_group_70 : mj_dec prog_9_method_20_code 70 = some (.if_icmp .gt 64, 3) := by decide +kernel
theorem dm_X7_group_73 : mj_dec prog_9_method_20_code 73 = some (.aload_n 0, 1) := by decide +kernel
theorem dm_X7_group_74 : mj_dec prog_9_method_20_code 74 = some (.aload 4, 2) := by decide +kernel
theorem dm_X7_group_76 : mj_dec prog_9_method_20_code 76 = some (.iload_n 2, 1) := by decide +kernel
theorem dm_X7_group_77 : mj_dec prog_9_method_20_code 77 = some (.invokevirtual 70, 3) := by decide +kernel
theorem dm_X7_group_80 : mj_dec prog_9_method_20_code 80 = some (.astore 4, 2) := by decide +kernel
theorem dm_X7_group_82 : mj_dec prog_9_method_20_code 82 = some (.aload 4, 2) := by decide +kernel
theorem dm_X7_group_84 : mj_dec prog_9_method_20_code 84 = some (.ifnonnull 5, 3) := by decide +kernel
theorem dm_X7_group_87 : mj_dec prog_9_method_20_code 87 = some (.aconst_null, 1) := by decide +kernel
theorem dm_X7_group_88 : mj_dec prog_9_method_20_code 88 = some (.areturn, 1) := by decide +kernel
theorem dm_X7_group_89 : mj_dec prog_9_method_20_code 89 = some (.aload_n 3, 1) := by decide +kernel
theorem dm_X7_group_90 : mj_dec prog_9_method_20_code 90 = some (.dup, 1) := by decide +kernel
theorem dm_X7_group_91 : mj_dec prog_9_method_20_code 91 = some (.getfield 161, 3) := by decide +kernel
theorem dm_X7_group_94 : mj_dec prog_9_method_20_code 94 = some (.iconst 1, 1) := by decide +kernel
theorem dm_X7_group_95 : mj_dec prog_9_method_20_code 95 = some (.iadd, 1) := by decide +kernel
theorem dm_X7_group_96 : mj_dec prog_9_method_20_code 96 = some (.putfield 161, 3) := by decide +kernel
theorem dm_X7_group_99 : mj_dec prog_9_method_20_code 99 = some (.aload_n 0, 1) := by decide +kernel
theorem dm_X7_group_100 : mj_dec prog_9_method_20_code 100 = some (.getfield 9, 3) := by decide +kernel
theorem dm_X7_group_103 : mj_dec prog_9_method_20_code 103 = some (.aload_n 0, 1) := by decide +kernel
theorem dm_X7_group_104 : mj_dec prog_9_method_20_code 104 = some (.getfield 38, 3) := by decide +kernel
theorem dm_X7_group_107 : mj_dec prog_9_method_20_code 107 = some (.bipush 59, 2) := by decide +kernel
theorem dm_X7_group_109 : mj_dec prog_9_method_20_code 109 = some (.invokevirtual 84, 3) := by decide +kernel
theorem dm_X7_group_112 : mj_dec prog_9_method_20_code 112 = some (.ifCond .ne 6, 3) := by decide +kernel
theorem dm_X7_group_115 : mj_dec prog_9_method_20_code 115 = some (.goto 19, 3) := by decide +kernel
theorem dm_X7_group_118 : mj_dec prog_9_method_20_code 118 = some (.aload_n 0, 1) := by decide +kernel
theorem dm_X7_group_119 : mj_dec prog_9_method_20_code 119 = some (.dup, 1) := by decide +kernel
theorem dm_X7_group_120 : mj_dec prog_9_method_20_code 120 = some (.getfield 38, 3) := by decide +kernel
theorem dm_X7_group_123 : mj_dec prog_9_method_20_code 123 = some (.iconst 1, 1) := by decide +kernel
theorem dm_X7_group_124 : mj_dec prog_9_method_20_code 124 = some (.iadd, 1) := by decide +kernel
theorem dm_X7_group_125 : mj_dec prog_9_method_20_code 125 = some (.putfield 38, 3) := by decide +kernel
theorem dm_X7_group_128 : mj_dec prog_9_method_20_code 128 = some (.iinc 5 1, 3) := by decide +kernel
theorem dm_X7_group_131 : mj_dec prog_9_method_20_code 131 = some (.goto (-66), 3) := by decide +kernel
theorem dm_X7_group_134 : mj_dec prog_9_method_20_code 134 = some (.aload_n 3, 1) := by decide +kernel
theorem dm_X7_group_135 : mj_dec prog_9_method_20_code 135 = some (.getfield 161, 3) := by decide +kernel
theorem dm_X7_group_138 : mj_dec prog_9_method_20_code 138 = some (.iconst 1, 1) := by decide +kernel
theorem dm_X7_group_139 : mj_dec prog_9_method_20_code 139 = some (.if_icmp .ne 8, 3) := by decide +kernel
theorem dm_X7_group_142 : mj_dec prog_9_method_20_code 142 = some (.aload_n 3, 1) := by decide +kernel
theorem dm_X7_group_143 : mj_dec prog_9_method_20_code 143 = some (.iconst 0, 1) := by decide +kernel
theorem dm_X7_group_144 : mj_dec prog_9_method_20_code 144 = some (.putfield 106, 3) := by decide +kernel
theorem dm_X7_group_147 : mj_dec prog_9_method_20_code 147 = some (.aload_n 0, 1) := by decide +kernel
theorem dm_X7_group_148 : mj_dec prog_9_method_20_code 148 = some (.bipush 41, 2) := by decide +kernel
theorem dm_X7_group_150 : mj_dec prog_9_method_20_code 150 = some (.invokevirtual 74, 3) := by decide +kernel
theorem dm_X7_group_153 : mj_dec prog_9_method_20_code 153 = some (.ifCond .eq 8, 3) := by decide +kernel
theorem dm_X7_group_156 : mj_dec prog_9_method_20_code 156 = some (.aload 4, 2) := by decide +kernel
theorem dm_X7_group_158 : mj_dec prog_9_method_20_code 158 = some (.goto 4, 3) := by decide +kernel
theorem dm_X7_group_161 : mj_dec prog_9_method_20_code 161 = some (.aconst_null, 1) := by decide +kernel
theorem dm_X7_group_162 : mj_dec prog_9_method_20_code 162 = some (.areturn, 1) := by decide +kernel
theorem d_group {xt : mj_X} {f1 : Nat → Value} {o0 g0 d mk ln i : Nat} {A : Nat → Prop} {T : Nat → Tok} {wr ls : Int} {nm : Int64} {st tl : Value} {h : mj_H} (hx1 : xt 1 = some (.long, 0, f1)) (hd : 4 * (12 - (o0 + 1)) + 11 ≤ d) (hl : 127 ≤ h.length) (hA : okA A h) (hK : TOKS T mk ln) (hT : TT h T mk ln) (h13 : h[13]? = some (rdC (i : Int) wr ls nm st tl)) {b : Option Nat} (hE : ∀ g, g ≤ g0 + 1 → EX xt T mk ln g ls nm st) (hm40 : isMk T i 40) (ho : o0 < 12) (hf : 8 * (mk - (i + 1)) + 7 ≤ g0 + 1) : pgV xt d 52 [.ref 13, oV b, ii ((o0 + 1 : Nat) : Int)] h (RX A h T ln (g0 + 1 + 1) 3 o0 i b ls nm st) := by
  obtain ⟨le_, gd, sf, pf, bf, df, hk9, -, -, -, -, -, -⟩ := id hT
  have h9 := hk9.1
  have hmk200 := hK.1
  have hlt := TOKS_lt hK (i := i) (by have := hm40.1; omega)
  have hPi := hK.2.2.2.2.2.2.1 i hlt
  have hP2 := P_ln hK (i + 1)
  have hPl : ∀ j, tqP (T j) ≤ ln := P_ln hK
  refine x_enter pm_X7_group (L0 := [(0, .ref 13), (1, oV b), (2, ii ((o0 + 1 : Nat) : Int))]) (by cases b <;> rfl) (by cases b <;> exact Nat.le_of_ble_eq_true rfl) (by omega) ?_
  refine me3 (pc' := 3) (S' := [.ref h.length]) (h1 := h ++ [cO 4 [ii 0, ii 0, ii 0, .long (Int64.ofInt 0), ii 0, ii 0, ii 0, .null, .null, .null]]) dm_X7_group_0 (g_nw rfl rfl rfl) rfl rfl rfl ?_
  refine me0 (pc' := 4) (S' := [.ref h.length, .ref h.length]) dm_X7_group_3 rfl rfl rfl rfl ?_
  refine me0 (pc' := 5) (S' := [ii 5, .ref h.length, .ref h.length]) dm_X7_group_4 rfl rfl rfl rfl ?_
  refine me1 (pc' := 6) (L' := [(0, .ref 13), (1, oV b), (2, ii ((o0 + 1 : Nat) : Int))]) (S' := [.ref 13, ii 5, .ref h.length, .ref h.length]) dm_X7_group_5 rfl rfl rfl rfl ?_
  refine me3 (pc' := 9) (S' := [.ref 9, ii 5, .ref h.length, .ref h.length]) dm_X7_group_6 (g_get (v := .ref 9) (hl_app h13) rfl rfl (by decide)) rfl rfl rfl ?_
  refine me1 (pc' := 10) (L' := [(0, .ref 13), (1, oV b), (2, ii ((o0 + 1 : Nat) : Int))]) (S' := [.ref 13, .ref 9, ii 5, .ref h.length, .ref h.length]) dm_X7_group_9 rfl rfl rfl rfl ?_
  refine me3 (pc' := 13) (S' := [ii (i : Int), .ref 9, ii 5, .ref h.length, .ref h.length]) dm_X7_group_10 (g_get (v := ii (i : Int)) (hl_app h13) rfl rfl (by decide)) rfl rfl rfl ?_
  refine x_cp (pc' := 16) (v := ii (tqP (T i) : Int)) (rest := [ii 5, .ref h.length, .ref h.length]) dm_X7_group_13 rfl (g_inv (As := [ii (i : Int)]) (S := [ii 5, .ref h.length, .ref h.length]) (hl_app h9) rfl rfl rfl (by decide)) rfl rfl rfl (tt_place (i := i) (by omega) hK (TT_app (by omega) hT) (by omega)) ?_
  refine me1 (pc' := 17) (L' := [(0, .ref 13), (1, oV b), (2, ii ((o0 + 1 : Nat) : Int))]) (S' := [oV b, ii (tqP (T i) : Int), ii 5, .ref h.length, .ref h.length]) dm_X7_group_16 (by cases b <;> rfl) rfl rfl rfl ?_
  refine x_cn (pc' := 20) (rest := [.ref h.length]) dm_X7_group_17 rfl (g_invp (As := [ii 5, ii (tqP (T i) : Int), oV b]) (S := [.ref h.length]) rfl rfl rfl) rfl rfl rfl (o_init (b := b) (by omega) (by omega) hl_new (hl_setl)) ?_
  rintro _ rfl
  refine me1 (pc' := 21) (L' := [(3, .ref h.length), (0, .ref 13), (1, oV b), (2, ii ((o0 + 1 : Nat) : Int))]) (S' := []) dm_X7_group_20 (by cases b <;> rfl) rfl rfl rfl ?_
  refine me1 (pc' := 22) (L' := [(3, .ref h.length), (0, .ref 13), (1, oV b), (2, ii ((o0 + 1 : Nat) : Int))]) (S' := [.ref 13]) dm_X7_group_21 rfl rfl rfl rfl ?_
  refine me0 (pc' := 23) (S' := [.ref 13, .ref 13]) dm_X7_group_22 rfl rfl rfl rfl ?_
  refine me3 (pc' := 26) (S' := [ii (i : Int), .ref 13]) dm_X7_group_23 (g_get (v := ii (i : Int)) (hl_app h13) rfl rfl (by decide)) rfl rfl rfl ?_
  refine me0 (pc' := 27) (S' := [ii 1, ii (i : Int), .ref 13]) dm_X7_group_26 rfl rfl rfl rfl ?_
  refine y_iadd (a := (i : Int)) (b := 1) dm_X7_group_27 (pc' := 28) rfl ?_
  refine pg_st (S' := [ii ((i + 1 : Nat) : Int), .ref 13]) (congrArg (fun z => ii z :: [.ref 13]) (by omega)) ?_
  refine me3 (pc' := 31) (S' := []) (h1 := (h ++ [cO 4 [ii 5, ii (tqP (T i) : Int), ii 0, .long (Int64.ofInt 0), ii 0, ii 0, ii 0, .null, oV b, .null]]).set 13 (cO 7 [.ref 9, ii ((i + 1 : Nat) : Int), ii wr, ii ls, .long nm, st, tl])) dm_X7_group_28 (g_put (fs' := [.ref 9, ii ((i + 1 : Nat) : Int), ii wr, ii ls, .long nm, st, tl]) (hl_app h13) rfl rfl rfl (by simp) rfl (by decide) (fun z => by cases z) (by decide)) rfl rfl rfl ?_
  refine me1 (pc' := 32) (L' := [(3, .ref h.length), (0, .ref 13), (1, oV b), (2, ii ((o0 + 1 : Nat) : Int))]) (S' := [.ref 13]) dm_X7_group_31 rfl rfl rfl rfl ?_
  refine me3 (pc' := 35) (S' := [.ref 9]) dm_X7_group_32 (g_get (v := .ref 9) (hl_set (hl_lt (hl_app h13))) rfl rfl (by decide)) rfl rfl rfl ?_
  refine me1 (pc' := 36) (L' := [(3, .ref h.length), (0, .ref 13), (1, oV b), (2, ii ((o0 + 1 : Nat) : Int))]) (S' := [.ref 13, .ref 9]) dm_X7_group_35 rfl rfl rfl rfl ?_
  refine me3 (pc' := 39) (S' := [ii ((i + 1 : Nat) : Int), .ref 9]) dm_X7_group_36 (g_get (v := ii ((i + 1 : Nat) : Int)) (hl_set (hl_lt (hl_app h13))) rfl rfl (by decide)) rfl rfl rfl ?_
  refine me0 (pc' := 41) (S' := [ii 41, ii ((i + 1 : Nat) : Int), .ref 9]) dm_X7_group_39 rfl rfl rfl rfl ?_
  refine x_cp (pc' := 44) (v := zz (decide (isMk T (i + 1) 41))) (rest := []) dm_X7_group_41 rfl (g_inv (As := [ii ((i + 1 : Nat) : Int), ii 41]) (S := []) (hl_ne (by decide) (hl_app h9)) rfl rfl rfl (by decide)) rfl rfl rfl (tt_mark (i := i + 1) (by omega) hK (TT_set (by omega) (TT_app (by omega) hT)) (by omega) (by omega)) ?_
  refine y_zeq (c := decide (isMk T (i + 1) 41)) (t := 59) (pc' := 47) dm_X7_group_44 rfl rfl (fun hb1 => ?_) (fun hb1 => ?_)
  · replace hb1 := dF hb1
    have h41 := hb1
    refine me1 (pc' := 60) (L' := [(3, .ref h.length), (0, .ref 13), (1, oV b), (2, ii ((o0 + 1 : Nat) : Int))]) (S' := [.ref h.length]) dm_X7_group_59 rfl rfl rfl rfl ?_
    refine me1 (pc' := 62) (L' := [(4, .ref h.length), (3, .ref h.length), (0, .ref 13), (1, oV b), (2, ii ((o0 + 1 : Nat) : Int))]) (S' := []) dm_X7_group_60 (by cases b <;> rfl) rfl rfl rfl ?_
    refine me0 (pc' := 63) (S' := [ii 0]) dm_X7_group_62 rfl rfl rfl rfl ?_
    refine me1 (pc' := 65) (L' := [(5, ii 0), (4, .ref h.length), (3, .ref h.length), (0, .ref 13), (1, oV b), (2, ii ((o0 + 1 : Nat) : Int))]) (S' := []) dm_X7_group_63 (by cases b <;> rfl) rfl rfl rfl ?_
    obtain ⟨g1, g1e⟩ : ∃ g1, g1 = ((h ++ [cO 4 [ii 5, ii (tqP (T i) : Int), ii 0, .long (Int64.ofInt 0), ii 0, ii 0, ii 0, .null, oV b, .null]]).set 13 (cO 7 [.ref 9, ii ((i + 1 : Nat) : Int), ii wr, ii ls, .long nm, st, tl])) := ⟨_, rfl⟩
    have g1_13 : g1[13]? = some (cO 7 [.ref 9, ii ((i + 1 : Nat) : Int), ii wr, ii ls, .long nm, st, tl]) := by rw [g1e]; exact (hl_set (hl_lt (hl_app h13)))
    have g1_9 : g1[9]? = some (cO 8 [.ref 10, .ref 11, .ref 12, ii ((mk + 1 : Nat) : Int), ii le_, .ref 3, .ref 4, ii (ln : Int), zz gd]) := by rw [g1e]; exact (hl_ne (by decide) (hl_app h9))
    have g1_k0 : g1[h.length]? = some (cO 4 [ii 5, ii (tqP (T i) : Int), ii 0, .long (Int64.ofInt 0), ii 0, ii 0, ii 0, .null, oV b, .null]) := by rw [g1e]; exact (hl_ne (by omega) hl_new)
    have g1T : TT g1 T mk ln := by rw [g1e]; exact (TT_set (by omega) (TT_app (by omega) hT))
    refine pg_cast (h2 := g1) g1e.symm ?_
    have g1l : g1.length = h.length + 1 := by rw [g1e]; simp
    have g1s : mj_sl g1 = mj_sl h + 10 := by rw [g1e, sl_rd (hl_app h13), sl_app, sl_op]
    have g1F : rdF h g1 13 := by rw [g1e]; exact rdF_set (Or.inl rfl) (rdF_app (rdF_rf h 13))
    have lp65 : ∀ (n65 : Nat) (n : Nat) (a : Nat) (g : Nat) (ft : Nat) (z : mj_H) (wr2 : Int) (tl2 : Value), mk - a = n65 → (LI A h T mk ln g0 (o0 + 1) (i + 1) b ls nm st n a g ft z wr2 tl2 (tqP (T i) : Int)) → pgE xt (d - 1) 7 6 false (Option.some (Jvm.ClassFile.FieldType.object "ArrayCalculator$Op")) (mj_dec prog_9_method_20_code) 65 [(0, .ref 13), (2, ii ((o0 + 1 : Nat) : Int)), (3, .ref h.length), (4, .ref ft), (5, ii ((n : Nat) : Int))] [] z (fun r h' => ∃ x, r = some x ∧ RX A h T ln (g0 + 1 + 1) 3 o0 i b ls nm st x h') := by
      intro n65
      induction n65 using Nat.strongRecOn with
      | ind n65 ih65 =>
        intro n a g ft z wr2 tl2 hm65 hL
        obtain ⟨z_13, z_g, zF, zl, za, zn, zf, zR, zP, zL, zS, -⟩ := id hL
        have zT : TT z T mk ln := rdF_TT zF (by decide) (by omega) hT
        have z_9 := (zF.2 9 (by omega) (by decide) (by decide)).trans h9
        have hg : g = (g - 1) + 1 := by omega
        refine me1 (pc' := 67) (L' := [(0, .ref 13), (2, ii ((o0 + 1 : Nat) : Int)), (3, .ref h.length), (4, .ref ft), (5, ii ((n : Nat) : Int))]) (S' := [ii ((n : Nat) : Int)]) dm_X7_group_65 rfl rfl rfl rfl ?_
        refine me0 (pc' := 70) (S' := [ii 200, ii ((n : Nat) : Int)]) dm_X7_group_67 rfl rfl rfl rfl ?_
        refine y_2gt (a := ((n : Nat) : Int)) (b := 200) (t := 134) (pc' := 73) dm_X7_group_70 rfl rfl (by omega) (fun hb2 => ?_) (fun hb2 => ?_)
        · exfalso; omega
        · refine me1 (pc' := 74) (L' := [(0, .ref 13), (2, ii ((o0 + 1 : Nat) : Int)), (3, .ref h.length), (4, .ref ft), (5, ii ((n : Nat) : Int))]) (S' := [.ref 13]) dm_X7_group_73 rfl rfl rfl rfl ?_
          refine me1 (pc' := 76) (L' := [(0, .ref 13), (2, ii ((o0 + 1 : Nat) : Int)), (3, .ref h.length), (4, .ref ft), (5, ii ((n : Nat) : Int))]) (S' := [.ref ft, .ref 13]) dm_X7_group_74 rfl rfl rfl rfl ?_
          refine me1 (pc' := 77) (L' := [(0, .ref 13), (2, ii ((o0 + 1 : Nat) : Int)), (3, .ref h.length), (4, .ref ft), (5, ii ((n : Nat) : Int))]) (S' := [ii ((o0 + 1 : Nat) : Int), .ref ft, .ref 13]) dm_X7_group_76 rfl rfl rfl rfl ?_
          rcases e : pR T g 0 (o0 + 1) a with p_e | j_e
          · refine x_cv (pc' := 80) (rest := []) dm_X7_group_77 rfl (g_inv (As := [.ref ft, ii ((o0 + 1 : Nat) : Int)]) (S := []) z_13 rfl rfl rfl (by decide)) rfl rfl rfl (hE g (by omega) _ z A a (o0 + 1) (some ft) wr2 tl2 (by omega) (by omega) (okA_len hA zF.1) zT z_13 (by omega) (by omega) (by omega)) ?_
            rintro x1 k hx
            obtain ⟨kat, ktl, rfl, k_13, kF, kL, kS⟩ := RX_e e hx
            have kT : TT k T mk ln := rdF_TT kF (by decide) (by omega) zT
            have kl := kF.1
            have k_9 : k[9]? = some (cO 8 [.ref 10, .ref 11, .ref 12, ii ((mk + 1 : Nat) : Int), ii le_, .ref 3, .ref 4, ii (ln : Int), zz gd]) := (kF.2 9 (by omega) (by omega) (by omega)).trans z_9
            have k_k0 : k[h.length]? = some (cO 4 [ii 5, ii (tqP (T i) : Int), ii 0, .long (Int64.ofInt 0), ii 0, ii 0, ii ((n : Nat) : Int), .null, oV b, .null]) := (kF.2 h.length (by omega) (by omega) (by omega)).trans z_g
            refine me1 (pc' := 82) (L' := [(4, .null), (0, .ref 13), (2, ii ((o0 + 1 : Nat) : Int)), (3, .ref h.length), (5, ii ((n : Nat) : Int))]) (S' := []) dm_X7_group_80 rfl rfl rfl rfl ?_
            refine me1 (pc' := 84) (L' := [(4, .null), (0, .ref 13), (2, ii ((o0 + 1 : Nat) : Int)), (3, .ref h.length), (5, ii ((n : Nat) : Int))]) (S' := [.null]) dm_X7_group_82 rfl rfl rfl rfl ?_
            refine me2 (pc' := 87) (S' := []) dm_X7_group_84 rfl rfl rfl ?_
            refine me0 (pc' := 88) (S' := [.null]) dm_X7_group_87 rfl rfl rfl rfl ?_
            refine y_ret (r := some (.null)) dm_X7_group_88 rfl rfl rfl ?_
            have hc : ceM 0 = 1 := rfl
            have hPa := hPl a
            exact ⟨_, rfl, RX_ie ((pR3_l hm40 ho h41).trans (zR.trans (pR4_e e))) k_13 (rdF_tr zF kF) (by show _ ≤ _ + 0; omega) (by show _ ≤ _ + 10 * 0; omega)⟩
          · refine x_cv (pc' := 80) (rest := []) dm_X7_group_77 rfl (g_inv (As := [.ref ft, ii ((o0 + 1 : Nat) : Int)]) (S := []) z_13 rfl rfl rfl (by decide)) rfl rfl rfl (hE g (by omega) _ z A a (o0 + 1) (some ft) wr2 tl2 (by omega) (by omega) (okA_len hA zF.1) zT z_13 (by omega) (by omega) (by omega)) ?_
            rintro x1 k hx
            obtain ⟨kop, kwr, ktl, rfl, k_13, kF, kO, kC, kL, kS⟩ := RX_v e hx
            have kT : TT k T mk ln := rdF_TT kF (by decide) (by omega) zT
            have kl := kF.1
            have k_9 : k[9]? = some (cO 8 [.ref 10, .ref 11, .ref 12, ii ((mk + 1 : Nat) : Int), ii le_, .ref 3, .ref 4, ii (ln : Int), zz gd]) := (kF.2 9 (by omega) (by omega) (by omega)).trans z_9
            have k_k0 : k[h.length]? = some (cO 4 [ii 5, ii (tqP (T i) : Int), ii 0, .long (Int64.ofInt 0), ii 0, ii 0, ii ((n : Nat) : Int), .null, oV b, .null]) := (kF.2 h.length (by omega) (by omega) (by omega)).trans z_g
            have hja := pR_mk hK _ 0 _ _ _ za.2 e
            have hja3 := hja.2.2 (by decide)
            refine me1 (pc' := 82) (L' := [(4, .ref kop), (0, .ref 13), (2, ii ((o0 + 1 : Nat) : Int)), (3, .ref h.length), (5, ii ((n : Nat) : Int))]) (S' := []) dm_X7_group_80 rfl rfl rfl rfl ?_
            refine me1 (pc' := 84) (L' := [(4, .ref kop), (0, .ref 13), (2, ii ((o0 + 1 : Nat) : Int)), (3, .ref h.length), (5, ii ((n : Nat) : Int))]) (S' := [.ref kop]) dm_X7_group_82 rfl rfl rfl rfl ?_
            refine me2 (pc' := 89) (S' := []) dm_X7_group_84 rfl rfl rfl ?_
            refine me1 (pc' := 90) (L' := [(4, .ref kop), (0, .ref 13), (2, ii ((o0 + 1 : Nat) : Int)), (3, .ref h.length), (5, ii ((n : Nat) : Int))]) (S' := [.ref h.length]) dm_X7_group_89 rfl rfl rfl rfl ?_
            refine me0 (pc' := 91) (S' := [.ref h.length, .ref h.length]) dm_X7_group_90 rfl rfl rfl rfl ?_
            refine me3 (pc' := 94) (S' := [ii ((n : Nat) : Int), .ref h.length]) dm_X7_group_91 (g_get (v := ii ((n : Nat) : Int)) k_k0 rfl rfl (by omega)) rfl rfl rfl ?_
            refine me0 (pc' := 95) (S' := [ii 1, ii ((n : Nat) : Int), .ref h.length]) dm_X7_group_94 rfl rfl rfl rfl ?_
            refine y_iadd (a := ((n : Nat) : Int)) (b := 1) dm_X7_group_95 (pc' := 96) rfl ?_
            refine pg_st (S' := [ii ((n + 1 : Nat) : Int), .ref h.length]) (congrArg (fun z => ii z :: [.ref h.length]) (by omega)) ?_
            refine me3 (pc' := 99) (S' := []) (h1 := (k).set h.length (cO 4 [ii 5, ii (tqP (T i) : Int), ii 0, .long (Int64.ofInt 0), ii 0, ii 0, ii ((n + 1 : Nat) : Int), .null, oV b, .null])) dm_X7_group_96 (g_put (fs' := [ii 5, ii (tqP (T i) : Int), ii 0, .long (Int64.ofInt 0), ii 0, ii 0, ii ((n + 1 : Nat) : Int), .null, oV b, .null]) k_k0 rfl rfl rfl (by simp) rfl (by decide) (fun z => by cases z) (by omega)) rfl rfl rfl ?_
            refine me1 (pc' := 100) (L' := [(4, .ref kop), (0, .ref 13), (2, ii ((o0 + 1 : Nat) : Int)), (3, .ref h.length), (5, ii ((n : Nat) : Int))]) (S' := [.ref 13]) dm_X7_group_99 rfl rfl rfl rfl ?_
            refine me3 (pc' := 103) (S' := [.ref 9]) dm_X7_group_100 (g_get (v := .ref 9) (hl_ne (by omega) k_13) rfl rfl (by decide)) rfl rfl rfl ?_
            refine me1 (pc' := 104) (L' := [(4, .ref kop), (0, .ref 13), (2, ii ((o0 + 1 : Nat) : Int)), (3, .ref h.length), (5, ii ((n : Nat) : Int))]) (S' := [.ref 13, .ref 9]) dm_X7_group_103 rfl rfl rfl rfl ?_
            refine me3 (pc' := 107) (S' := [ii ((j_e : Nat) : Int), .ref 9]) dm_X7_group_104 (g_get (v := ii ((j_e : Nat) : Int)) (hl_ne (by omega) k_13) rfl rfl (by decide)) rfl rfl rfl ?_
            refine me0 (pc' := 109) (S' := [ii 59, ii ((j_e : Nat) : Int), .ref 9]) dm_X7_group_107 rfl rfl rfl rfl ?_
            refine x_cp (pc' := 112) (v := zz (decide (isMk T j_e 59))) (rest := []) dm_X7_group_109 rfl (g_inv (As := [ii ((j_e : Nat) : Int), ii 59]) (S := []) (hl_ne (by omega) k_9) rfl rfl rfl (by decide)) rfl rfl rfl (tt_mark (i := j_e) (by omega) hK (TT_set (by omega) kT) (by omega) (by omega)) ?_
            refine y_zne (c := decide (isMk T j_e 59)) (t := 118) (pc' := 115) dm_X7_group_112 rfl rfl (fun hb3 => ?_) (fun hb3 => ?_)
            · replace hb3 := dT hb3
              have hmk := hb3
              have hj2 := TOKS_lt hK (i := j_e) (by have := hmk.1; omega)
              have hPj := hK.2.2.2.2.2.2.1 j_e hj2
              refine me1 (pc' := 119) (L' := [(4, .ref kop), (0, .ref 13), (2, ii ((o0 + 1 : Nat) : Int)), (3, .ref h.length), (5, ii ((n : Nat) : Int))]) (S' := [.ref 13]) dm_X7_group_118 rfl rfl rfl rfl ?_
              refine me0 (pc' := 120) (S' := [.ref 13, .ref 13]) dm_X7_group_119 rfl rfl rfl rfl ?_
              refine me3 (pc' := 123) (S' := [ii ((j_e : Nat) : Int), .ref 13]) dm_X7_group_120 (g_get (v := ii ((j_e : Nat) : Int)) (hl_ne (by omega) k_13) rfl rfl (by decide)) rfl rfl rfl ?_
              refine me0 (pc' := 124) (S' := [ii 1, ii ((j_e : Nat) : Int), .ref 13]) dm_X7_group_123 rfl rfl rfl rfl ?_
              refine y_iadd (a := ((j_e : Nat) : Int)) (b := 1) dm_X7_group_124 (pc' := 125) rfl ?_
              refine pg_st (S' := [ii ((j_e + 1 : Nat) : Int), .ref 13]) (congrArg (fun z => ii z :: [.ref 13]) (by omega)) ?_
              refine me3 (pc' := 128) (S' := []) (h1 := ((k).set h.length (cO 4 [ii 5, ii (tqP (T i) : Int), ii 0, .long (Int64.ofInt 0), ii 0, ii 0, ii ((n + 1 : Nat) : Int), .null, oV b, .null])).set 13 (cO 7 [.ref 9, ii ((j_e + 1 : Nat) : Int), ii kwr, ii ls, .long nm, st, ktl])) dm_X7_group_125 (g_put (fs' := [.ref 9, ii ((j_e + 1 : Nat) : Int), ii kwr, ii ls, .long nm, st, ktl]) (hl_ne (by omega) k_13) rfl rfl rfl (by simp) rfl (by decide) (fun z => by cases z) (by decide)) rfl rfl rfl ?_
              refine y_iinc (pc' := 131) (L' := [(5, ii (((n : Nat) : Int) + 1)), (4, .ref kop), (0, .ref 13), (2, ii ((o0 + 1 : Nat) : Int)), (3, .ref h.length)]) dm_X7_group_128 (y_incp (a := ((n : Nat) : Int)) (c := 1) rfl rfl (by decide)) rfl ?_
              refine me2 (pc' := 65) (S' := []) dm_X7_group_131 rfl rfl rfl ?_
              exact pg_sub (L := [(0, .ref 13), (2, ii ((o0 + 1 : Nat) : Int)), (3, .ref h.length), (4, .ref kop), (5, ii (((n + 1) : Nat) : Int))]) rfl rfl rfl (ih65 (mk - (j_e + 1)) (by omega) (n + 1) (j_e + 1) (g - 1) kop (((k).set h.length (cO 4 [ii 5, ii (tqP (T i) : Int), ii 0, .long (Int64.ofInt 0), ii 0, ii 0, ii ((n + 1 : Nat) : Int), .null, oV b, .null])).set 13 (cO 7 [.ref 9, ii ((j_e + 1 : Nat) : Int), ii kwr, ii ls, .long nm, st, ktl])) kwr ktl rfl (LI_s (g := g - 1) hl hA (by rw [← hg]; exact hL) (by rw [← hg]; exact e) hmk (by omega) kF (by rw [← hg]; exact kC) (by omega) (by omega) (by omega) (rdF_set (Or.inl rfl) (rdF_set (Or.inr (Or.inl rfl)) (rdF_rf k h.length))) (hl_set (hl_lt (hl_ne (by omega) k_13))) (hl_ne (by omega) (hl_set (hl_lt k_k0))) (by simp only [List.length_append, List.length_set, List.length_singleton]) (by rw [sl_rd (hl_ne (by omega) k_13)]; exact sl_set k_k0 rfl)))
            · replace hb3 := dF hb3
              have hnm := hb3
              refine me2 (pc' := 134) (S' := []) dm_X7_group_115 rfl rfl rfl ?_
              refine me1 (pc' := 135) (L' := [(4, .ref kop), (0, .ref 13), (2, ii ((o0 + 1 : Nat) : Int)), (3, .ref h.length), (5, ii ((n : Nat) : Int))]) (S' := [.ref h.length]) dm_X7_group_134 rfl rfl rfl rfl ?_
              refine me3 (pc' := 138) (S' := [ii ((n + 1 : Nat) : Int)]) dm_X7_group_135 (g_get (v := ii ((n + 1 : Nat) : Int)) (hl_set (hl_lt k_k0)) rfl rfl (by omega)) rfl rfl rfl ?_
              refine me0 (pc' := 139) (S' := [ii 1, ii ((n + 1 : Nat) : Int)]) dm_X7_group_138 rfl rfl rfl rfl ?_
              refine y_2ne (a := ((n + 1 : Nat) : Int)) (b := 1) (t := 147) (pc' := 142) dm_X7_group_139 rfl rfl (by omega) (fun hb4 => ?_) (fun hb4 => ?_)
              · obtain ⟨q, qe⟩ : ∃ q, q = ((k).set h.length (cO 4 [ii 5, ii (tqP (T i) : Int), ii 0, .long (Int64.ofInt 0), ii 0, ii 0, ii ((n + 1 : Nat) : Int), .null, oV b, .null])) := ⟨_, rfl⟩
                have q_13 : q[13]? = some (cO 7 [.ref 9, ii ((j_e : Nat) : Int), ii kwr, ii ls, .long nm, st, ktl]) := by rw [qe]; exact (hl_ne (by omega) k_13)
                have q_9 : q[9]? = some (cO 8 [.ref 10, .ref 11, .ref 12, ii ((mk + 1 : Nat) : Int), ii le_, .ref 3, .ref 4, ii (ln : Int), zz gd]) := by rw [qe]; exact (hl_ne (by omega) k_9)
                have q_k0 : q[h.length]? = some (cO 4 [ii 5, ii (tqP (T i) : Int), ii 0, .long (Int64.ofInt 0), ii 0, ii 0, ii ((n + 1 : Nat) : Int), .null, oV b, .null]) := by rw [qe]; exact (hl_set (hl_lt k_k0))
                have qT : TT q T mk ln := by rw [qe]; exact (TT_set (by omega) kT)
                refine pg_cast (h2 := q) qe.symm ?_
                have ql : q.length = k.length := by rw [qe]; simp
                have qs : mj_sl q = mj_sl k := by rw [qe]; exact sl_set k_k0 rfl
                have qF : rdF k q h.length := by rw [qe]; exact rdF_set (Or.inr (Or.inl rfl)) (rdF_rf k h.length)
                by_cases hmk : isMk T j_e 41
                · refine me1 (pc' := 148) (L' := [(4, .ref kop), (0, .ref 13), (2, ii ((o0 + 1 : Nat) : Int)), (3, .ref h.length), (5, ii ((n : Nat) : Int))]) (S' := [.ref 13]) dm_X7_group_147 rfl rfl rfl rfl ?_
                  refine me0 (pc' := 150) (S' := [ii 41, .ref 13]) dm_X7_group_148 rfl rfl rfl rfl ?_
                  refine x_cv (pc' := 153) (rest := []) dm_X7_group_150 rfl (g_inv (As := [ii 41]) (S := []) q_13 rfl rfl rfl (by decide)) rfl rfl rfl (d_skipT (i := j_e) (by omega) hK qT q_13 (by omega) (by omega) hmk rfl) ?_
                  rintro _ _ ⟨rfl, rfl⟩
                  refine me_1f (pc' := 156) dm_X7_group_153 rfl (by decide) rfl ?_
                  refine me1 (pc' := 158) (L' := [(4, .ref kop), (0, .ref 13), (2, ii ((o0 + 1 : Nat) : Int)), (3, .ref h.length), (5, ii ((n : Nat) : Int))]) (S' := [.ref kop]) dm_X7_group_156 rfl rfl rfl rfl ?_
                  refine me2 (pc' := 162) (S' := [.ref kop]) dm_X7_group_158 rfl rfl rfl ?_
                  refine y_ret (r := some (.ref kop)) dm_X7_group_162 rfl rfl rfl ?_
                  have hj2 := TOKS_lt hK (i := j_e) (by have := hmk.1; omega)
                  have hPj := hK.2.2.2.2.2.2.1 j_e hj2
                  have hLe := LI_e (g := g - 1) hl hA (by rw [← hg]; exact hL) (by rw [← hg]; exact e) hnm kF (by rw [← hg]; exact kC) qF ql
                  refine ⟨_, rfl, RX_iv (j := j_e + 1) ((pR3_l hm40 ho h41).trans (zR.trans (pR4_n e hnm hmk))) (hl_set (hl_lt q_13)) (rdF_set (Or.inl rfl) (rdF_nw (rdF_tr zF kF) qF (by omega))) ⟨by omega, by omega, by simp only [List.length_append, List.length_set, List.length_singleton]; omega⟩ ((cR_g hm40 h41).mpr ⟨h.length, ⟨by omega, Or.inr ⟨Nat.le_refl _, by simp only [List.length_append, List.length_set, List.length_singleton]; omega⟩, ?_⟩, cR_k (fun x y u v => ⟨?_, ?_⟩) _ _ _ _ _ _ _ _ hLe.2⟩) ?_ ?_⟩
                  · rw [hLe.1, if_neg (by omega)]
                    exact (hl_ne (by omega) q_k0)
                  · rcases u with u | u
                    · exact Or.inl u
                    · exact Or.inr ⟨u.1, by simp only [List.length_append, List.length_set, List.length_singleton]; exact u.2⟩
                  · rw [List.getElem?_set_ne (by rcases u with u | u; (have := hA x u; omega); (have := u.1; omega))]; exact v
                  · show _ + (1 - 0) ≤ _
                    simp only [List.length_append, List.length_set, List.length_singleton]; omega
                  · show _ + 10 * (1 - 0) ≤ _
                    rw [sl_rd q_13]; omega
                · refine me1 (pc' := 148) (L' := [(4, .ref kop), (0, .ref 13), (2, ii ((o0 + 1 : Nat) : Int)), (3, .ref h.length), (5, ii ((n : Nat) : Int))]) (S' := [.ref 13]) dm_X7_group_147 rfl rfl rfl rfl ?_
                  refine me0 (pc' := 150) (S' := [ii 41, .ref 13]) dm_X7_group_148 rfl rfl rfl rfl ?_
                  refine x_cv (pc' := 153) (rest := []) dm_X7_group_150 rfl (g_inv (As := [ii 41]) (S := []) q_13 rfl rfl rfl (by decide)) rfl rfl rfl (d_skipF (i := j_e) (by omega) hK qT q_13 (by omega) (by omega) hmk rfl) ?_
                  rintro _ _ ⟨rfl, rfl⟩
                  refine me_1t (pc' := 161) dm_X7_group_153 rfl (by decide) ?_
                  refine me0 (pc' := 162) (S' := [.null]) dm_X7_group_161 rfl rfl rfl rfl ?_
                  refine y_ret (r := some (.null)) dm_X7_group_162 rfl rfl rfl ?_
                  have hPe := hPl j_e
                  exact ⟨_, rfl, RX_ie ((pR3_l hm40 ho h41).trans (zR.trans (pR4_x e hnm hmk))) (hl_set (hl_lt q_13)) (rdF_set (Or.inl rfl) (rdF_nw (rdF_tr zF kF) qF (by omega))) (by show _ ≤ _ + 0; simp only [List.length_append, List.length_set, List.length_singleton]; omega) (by show _ ≤ _ + 10 * 0; rw [sl_rd q_13]; omega)⟩
              · refine me1 (pc' := 143) (L' := [(4, .ref kop), (0, .ref 13), (2, ii ((o0 + 1 : Nat) : Int)), (3, .ref h.length), (5, ii ((n : Nat) : Int))]) (S' := [.ref h.length]) dm_X7_group_142 rfl rfl rfl rfl ?_
                refine me0 (pc' := 144) (S' := [ii 0, .ref h.length]) dm_X7_group_143 rfl rfl rfl rfl ?_
                refine me3 (pc' := 147) (S' := []) (h1 := (k).set h.length (cO 4 [ii 0, ii (tqP (T i) : Int), ii 0, .long (Int64.ofInt 0), ii 0, ii 0, ii ((n + 1 : Nat) : Int), .null, oV b, .null])) dm_X7_group_144 (g_put (fs' := [ii 0, ii (tqP (T i) : Int), ii 0, .long (Int64.ofInt 0), ii 0, ii 0, ii ((n + 1 : Nat) : Int), .null, oV b, .null]) (hl_set (hl_lt k_k0)) rfl (by rw [List.set_set]) rfl (by simp) rfl (by decide) (fun z => by cases z) (by omega)) rfl rfl rfl ?_
                obtain ⟨q, qe⟩ : ∃ q, q = ((k).set h.length (cO 4 [ii 0, ii (tqP (T i) : Int), ii 0, .long (Int64.ofInt 0), ii 0, ii 0, ii ((n + 1 : Nat) : Int), .null, oV b, .null])) := ⟨_, rfl⟩
                have q_13 : q[13]? = some (cO 7 [.ref 9, ii ((j_e : Nat) : Int), ii kwr, ii ls, .long nm, st, ktl]) := by rw [qe]; exact (hl_ne (by omega) k_13)
                have q_9 : q[9]? = some (cO 8 [.ref 10, .ref 11, .ref 12, ii ((mk + 1 : Nat) : Int), ii le_, .ref 3, .ref 4, ii (ln : Int), zz gd]) := by rw [qe]; exact (hl_ne (by omega) k_9)
                have q_k0 : q[h.length]? = some (cO 4 [ii 0, ii (tqP (T i) : Int), ii 0, .long (Int64.ofInt 0), ii 0, ii 0, ii ((n + 1 : Nat) : Int), .null, oV b, .null]) := by rw [qe]; exact (hl_set (hl_lt k_k0))
                have qT : TT q T mk ln := by rw [qe]; exact (TT_set (by omega) kT)
                refine pg_cast (h2 := q) qe.symm ?_
                have ql : q.length = k.length := by rw [qe]; simp
                have qs : mj_sl q = mj_sl k := by rw [qe]; exact sl_set k_k0 rfl
                have qF : rdF k q h.length := by rw [qe]; exact rdF_set (Or.inr (Or.inl rfl)) (rdF_rf k h.length)
                by_cases hmk : isMk T j_e 41
                · refine me1 (pc' := 148) (L' := [(4, .ref kop), (0, .ref 13), (2, ii ((o0 + 1 : Nat) : Int)), (3, .ref h.length), (5, ii ((n : Nat) : Int))]) (S' := [.ref 13]) dm_X7_group_147 rfl rfl rfl rfl ?_
                  refine me0 (pc' := 150) (S' := [ii 41, .ref 13]) dm_X7_group_148 rfl rfl rfl rfl ?_
                  refine x_cv (pc' := 153) (rest := []) dm_X7_group_150 rfl (g_inv (As := [ii 41]) (S := []) q_13 rfl rfl rfl (by decide)) rfl rfl rfl (d_skipT (i := j_e) (by omega) hK qT q_13 (by omega) (by omega) hmk rfl) ?_
                  rintro _ _ ⟨rfl, rfl⟩
                  refine me_1f (pc' := 156) dm_X7_group_153 rfl (by decide) rfl ?_
                  refine me1 (pc' := 158) (L' := [(4, .ref kop), (0, .ref 13), (2, ii ((o0 + 1 : Nat) : Int)), (3, .ref h.length), (5, ii ((n : Nat) : Int))]) (S' := [.ref kop]) dm_X7_group_156 rfl rfl rfl rfl ?_
                  refine me2 (pc' := 162) (S' := [.ref kop]) dm_X7_group_158 rfl rfl rfl ?_
                  refine y_ret (r := some (.ref kop)) dm_X7_group_162 rfl rfl rfl ?_
                  have hj2 := TOKS_lt hK (i := j_e) (by have := hmk.1; omega)
                  have hPj := hK.2.2.2.2.2.2.1 j_e hj2
                  have hLe := LI_e (g := g - 1) hl hA (by rw [← hg]; exact hL) (by rw [← hg]; exact e) hnm kF (by rw [← hg]; exact kC) qF ql
                  refine ⟨_, rfl, RX_iv (j := j_e + 1) ((pR3_l hm40 ho h41).trans (zR.trans (pR4_n e hnm hmk))) (hl_set (hl_lt q_13)) (rdF_set (Or.inl rfl) (rdF_nw (rdF_tr zF kF) qF (by omega))) ⟨by omega, by omega, by simp only [List.length_append, List.length_set, List.length_singleton]; omega⟩ ((cR_g hm40 h41).mpr ⟨h.length, ⟨by omega, Or.inr ⟨Nat.le_refl _, by simp only [List.length_append, List.length_set, List.length_singleton]; omega⟩, ?_⟩, cR_k (fun x y u v => ⟨?_, ?_⟩) _ _ _ _ _ _ _ _ hLe.2⟩) ?_ ?_⟩
                  · rw [hLe.1, if_pos (by omega)]
                    exact (hl_ne (by omega) q_k0)
                  · rcases u with u | u
                    · exact Or.inl u
                    · exact Or.inr ⟨u.1, by simp only [List.length_append, List.length_set, List.length_singleton]; exact u.2⟩
                  · rw [List.getElem?_set_ne (by rcases u with u | u; (have := hA x u; omega); (have := u.1; omega))]; exact v
                  · show _ + (1 - 0) ≤ _
                    simp only [List.length_append, List.length_set, List.length_singleton]; omega
                  · show _ + 10 * (1 - 0) ≤ _
                    rw [sl_rd q_13]; omega
                · refine me1 (pc' := 148) (L' := [(4, .ref kop), (0, .ref 13), (2, ii ((o0 + 1 : Nat) : Int)), (3, .ref h.length), (5, ii ((n : Nat) : Int))]) (S' := [.ref 13]) dm_X7_group_147 rfl rfl rfl rfl ?_
                  refine me0 (pc' := 150) (S' := [ii 41, .ref 13]) dm_X7_group_148 rfl rfl rfl rfl ?_
                  refine x_cv (pc' := 153) (rest := []) dm_X7_group_150 rfl (g_inv (As := [ii 41]) (S := []) q_13 rfl rfl rfl (by decide)) rfl rfl rfl (d_skipF (i := j_e) (by omega) hK qT q_13 (by omega) (by omega) hmk rfl) ?_
                  rintro _ _ ⟨rfl, rfl⟩
                  refine me_1t (pc' := 161) dm_X7_group_153 rfl (by decide) ?_
                  refine me0 (pc' := 162) (S' := [.null]) dm_X7_group_161 rfl rfl rfl rfl ?_
                  refine y_ret (r := some (.null)) dm_X7_group_162 rfl rfl rfl ?_
                  have hPe := hPl j_e
                  exact ⟨_, rfl, RX_ie ((pR3_l hm40 ho h41).trans (zR.trans (pR4_x e hnm hmk))) (hl_set (hl_lt q_13)) (rdF_set (Or.inl rfl) (rdF_nw (rdF_tr zF kF) qF (by omega))) (by show _ ≤ _ + 0; simp only [List.length_append, List.length_set, List.length_singleton]; omega) (by show _ ≤ _ + 10 * 0; rw [sl_rd q_13]; omega)⟩
    exact pg_sub (L := [(0, .ref 13), (2, ii ((o0 + 1 : Nat) : Int)), (3, .ref h.length), (4, .ref h.length), (5, ii ((0 : Nat) : Int))]) rfl rfl rfl (lp65 _ 0 (i + 1) g0 h.length g1 wr tl rfl (LI_0 g1_13 g1_k0 g1F g1l g1s (by omega) (by omega)))
  · replace hb1 := dT hb1
    have h41 := hb1
    refine me1 (pc' := 48) (L' := [(3, .ref h.length), (0, .ref 13), (1, oV b), (2, ii ((o0 + 1 : Nat) : Int))]) (S' := [.ref 13]) dm_X7_group_47 rfl rfl rfl rfl ?_
    refine me0 (pc' := 49) (S' := [.ref 13, .ref 13]) dm_X7_group_48 rfl rfl rfl rfl ?_
    refine me3 (pc' := 52) (S' := [ii ((i + 1 : Nat) : Int), .ref 13]) dm_X7_group_49 (g_get (v := ii ((i + 1 : Nat) : Int)) (hl_set (hl_lt (hl_app h13))) rfl rfl (by decide)) rfl rfl rfl ?_
    refine me0 (pc' := 53) (S' := [ii 1, ii ((i + 1 : Nat) : Int), .ref 13]) dm_X7_group_52 rfl rfl rfl rfl ?_
    refine y_iadd (a := ((i + 1 : Nat) : Int)) (b := 1) dm_X7_group_53 (pc' := 54) rfl ?_
    refine pg_st (S' := [ii ((i + 1 + 1 : Nat) : Int), .ref 13]) (congrArg (fun z => ii z :: [.ref 13]) (by omega)) ?_
    refine me3 (pc' := 57) (S' := []) (h1 := (h ++ [cO 4 [ii 5, ii (tqP (T i) : Int), ii 0, .long (Int64.ofInt 0), ii 0, ii 0, ii 0, .null, oV b, .null]]).set 13 (cO 7 [.ref 9, ii ((i + 1 + 1 : Nat) : Int), ii wr, ii ls, .long nm, st, tl])) dm_X7_group_54 (g_put (fs' := [.ref 9, ii ((i + 1 + 1 : Nat) : Int), ii wr, ii ls, .long nm, st, tl]) (hl_set (hl_lt (hl_app h13))) rfl (by rw [List.set_set]) rfl (by simp) rfl (by decide) (fun z => by cases z) (by decide)) rfl rfl rfl ?_
    refine me1 (pc' := 58) (L' := [(3, .ref h.length), (0, .ref 13), (1, oV b), (2, ii ((o0 + 1 : Nat) : Int))]) (S' := [.ref h.length]) dm_X7_group_57 rfl rfl rfl rfl ?_
    refine y_ret (r := some (.ref h.length)) dm_X7_group_58 rfl rfl rfl ?_
    have hl41 := TOKS_lt hK (i := i + 1) (by have := h41.1; omega)
    have hP3 : tqP (T (i + 1)) + 1 ≤ tqP (T (i + 2)) := hK.2.2.2.2.2.2.1 (i + 1) hl41
    refine ⟨_, rfl, RX_iv (j := i + 2) (pR3_0 hm40 ho h41) (hl_set (hl_lt (hl_app h13))) (rdF_set (Or.inl rfl) (rdF_app (rdF_rf h 13))) ⟨by omega, Nat.le_refl _, by simp only [List.length_append, List.length_set, List.length_singleton]; omega⟩ ((cR_g0 hm40 h41).mpr ⟨by omega, Or.inr ⟨Nat.le_refl _, by simp only [List.length_append, List.length_set, List.length_singleton]; omega⟩, (hl_ne (by omega) hl_new)⟩) ?_ ?_⟩
    · show _ + (1 - 0) ≤ _
      simp only [List.length_append, List.length_set, List.length_singleton]; omega
    · show _ + 10 * (1 - 0) ≤ _
      rw [sl_rd (hl_app h13), sl_app, sl_op]; omega
