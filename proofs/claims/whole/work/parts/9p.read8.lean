/-! reading an expression -/
def EI (A : Nat → Prop) (h : mj_H) (T : Nat → Tok) (mk ln f o i : Nat) (b : Option Nat) (ls : Int) (nm : Int64) (st : Value) (c a g : Nat) (bo : Option Nat) (z : mj_H) (wr : Int) (tl : Value) : Prop :=
  z[13]? = some (rdC (a : Int) wr ls nm st tl) ∧ rdF h z 13 ∧ (i ≤ a ∧ a ≤ mk) ∧ c ≤ a - i ∧ (8 * (mk - a) + 6 ≤ g ∧ g ≤ f) ∧ pR T f 0 o i = pR T g 0 o a ∧ z.length + 4 * tqP (T i) ≤ h.length + 4 * tqP (T a) ∧ mj_sl z + 40 * tqP (T i) ≤ mj_sl h + 40 * tqP (T a) ∧ (∀ A' z' op, kpA (newA A h z) z A' z' → cR A' z' T g 0 o a op bo 0 0 → cR A' z' T f 0 o i op b 0 0)
section EIs
variable {A : Nat → Prop} {h z k z2 : mj_H} {T : Nat → Tok} {mk ln f o i c a g j op t : Nat} {b bo : Option Nat} {ls wr wr' : Int} {nm : Int64} {st tl tl' : Value}
theorem EI_0 (h13 : h[13]? = some (rdC (i : Int) wr ls nm st tl)) (hi : i ≤ mk) (hf : 8 * (mk - i) + 6 ≤ f) : EI A h T mk ln f o i b ls nm st 0 i f b h wr tl := ⟨h13, rdF_rf h 13, ⟨Nat.le_refl _, hi⟩, by omega, ⟨hf, Nat.le_refl _⟩, rfl, Nat.le_refl _, Nat.le_refl _, fun _ _ _ _ cr => cr⟩
theorem n13_new (hl : 127 ≤ h.length) (hA : okA A h) {z : mj_H} {x : Nat} (w : newA A h z x) : x ≠ 13 := by
  rcases w with w | w
  · have := hA x w; omega
  · have := w.1; omega
theorem EI_d (hl : 127 ≤ h.length) (hA : okA A h) (hK : TOKS T mk ln) (hE : EI A h T mk ln f o i b ls nm st c a (g + 1) bo z wr tl) (hd : isDs T a) (hw : W2 (z ++ [opC 3 0 0 (Int64.ofInt 0) 0 0 0 .null (oV bo) .null]) z2 z.length) (hc : z2[z.length]? = some (doC T a 3 (oV bo))) (h13 : z2[13]? = some (rdC ((dsE T a : Nat) : Int) wr' ls nm st tl')) : EI A h T mk ln f o i b ls nm st (c + 1) (dsE T a) g (some z.length) z2 wr' tl' := by
  obtain ⟨h1, h2, h3, h4, h5, h6, h7, h8, h9⟩ := hE
  have zl := h2.1
  obtain ⟨w1, w2, w3⟩ := hw
  rw [List.length_append, List.length_singleton] at w1
  rw [sl_app, sl_op] at w2
  have dm := dsE_mk hK hd
  have hP := P_le hK (i := a) (j := dsE T a) (by omega) dm.2.2
  have zz2 : ∀ x, x < z.length → x ≠ 13 → z2[x]? = z[x]? := fun x c1 c2 => by rw [w3 x c2 (by omega), List.getElem?_append_left c1]
  refine ⟨h13, ⟨by omega, fun x c1 c2 c3 => (zz2 x (by omega) c2).trans (h2.2 x c1 c2 c3)⟩, by omega, by omega, by omega, by rw [h6, pR0_d hd], by omega, by omega, ?_⟩
  intro A' z' op kp cr
  have kz : kpA (newA A h z) z (newA A h z2) z2 := fun x e u v => ⟨by
    rcases u with u | u
    · exact Or.inl u
    · exact Or.inr ⟨u.1, by have := u.2; omega⟩, by rw [zz2 x (hl_lt v) (n13_new hl hA u)]; exact v⟩
  have na : newA A h z2 z.length := Or.inr ⟨zl, by omega⟩
  exact h9 A' z' op (kpA_tr kz kp) ((cR_d hd).mpr ⟨z.length, ⟨by omega, (kp _ _ na hc).1, (kp _ _ na hc).2⟩, cr⟩)
/-- the frozen cells of a noun are frozen cells -/
theorem kp_noun (hl : 127 ≤ h.length) (hA : okA A h) {H0 : mj_H} (hz : rdF h z 13) (h0 : H0.length = z.length + 1) (hk : ∀ x, x < k.length → x ≠ 13 → x ≠ t → z2[x]? = k[x]?) (hl2 : z2.length = k.length) (h0k : H0.length ≤ k.length) : kpA (fun y => (newA A H0 k y ∨ y = z.length) ∧ y ≠ t) k (newA A h z2) z2 := by
  intro x e u v
  have zl := hz.1
  have n1 : newA A h z2 x := by
    rcases u.1 with (w | w) | w
    · exact Or.inl w
    · exact Or.inr ⟨by have := w.1; omega, by have := w.2; omega⟩
    · exact Or.inr ⟨by omega, by have := hl_lt v; omega⟩
  exact ⟨n1, by rw [hk x (hl_lt v) (n13_new hl hA n1) u.2]; exact v⟩
theorem EI_a (hl : 127 ≤ h.length) (hA : okA A h) (hK : TOKS T mk ln) (hE : EI A h T mk ln f o i b ls nm st c a (g + 1) bo z wr tl) (hd : ¬ isDs T a) (e : pR T g 1 o a = .inr j) (hj : isDs T j) (haj : a < j) (kF : rdF (z ++ [psC bo]) k z.length) (kt : t = z.length ∨ (z ++ [psC bo]).length ≤ t) (kc : k[t]? = some (psC bo)) (kC : cR (fun y => (newA A (z ++ [psC bo]) k y ∨ y = z.length) ∧ y ≠ t) k T g 1 o a op (some t) 0 0) (kL : k.length + 4 * tqP (T a) + 1 ≤ (z ++ [psC bo]).length + 4 * tqP (T j)) (kS : mj_sl k + 40 * tqP (T a) + 10 ≤ mj_sl (z ++ [psC bo]) + 40 * tqP (T j)) (hw : W2 (k.set t (opC 4 0 0 (Int64.ofInt 0) 0 0 0 .null (oV bo) .null)) z2 t) (hc : z2[t]? = some (doC T j 4 (oV bo))) (h13 : z2[13]? = some (rdC ((dsE T j : Nat) : Int) wr' ls nm st tl')) : EI A h T mk ln f o i b ls nm st (c + 1) (dsE T j) g (some op) z2 wr' tl' := by
  obtain ⟨h1, h2, h3, h4, h5, h6, h7, h8, h9⟩ := hE
  have zl := h2.1
  have kl := kF.1
  have tl1 := hl_lt kc
  obtain ⟨w1, w2, w3⟩ := hw
  rw [List.length_set] at w1
  rw [sl_set (e' := opC 4 0 0 (Int64.ofInt 0) 0 0 0 .null (oV bo) .null) kc rfl] at w2
  have l0 : (z ++ [psC bo]).length = z.length + 1 := by rw [List.length_append, List.length_singleton]
  rw [sl_app, sl_op] at kS
  rw [l0] at kL kt kl
  have dm := dsE_mk hK hj
  have hP := P_le hK (i := j) (j := dsE T j) (by omega) dm.2.2
  have kz2 : ∀ x, x < k.length → x ≠ 13 → x ≠ t → z2[x]? = k[x]? := fun x c1 c2 c3 => by rw [w3 x c2 c3, List.getElem?_set_ne (by omega)]
  have zz2 : ∀ x, x < z.length → x ≠ 13 → z2[x]? = z[x]? := fun x c1 c2 => by rw [kz2 x (by omega) c2 (by omega), kF.2 x (by omega) c2 (by omega), List.getElem?_append_left c1]
  refine ⟨h13, ⟨by omega, fun x c1 c2 c3 => (zz2 x (by omega) c2).trans (h2.2 x c1 c2 c3)⟩, by omega, by omega, by omega, by rw [h6, pR0_a hd e hj], by omega, by omega, ?_⟩
  intro A' z' op' kp cr
  have kz : kpA (newA A h z) z (newA A h z2) z2 := fun x e u v => ⟨by
    rcases u with u | u
    · exact Or.inl u
    · exact Or.inr ⟨u.1, by have := u.2; omega⟩, by rw [zz2 x (hl_lt v) (n13_new hl hA u)]; exact v⟩
  have na : newA A h z2 t := Or.inr ⟨by omega, by omega⟩
  exact h9 A' z' op' (kpA_tr kz kp) ((cR_a hd e hj).mpr ⟨t, op, ⟨by omega, (kp _ _ na hc).1, (kp _ _ na hc).2⟩, cR_k (kpA_tr (kp_noun hl hA h2 l0 kz2 w1 (by omega)) kp) _ _ _ _ _ _ _ _ kC, cr⟩)
theorem EI_n (hl : 127 ≤ h.length) (hA : okA A h) (hE : EI A h T mk ln f o i b ls nm st c a (g + 1) bo z wr tl) (hd : ¬ isDs T a) (e : pR T g 1 o a = .inr j) (hj : ¬ isDs T j) (k13 : k[13]? = some (rdC (j : Int) wr' ls nm st tl')) (kF : rdF (z ++ [psC bo]) k z.length) (kO : 2 ≤ op ∧ (z ++ [psC bo]).length ≤ op ∧ op < k.length) (kt : t = z.length ∨ (z ++ [psC bo]).length ≤ t) (kc : k[t]? = some (psC bo)) (kC : cR (fun y => (newA A (z ++ [psC bo]) k y ∨ y = z.length) ∧ y ≠ t) k T g 1 o a op (some t) 0 0) (kL : k.length + 4 * tqP (T a) + 1 ≤ (z ++ [psC bo]).length + 4 * tqP (T j)) (kS : mj_sl k + 40 * tqP (T a) + 10 ≤ mj_sl (z ++ [psC bo]) + 40 * tqP (T j)) : RX A h T ln f 0 o i b ls nm st (.ref op) k := by
  obtain ⟨h1, h2, h3, h4, h5, h6, h7, h8, h9⟩ := hE
  have zl := h2.1
  have kl := kF.1
  have tl1 := hl_lt kc
  have l0 : (z ++ [psC bo]).length = z.length + 1 := by rw [List.length_append, List.length_singleton]
  rw [sl_app, sl_op] at kS
  rw [l0] at kL kt kl kO
  have hc : ceM 0 = 1 := rfl
  have zk : ∀ x, x < z.length → x ≠ 13 → k[x]? = z[x]? := fun x c1 c2 => by rw [kF.2 x (by omega) c2 (by omega), List.getElem?_append_left c1]
  refine RX_iv (h6.trans (pR0_n hd e hj)) k13 ⟨by omega, fun x c1 c2 c3 => (zk x (by omega) c2).trans (h2.2 x c1 c2 c3)⟩ ⟨kO.1, by omega, kO.2.2⟩ (h9 _ _ _ ?_ ((cR_n hd e hj).mpr ⟨t, ⟨by omega, Or.inr ⟨by omega, by omega⟩, kc⟩, cR_k (kp_noun hl hA h2 l0 (fun x _ _ _ => rfl) rfl (by omega)) _ _ _ _ _ _ _ _ kC⟩)) (by omega) (by omega)
  exact fun x e u v => ⟨by
    rcases u with u | u
    · exact Or.inl u
    · exact Or.inr ⟨u.1, by have := u.2; omega⟩, by rw [zk x (hl_lt v) (n13_new hl hA u)]; exact v⟩
end EIs
set_option maxRecDepth 20000 in
theorem pm_X7_expr : mj_mmof pg_ms 41 = some ((⟨"ArrayCalculator$Reader", "expr", "(LArrayCalculator$Op;I)LArrayCalculator$Op;"⟩, prog_9_method_12_code, 6, (Option.some (Jvm.ClassFile.FieldType.object "ArrayCalculator$Op"))), 7, false, mj_dec prog_9_method_12_code) := rfl
theorem dm_X7_expr_0 : mj_dec prog_9_method_12_code 0 = some (.aload_n 1, 1) := by decide +kernel
theorem dm_X7_expr_1 : mj_dec prog_9_method_12_code 1 = some (.astore_n 3, 1) := by decide +kernel
theorem dm_X7_expr_2 : mj_dec prog_9_method_12_code 2 = some (.iconst 0, 1) := by decide +kernel
theorem dm_X7_expr_3 : mj_dec prog_9_method_12_code 3 = some (.istore 4, 2) := by decide +kernel
theorem dm_X7_expr_5 : mj_dec prog_9_method_12_code 5 = some (.iload 4, 2) := by decide +kernel
theorem dm_X7_expr_7 : mj_dec prog_9_method_12_code 7 = some (.sipush 200, 3) := by decide +kernel
theorem dm_X7_expr_10 : mj_dec prog_9_method_12_code 10 = some (.if_icmp .gt 91, 3) := by decide +kernel
theorem dm_X7_expr_13 : mj_dec prog_9_method_12_code 13 = some (.aload_n 0, 1) := by decide +kernel
theorem dm_X7_expr_14 : mj_dec prog_9_method_12_code 14 = some (.invokevirtual 96, 3) := by decide +kernel
theorem dm_X7_expr_17 : mj_dec prog_9_method_12_code 17 = some (.ifCond .eq 27, 3) := by decide +kernel
theorem dm_X7_expr_20 : mj_dec prog_9_method_12_code 20 = some (.new 15, 3) := by decide +kernel
theorem dm_X7_expr_23 : mj_dec prog_9_method_12_code 23 = some (.dup, 1) := by decide +kernel
theorem dm_X7_expr_24 : mj_dec prog_9_method_12_code 24 = some (.iconst 3, 1) := by decide +kernel
theorem dm_X7_expr_25 : mj_dec prog_9_method_12_code 25 = some (.iconst 0, 1) := by decide +kernel
theorem dm_X7_expr_26 : mj_dec prog_9_method_12_code 26 = some (.aload_n 3, 1) := by decide +kernel
theorem dm_X7_expr_27 : mj_dec prog_9_method_12_code 27 = some (.invokespecial 17, 3) := by decide +kernel
theorem dm_X7_expr_30 : mj_dec prog_9_method_12_code 30 = some (.astore 5, 2) := by decide +kernel
theorem dm_X7_expr_32 : mj_dec prog_9_method_12_code 32 = some (.aload_n 0, 1) := by decide +kernel
theorem dm_X7_expr_33 : mj_dec prog_9_method_12_code 33 = some (.aload 5, 2) := by decide +kernel
theorem dm_X7_expr_35 : mj_dec prog_9_method_12_code 35 = some (.invokevirtual 99, 3) := by decide +kernel
theorem dm_X7_expr_38 : mj_dec prog_9_method_12_code 38 = some (.aload 5, 2) := by decide +kernel
theorem dm_X7_expr_40 : mj_dec prog_9_method_12_code 40 = some (.astore_n 3, 1) := by decide +kernel
theorem dm_X7_expr_41 : mj_dec prog_9_method_12_code 41 = some (.goto 54, 3) := by decide +kernel
theorem dm_X7_expr_44 : mj_dec prog_9_method_12_code 44 = some (.aload_n 0, 1) := by decide +kernel
theorem dm_X7_expr_45 : mj_dec prog_9_method_12_code 45 = some (.new 15, 3) := by decide +kernel
theorem dm_X7_expr_48 : mj_dec prog_9_method_12_code 48 = some (.dup, 1) := by decide +kernel
theorem dm_X7_expr_49 : mj_dec prog_9_method_12_code 49 = some (.iconst 0, 1) := by decide +kernel
theorem dm_X7_expr_50 : mj_dec prog_9_method_12_code 50 = some (.iconst 0, 1) := by decide +kernel
theorem dm_X7_expr_51 : mj_dec prog_9_method_12_code 51 = some (.aload_n 3, 1) := by decide +kernel
theorem dm_X7_expr_52 : mj_dec prog_9_method_12_code 52 = some (.invokespecial 17, 3) := by decide +kernel
theorem dm_X7_expr_55 : mj_dec prog_9_method_12_code 55 = some (.iload_n 2, 1) := by decide +kernel
theorem dm_X7_expr_56 : mj_dec prog_9_method_12_code 56 = some (.invokevirtual 103, 3) := by decide +kernel
theorem dm_X7_expr_59 : mj_dec prog_9_method_12_code 59 = some (.astore 5, 2) := by decide +kernel
theorem dm_X7_expr_61 : mj_dec prog_9_method_12_code 61 = some (.aload 5, 2) := by decide +kernel
theorem dm_X7_expr_63 : mj_dec prog_9_method_12_code 63 = some (.ifnull 10, 3) := by decide +kernel
theorem dm_X7_expr_66 : mj_dec prog_9_method_12_code 66 = some (.aload_n 0, 1) := by decide +kernel
theorem dm_X7_expr_67 : mj_dec prog_9_method_12_code 67 = some (.invokevirtual 96, 3) := by decide +kernel
theorem dm_X7_expr_70 : mj_dec prog_9_method_12_code 70 = some (.ifCond .ne 6, 3) := by decide +kernel
theorem dm_X7_expr_73 : mj_dec prog_9_method_12_code 73 = some (.aload 5, 2) := by decide +kernel
theorem dm_X7_expr_75 : mj_dec prog_9_method_12_code 75 = some (.areturn, 1) := by decide +kernel
theorem dm_X7_expr_76 : mj_dec prog_9_method_12_code 76 = some (.aload_n 0, 1) := by decide +kernel
theorem dm_X7_expr_77 : mj_dec prog_9_method_12_code 77 = some (.getfield 20, 3) := by decide +kernel
theorem dm_X7_expr_80 : mj_dec prog_9_method_12_code 80 = some (.iconst 4, 1) := by decide +kernel
theorem dm_X7_expr_81 : mj_dec prog_9_method_12_code 81 = some (.putfield 106, 3) := by decide +kernel
theorem dm_X7_expr_84 : mj_dec prog_9_method_12_code 84 = some (.aload_n 0, 1) := by decide +kernel
theorem dm_X7_expr_85 : mj_dec prog_9_method_12_code 85 = some (.aload_n 0, 1) := by decide +kernel
theorem dm_X7_expr_86 : mj_dec prog_9_method_12_code 86 = some (.getfield 20, 3) := by decide +kernel
theorem dm_X7_expr_89 : mj_dec prog_9_method_12_code 89 = some (.invokevirtual 99, 3) := by decide +kernel
theorem dm_X7_expr_92 : mj_dec prog_9_method_12_code 92 = some (.aload 5, 2) := by decide +kernel
theorem dm_X7_expr_94 : mj_dec prog_9_method_12_code 94 = some (.astore_n 3, 1) := by decide +kernel
theorem dm_X7_expr_95 : mj_dec prog_9_method_12_code 95 = some (.iinc 4 1, 3) := by decide +kernel
theorem dm_X7_expr_98 : mj_dec prog_9_method_12_code 98 = some (.goto (-93), 3) := by decide +kernel
theorem d_expr1 {xt : mj_X} {f1 : Nat → Value} {o f d mk ln i : Nat} {A : Nat → Prop} {T : Nat → Tok} {wr ls : Int} {nm : Int64} {st tl : Value} {h : mj_H} (hx1 : xt 1 = some (.long, 0, f1)) (hd : 4 * (12 - o) + 10 ≤ d) (hl : 127 ≤ h.length) (hA : okA A h) (hK : TOKS T mk ln) (hT : TT h T mk ln) (h13 : h[13]? = some (rdC (i : Int) wr ls nm st tl)) {b : Option Nat} (hE : ∀ g, g < f → EX xt T mk ln g ls nm st) (hi : i ≤ mk) (ho : o ≤ 12) (hf : 8 * (mk - i) + 6 ≤ f) : pgV xt d 41 [.ref 13, oV b, ii (o : Int)] h (RX A h T ln f 0 o i b ls nm st) := by
  obtain ⟨le_, gd, sf, pf, bf, df, hk9, -, -, -, -, -, -⟩ := id hT
  have h9 := hk9.1
  have hmk200 := hK.1
  refine x_enter pm_X7_expr (L0 := [(0, .ref 13), (1, oV b), (2, ii (o : Int))]) (by cases b <;> rfl) (by cases b <;> exact Nat.le_of_ble_eq_true rfl) (by omega) ?_
  refine me1 (pc' := 1) (L' := [(0, .ref 13), (1, oV b), (2, ii (o : Int))]) (S' := [oV b]) dm_X7_expr_0 (by cases b <;> rfl) rfl rfl rfl ?_
  refine me1 (pc' := 2) (L' := [(3, oV b), (0, .ref 13), (1, oV b), (2, ii (o : Int))]) (S' := []) dm_X7_expr_1 (by cases b <;> rfl) rfl rfl rfl ?_
  refine me0 (pc' := 3) (S' := [ii 0]) dm_X7_expr_2 rfl rfl rfl rfl ?_
  refine me1 (pc' := 5) (L' := [(4, ii 0), (3, oV b), (0, .ref 13), (1, oV b), (2, ii (o : Int))]) (S' := []) dm_X7_expr_3 (by cases b <;> rfl) rfl rfl rfl ?_
  have lp5 : ∀ (n5 : Nat) (c : Nat) (a : Nat) (g : Nat) (bo : Option Nat) (z : mj_H) (wr2 : Int) (tl2 : Value), mk - a = n5 → (EI A h T mk ln f o i b ls nm st c a g bo z wr2 tl2) → pgE xt (d - 1) 7 6 false (Option.some (Jvm.ClassFile.FieldType.object "ArrayCalculator$Op")) (mj_dec prog_9_method_12_code) 5 [(0, .ref 13), (2, ii (o : Int)), (3, oV bo), (4, ii ((c : Nat) : Int))] [] z (fun r h' => ∃ x, r = some x ∧ RX A h T ln f 0 o i b ls nm st x h') := by
    intro n5
    induction n5 using Nat.strongRecOn with
    | ind n5 ih5 =>
      intro c a g bo z wr2 tl2 hm5 hEI
      obtain ⟨z_13, zF, za, zc, zg, zR, zL, zS, -⟩ := id hEI
      have zl := zF.1
      have zT : TT z T mk ln := rdF_TT zF (by omega) (by omega) hT
      have z_9 := (zF.2 9 (by omega) (by decide) (by omega)).trans h9
      have hg : g = (g - 1) + 1 := by omega
      have hPl : ∀ j, tqP (T j) ≤ ln := P_ln hK
      refine me1 (pc' := 7) (L' := [(0, .ref 13), (2, ii (o : Int)), (3, oV bo), (4, ii ((c : Nat) : Int))]) (S' := [ii ((c : Nat) : Int)]) dm_X7_expr_5 rfl rfl rfl rfl ?_
      refine me0 (pc' := 10) (S' := [ii 200, ii ((c : Nat) : Int)]) dm_X7_expr_7 rfl rfl rfl rfl ?_
      refine y_2gt (a := ((c : Nat) : Int)) (b := 200) (t := 101) (pc' := 13) dm_X7_expr_10 rfl rfl (by omega) (fun hb1 => ?_) (fun hb1 => ?_)
      · exfalso; omega
      · refine me1 (pc' := 14) (L' := [(0, .ref 13), (2, ii (o : Int)), (3, oV bo), (4, ii ((c : Nat) : Int))]) (S' := [.ref 13]) dm_X7_expr_13 rfl rfl rfl rfl ?_
        refine x_cp (pc' := 17) (v := zz (decide (isDs T a))) (rest := []) dm_X7_expr_14 rfl (g_inv (As := []) (S := []) z_13 rfl rfl rfl (by decide)) rfl rfl rfl (d_isDoes (i := a) (by omega) hK zT z_13 (by omega)) ?_
        refine y_zeq (c := decide (isDs T a)) (t := 44) (pc' := 20) dm_X7_expr_17 rfl rfl (fun hb2 => ?_) (fun hb2 => ?_)
        · replace hb2 := dF hb2
          have hnds := hb2
          refine me1 (pc' := 45) (L' := [(0, .ref 13), (2, ii (o : Int)), (3, oV bo), (4, ii ((c : Nat) : Int))]) (S' := [.ref 13]) dm_X7_expr_44 rfl rfl rfl rfl ?_
          refine me3 (pc' := 48) (S' := [.ref z.length, .ref 13]) (h1 := z ++ [cO 4 [ii 0, ii 0, ii 0, .long (Int64.ofInt 0), ii 0, ii 0, ii 0, .null, .null, .null]]) dm_X7_expr_45 (g_nw rfl rfl rfl) rfl rfl rfl ?_
          refine me0 (pc' := 49) (S' := [.ref z.length, .ref z.length, .ref 13]) dm_X7_expr_48 rfl rfl rfl rfl ?_
          refine me0 (pc' := 50) (S' := [ii 0, .ref z.length, .ref z.length, .ref 13]) dm_X7_expr_49 rfl rfl rfl rfl ?_
          refine me0 (pc' := 51) (S' := [ii 0, ii 0, .ref z.length, .ref z.length, .ref 13]) dm_X7_expr_50 rfl rfl rfl rfl ?_
          refine me1 (pc' := 52) (L' := [(0, .ref 13), (2, ii (o : Int)), (3, oV bo), (4, ii ((c : Nat) : Int))]) (S' := [oV bo, ii 0, ii 0, .ref z.length, .ref z.length, .ref 13]) dm_X7_expr_51 (by cases bo <;> rfl) rfl rfl rfl ?_
          refine x_cn (pc' := 55) (rest := [.ref z.length, .ref 13]) dm_X7_expr_52 rfl (g_invp (As := [ii 0, ii 0, oV bo]) (S := [.ref z.length, .ref 13]) rfl rfl rfl) rfl rfl rfl (o_init (b := bo) (by omega) (by omega) hl_new (hl_setl)) ?_
          rintro _ rfl
          refine me1 (pc' := 56) (L' := [(0, .ref 13), (2, ii (o : Int)), (3, oV bo), (4, ii ((c : Nat) : Int))]) (S' := [ii (o : Int), .ref z.length, .ref 13]) dm_X7_expr_55 rfl rfl rfl rfl ?_
          obtain ⟨Z0, Z0e⟩ : ∃ Z0, Z0 = (z ++ [cO 4 [ii 0, ii 0, ii 0, .long (Int64.ofInt 0), ii 0, ii 0, ii 0, .null, oV bo, .null]]) := ⟨_, rfl⟩
          have Z0_13 : Z0[13]? = some (cO 7 [.ref 9, ii ((a : Nat) : Int), ii wr2, ii ls, .long nm, st, tl2]) := by rw [Z0e]; exact (hl_app z_13)
          have Z0_9 : Z0[9]? = some (cO 8 [.ref 10, .ref 11, .ref 12, ii ((mk + 1 : Nat) : Int), ii le_, .ref 3, .ref 4, ii (ln : Int), zz gd]) := by rw [Z0e]; exact (hl_app z_9)
          have Z0_k0 : Z0[z.length]? = some (cO 4 [ii 0, ii 0, ii 0, .long (Int64.ofInt 0), ii 0, ii 0, ii 0, .null, oV bo, .null]) := by rw [Z0e]; exact hl_new
          have Z0T : TT Z0 T mk ln := by rw [Z0e]; exact (TT_app (by omega) zT)
          refine pg_cast (h2 := Z0) Z0e.symm ?_
          have Z0l : Z0.length = z.length + 1 := by rw [Z0e]; simp
          have Z0s : mj_sl Z0 = mj_sl z + 10 := by rw [Z0e, sl_app, sl_op]
          have Z0F : rdF h Z0 13 := by rw [Z0e]; exact rdF_app zF
          rcases e : pR T (g - 1) 1 o a with p_e | j_e
          · refine x_cv (pc' := 59) (rest := []) dm_X7_expr_56 rfl (g_inv (As := [.ref z.length, ii (o : Int)]) (S := []) Z0_13 rfl rfl rfl (by decide)) rfl rfl rfl (show pgV xt (d - 1) 44 [.ref 13, .ref z.length, ii (o : Int)] Z0 (RN A Z0 T ln (g - 1) o a bo z.length ls nm st) by rw [show g - 1 = (g - 2) + 1 by omega]; exact d_noun (f := g - 2) (wr := wr2) (tl := tl2) hx1 (by omega) (by omega) (okA_len hA (by omega)) hK Z0T Z0_13 (fun g9 hg9 => hE g9 (by omega)) (by omega) ho ⟨fun x => by have := (hA _ x).1; omega, by omega, by omega⟩ Z0_k0 (by omega)) ?_
            rintro x1 k hx
            obtain ⟨kat, ktl, rfl, k_13, kF, kL, kS⟩ := RN_e e hx
            have kl := kF.1
            have kT : TT k T mk ln := rdF_TT kF (by omega) (by omega) Z0T
            have k_9 : k[9]? = some (cO 8 [.ref 10, .ref 11, .ref 12, ii ((mk + 1 : Nat) : Int), ii le_, .ref 3, .ref 4, ii (ln : Int), zz gd]) := (kF.2 9 (by omega) (by decide) (by omega)).trans Z0_9
            refine me1 (pc' := 61) (L' := [(5, .null), (0, .ref 13), (2, ii (o : Int)), (3, oV bo), (4, ii ((c : Nat) : Int))]) (S' := []) dm_X7_expr_59 (by cases bo <;> rfl) rfl rfl rfl ?_
            refine me1 (pc' := 63) (L' := [(5, .null), (0, .ref 13), (2, ii (o : Int)), (3, oV bo), (4, ii ((c : Nat) : Int))]) (S' := [.null]) dm_X7_expr_61 rfl rfl rfl rfl ?_
            refine me2 (pc' := 73) (S' := []) dm_X7_expr_63 rfl rfl rfl ?_
            refine me1 (pc' := 75) (L' := [(5, .null), (0, .ref 13), (2, ii (o : Int)), (3, oV bo), (4, ii ((c : Nat) : Int))]) (S' := [.null]) dm_X7_expr_73 rfl rfl rfl rfl ?_
            refine y_ret (r := some (.null)) dm_X7_expr_75 rfl rfl rfl ?_
            have hc : ceM 0 = 1 := rfl
            exact ⟨_, rfl, RX_ie (zR.trans (by rw [hg]; exact pR0_e hnds e)) k_13 (rdF_nw Z0F kF (by omega)) (by have := hPl a; omega) (by have := hPl a; omega)⟩
          · refine x_cv (pc' := 59) (rest := []) dm_X7_expr_56 rfl (g_inv (As := [.ref z.length, ii (o : Int)]) (S := []) Z0_13 rfl rfl rfl (by decide)) rfl rfl rfl (show pgV xt (d - 1) 44 [.ref 13, .ref z.length, ii (o : Int)] Z0 (RN A Z0 T ln (g - 1) o a bo z.length ls nm st) by rw [show g - 1 = (g - 2) + 1 by omega]; exact d_noun (f := g - 2) (wr := wr2) (tl := tl2) hx1 (by omega) (by omega) (okA_len hA (by omega)) hK Z0T Z0_13 (fun g9 hg9 => hE g9 (by omega)) (by omega) ho ⟨fun x => by have := (hA _ x).1; omega, by omega, by omega⟩ Z0_k0 (by omega)) ?_
            rintro x1 k hx
            obtain ⟨kop, kt, kwr, rfl, k_13, kF, ktt, kO, kc, kC, kL, kS⟩ := RN_v e hx
            have hj := pR_mk hK _ 1 _ _ _ za.2 e
            have hjj := hj.2.2 (by decide)
            have klt := hl_lt kc
            have kt14 : 14 ≤ kt := by omega
            have kl := kF.1
            have kT : TT k T mk ln := rdF_TT kF (by omega) (by omega) Z0T
            have k_9 : k[9]? = some (cO 8 [.ref 10, .ref 11, .ref 12, ii ((mk + 1 : Nat) : Int), ii le_, .ref 3, .ref 4, ii (ln : Int), zz gd]) := (kF.2 9 (by omega) (by decide) (by omega)).trans Z0_9
            refine me1 (pc' := 61) (L' := [(5, .ref kop), (0, .ref 13), (2, ii (o : Int)), (3, oV bo), (4, ii ((c : Nat) : Int))]) (S' := []) dm_X7_expr_59 (by cases bo <;> rfl) rfl rfl rfl ?_
            refine me1 (pc' := 63) (L' := [(5, .ref kop), (0, .ref 13), (2, ii (o : Int)), (3, oV bo), (4, ii ((c : Nat) : Int))]) (S' := [.ref kop]) dm_X7_expr_61 rfl rfl rfl rfl ?_
            refine me2 (pc' := 66) (S' := []) dm_X7_expr_63 rfl rfl rfl ?_
            refine me1 (pc' := 67) (L' := [(5, .ref kop), (0, .ref 13), (2, ii (o : Int)), (3, oV bo), (4, ii ((c : Nat) : Int))]) (S' := [.ref 13]) dm_X7_expr_66 rfl rfl rfl rfl ?_
            refine x_cp (pc' := 70) (v := zz (decide (isDs T j_e))) (rest := []) dm_X7_expr_67 rfl (g_inv (As := []) (S := []) k_13 rfl rfl rfl (by decide)) rfl rfl rfl (d_isDoes (i := j_e) (by omega) hK kT k_13 (by omega)) ?_
            refine y_zne (c := decide (isDs T j_e)) (t := 76) (pc' := 73) dm_X7_expr_70 rfl rfl (fun hb3 => ?_) (fun hb3 => ?_)
            · replace hb3 := dT hb3
              have hdj := hb3
              refine me1 (pc' := 77) (L' := [(5, .ref kop), (0, .ref 13), (2, ii (o : Int)), (3, oV bo), (4, ii ((c : Nat) : Int))]) (S' := [.ref 13]) dm_X7_expr_76 rfl rfl rfl rfl ?_
              refine me3 (pc' := 80) (S' := [.ref kt]) dm_X7_expr_77 (g_get (v := .ref kt) k_13 rfl rfl (by decide)) rfl rfl rfl ?_
              refine me0 (pc' := 81) (S' := [ii 4, .ref kt]) dm_X7_expr_80 rfl rfl rfl rfl ?_
              refine me3 (pc' := 84) (S' := []) (h1 := (k).set kt (cO 4 [ii 4, ii 0, ii 0, .long (Int64.ofInt 0), ii 0, ii 0, ii 0, .null, oV bo, .null])) dm_X7_expr_81 (g_put (fs' := [ii 4, ii 0, ii 0, .long (Int64.ofInt 0), ii 0, ii 0, ii 0, .null, oV bo, .null]) kc rfl rfl rfl (by simp) rfl (by decide) (fun z => by cases z) (by omega)) rfl rfl rfl ?_
              refine me1 (pc' := 85) (L' := [(5, .ref kop), (0, .ref 13), (2, ii (o : Int)), (3, oV bo), (4, ii ((c : Nat) : Int))]) (S' := [.ref 13]) dm_X7_expr_84 rfl rfl rfl rfl ?_
              refine me1 (pc' := 86) (L' := [(5, .ref kop), (0, .ref 13), (2, ii (o : Int)), (3, oV bo), (4, ii ((c : Nat) : Int))]) (S' := [.ref 13, .ref 13]) dm_X7_expr_85 rfl rfl rfl rfl ?_
              refine me3 (pc' := 89) (S' := [.ref kt, .ref 13]) dm_X7_expr_86 (g_get (v := .ref kt) (hl_ne (by omega) k_13) rfl rfl (by decide)) rfl rfl rfl ?_
              refine x_cn (pc' := 92) (rest := []) dm_X7_expr_89 rfl (g_inv (As := [.ref kt]) (S := []) (hl_ne (by omega) k_13) rfl rfl rfl (by decide)) rfl rfl rfl (d_readDoes (i := j_e) (p := kt) (dd := 4) (nx := oV bo) (by omega) hK (TT_set (by omega) kT) (hl_ne (by omega) k_13) hdj (hl_set (hl_lt kc)) (by omega) (by omega)) ?_
              rintro z2 ⟨z2_c, z2_13, z2W⟩
              have dm9 := dsE_mk hK hdj
              refine me1 (pc' := 94) (L' := [(5, .ref kop), (0, .ref 13), (2, ii (o : Int)), (3, oV bo), (4, ii ((c : Nat) : Int))]) (S' := [.ref kop]) dm_X7_expr_92 rfl rfl rfl rfl ?_
              refine me1 (pc' := 95) (L' := [(3, .ref kop), (5, .ref kop), (0, .ref 13), (2, ii (o : Int)), (4, ii ((c : Nat) : Int))]) (S' := []) dm_X7_expr_94 (by cases bo <;> rfl) rfl rfl rfl ?_
              refine y_iinc (pc' := 98) (L' := [(4, ii (((c : Nat) : Int) + 1)), (3, .ref kop), (5, .ref kop), (0, .ref 13), (2, ii (o : Int))]) dm_X7_expr_95 (y_incp (a := ((c : Nat) : Int)) (c := 1) rfl rfl (by decide)) rfl ?_
              refine me2 (pc' := 5) (S' := []) dm_X7_expr_98 rfl rfl rfl ?_
              exact pg_sub (L := [(0, .ref 13), (2, ii (o : Int)), (3, oV (some kop)), (4, ii (((c + 1) : Nat) : Int))]) rfl rfl rfl (ih5 (mk - (dsE T j_e)) (by omega) (c + 1) (dsE T j_e) (g - 1) (some kop) z2 kwr (.ref kt) rfl (EI_a (g := g - 1) hl hA hK (by rw [← hg]; exact hEI) hnds e hdj (by omega) (by rw [← Z0e]; exact kF) (by rw [← Z0e]; exact ktt) kc (by rw [← Z0e]; exact kC) (by rw [← Z0e]; exact kL) (by rw [← Z0e]; exact kS) z2W z2_c z2_13))
            · replace hb3 := dF hb3
              have hndj := hb3
              refine me1 (pc' := 75) (L' := [(5, .ref kop), (0, .ref 13), (2, ii (o : Int)), (3, oV bo), (4, ii ((c : Nat) : Int))]) (S' := [.ref kop]) dm_X7_expr_73 rfl rfl rfl rfl ?_
              refine y_ret (r := some (.ref kop)) dm_X7_expr_75 rfl rfl rfl ?_
              refine ⟨_, rfl, EI_n (g := g - 1) hl hA (by rw [← hg]; exact hEI) hnds e hndj k_13 (by rw [← Z0e]; exact kF) (by rw [← Z0e]; exact kO) (by rw [← Z0e]; exact ktt) kc (by rw [← Z0e]; exact kC) (by rw [← Z0e]; exact kL) (by rw [← Z0e]; exact kS)⟩
        · replace hb2 := dT hb2
          have hds := hb2
          refine me3 (pc' := 23) (S' := [.ref z.length]) (h1 := z ++ [cO 4 [ii 0, ii 0, ii 0, .long (Int64.ofInt 0), ii 0, ii 0, ii 0, .null, .null, .null]]) dm_X7_expr_20 (g_nw rfl rfl rfl) rfl rfl rfl ?_
          refine me0 (pc' := 24) (S' := [.ref z.length, .ref z.length]) dm_X7_expr_23 rfl rfl rfl rfl ?_
          refine me0 (pc' := 25) (S' := [ii 3, .ref z.length, .ref z.length]) dm_X7_expr_24 rfl rfl rfl rfl ?_
          refine me0 (pc' := 26) (S' := [ii 0, ii 3, .ref z.length, .ref z.length]) dm_X7_expr_25 rfl rfl rfl rfl ?_
          refine me1 (pc' := 27) (L' := [(0, .ref 13), (2, ii (o : Int)), (3, oV bo), (4, ii ((c : Nat) : Int))]) (S' := [oV bo, ii 0, ii 3, .ref z.length, .ref z.length]) dm_X7_expr_26 (by cases bo <;> rfl) rfl rfl rfl ?_
          refine x_cn (pc' := 30) (rest := [.ref z.length]) dm_X7_expr_27 rfl (g_invp (As := [ii 3, ii 0, oV bo]) (S := [.ref z.length]) rfl rfl rfl) rfl rfl rfl (o_init (b := bo) (by omega) (by omega) hl_new (hl_setl)) ?_
          rintro _ rfl
          refine me1 (pc' := 32) (L' := [(5, .ref z.length), (0, .ref 13), (2, ii (o : Int)), (3, oV bo), (4, ii ((c : Nat) : Int))]) (S' := []) dm_X7_expr_30 (by cases bo <;> rfl) rfl rfl rfl ?_
          refine me1 (pc' := 33) (L' := [(5, .ref z.length), (0, .ref 13), (2, ii (o : Int)), (3, oV bo), (4, ii ((c : Nat) : Int))]) (S' := [.ref 13]) dm_X7_expr_32 rfl rfl rfl rfl ?_
          refine me1 (pc' := 35) (L' := [(5, .ref z.length), (0, .ref 13), (2, ii (o : Int)), (3, oV bo), (4, ii ((c : Nat) : Int))]) (S' := [.ref z.length, .ref 13]) dm_X7_expr_33 rfl rfl rfl rfl ?_
          refine x_cn (pc' := 38) (rest := []) dm_X7_expr_35 rfl (g_inv (As := [.ref z.length]) (S := []) (hl_app z_13) rfl rfl rfl (by decide)) rfl rfl rfl (d_readDoes (i := a) (p := z.length) (dd := 3) (nx := oV bo) (by omega) hK (TT_app (by omega) zT) (hl_app z_13) hds hl_new (by omega) (by omega)) ?_
          rintro z2 ⟨z2_c, z2_13, z2W⟩
          have dm9 := dsE_mk hK hds
          refine me1 (pc' := 40) (L' := [(5, .ref z.length), (0, .ref 13), (2, ii (o : Int)), (3, oV bo), (4, ii ((c : Nat) : Int))]) (S' := [.ref z.length]) dm_X7_expr_38 rfl rfl rfl rfl ?_
          refine me1 (pc' := 41) (L' := [(3, .ref z.length), (5, .ref z.length), (0, .ref 13), (2, ii (o : Int)), (4, ii ((c : Nat) : Int))]) (S' := []) dm_X7_expr_40 (by cases bo <;> rfl) rfl rfl rfl ?_
          refine me2 (pc' := 95) (S' := []) dm_X7_expr_41 rfl rfl rfl ?_
          refine y_iinc (pc' := 98) (L' := [(4, ii (((c : Nat) : Int) + 1)), (3, .ref z.length), (5, .ref z.length), (0, .ref 13), (2, ii (o : Int))]) dm_X7_expr_95 (y_incp (a := ((c : Nat) : Int)) (c := 1) rfl rfl (by decide)) rfl ?_
          refine me2 (pc' := 5) (S' := []) dm_X7_expr_98 rfl rfl rfl ?_
          exact pg_sub (L := [(0, .ref 13), (2, ii (o : Int)), (3, oV (some z.length)), (4, ii (((c + 1) : Nat) : Int))]) rfl rfl rfl (ih5 (mk - (dsE T a)) (by omega) (c + 1) (dsE T a) (g - 1) (some z.length) z2 wr2 tl2 rfl (EI_d (g := g - 1) hl hA hK (by rw [← hg]; exact hEI) hds z2W z2_c z2_13))
  exact pg_sub (L := [(0, .ref 13), (2, ii (o : Int)), (3, oV b), (4, ii ((0 : Nat) : Int))]) rfl rfl rfl (lp5 _ 0 i f b h wr tl rfl (EI_0 h13 hi hf))
theorem d_expr {xt : mj_X} {f1 : Nat → Value} {mk ln : Nat} {T : Nat → Tok} {ls : Int} {nm : Int64} {st : Value} (hx1 : xt 1 = some (.long, 0, f1)) (hK : TOKS T mk ln) : ∀ f, EX xt T mk ln f ls nm st := by
  intro f
  induction f using Nat.strongRecOn with
  | ind f ih => exact fun d h A i o b wr tl hd hl hA hT h13 hi ho hf => d_expr1 hx1 hd hl hA hK hT h13 ih hi ho hf
