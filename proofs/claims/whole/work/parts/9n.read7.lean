/-! reading a noun -/
abbrev psC (b : Option Nat) : mj_E := opC 0 0 0 (Int64.ofInt 0) 0 0 0 .null (oV b) .null
/-- what noun leaves: hk is the Op that it was given, t the one that passes its value on -/
def RN (A : Nat → Prop) (h : mj_H) (T : Nat → Tok) (ln f o i : Nat) (b : Option Nat) (hk : Nat) (ls : Int) (nm : Int64) (st : Value) (x : Value) (h' : mj_H) : Prop :=
  ∃ (at_ wr : Int) (tl : Value), h'[13]? = some (rdC at_ wr ls nm st tl) ∧ rdF h h' hk ∧ (match pR T f 1 o i with
    | .inl p => x = .null ∧ wr = (p : Int) ∧ h'.length + 4 * tqP (T i) ≤ h.length + 4 * ln ∧ mj_sl h' + 40 * tqP (T i) ≤ mj_sl h + 40 * ln
    | .inr j => at_ = (j : Int) ∧ ∃ op t, x = .ref op ∧ tl = .ref t ∧ (t = hk ∨ h.length ≤ t) ∧ (2 ≤ op ∧ h.length ≤ op ∧ op < h'.length) ∧ h'[t]? = some (psC b) ∧ cR (fun y => (newA A h h' y ∨ y = hk) ∧ y ≠ t) h' T f 1 o i op (some t) 0 0 ∧ h'.length + 4 * tqP (T i) + 1 ≤ h.length + 4 * tqP (T j) ∧ mj_sl h' + 40 * tqP (T i) + 10 ≤ mj_sl h + 40 * tqP (T j))
section RNs
variable {A : Nat → Prop} {h h' z k z' : mj_H} {T : Nat → Tok} {mk ln f o i hk : Nat} {b : Option Nat} {ls : Int} {nm : Int64} {st x : Value}
theorem RN_e {p : Nat} (e : pR T f 1 o i = .inl p) (hx : RN A h T ln f o i b hk ls nm st x h') : ∃ (at_ : Int) (tl : Value), x = .null ∧ h'[13]? = some (rdC at_ (p : Int) ls nm st tl) ∧ rdF h h' hk ∧ h'.length + 4 * tqP (T i) ≤ h.length + 4 * ln ∧ mj_sl h' + 40 * tqP (T i) ≤ mj_sl h + 40 * ln := by
  obtain ⟨a, w, t, h1, h2, h3⟩ := hx
  rw [e] at h3
  obtain ⟨h4, h5, h6⟩ := h3
  exact ⟨a, t, h4, by rw [← h5]; exact h1, h2, h6⟩
theorem RN_v {j : Nat} (e : pR T f 1 o i = .inr j) (hx : RN A h T ln f o i b hk ls nm st x h') : ∃ (op t : Nat) (wr : Int), x = .ref op ∧ h'[13]? = some (rdC (j : Int) wr ls nm st (.ref t)) ∧ rdF h h' hk ∧ (t = hk ∨ h.length ≤ t) ∧ (2 ≤ op ∧ h.length ≤ op ∧ op < h'.length) ∧ h'[t]? = some (psC b) ∧ cR (fun y => (newA A h h' y ∨ y = hk) ∧ y ≠ t) h' T f 1 o i op (some t) 0 0 ∧ h'.length + 4 * tqP (T i) + 1 ≤ h.length + 4 * tqP (T j) ∧ mj_sl h' + 40 * tqP (T i) + 10 ≤ mj_sl h + 40 * tqP (T j) := by
  obtain ⟨a, w, t, h1, h2, h3⟩ := hx
  rw [e] at h3
  obtain ⟨h4, op, t', h5, h6, h7⟩ := h3
  exact ⟨op, t', w, h5, by rw [← h4, ← h6]; exact h1, h2, h7⟩
/-- a noun while its indexes are read -/
def NI (A : Nat → Prop) (h : mj_H) (T : Nat → Tok) (mk ln f o i : Nat) (b : Option Nat) (hk : Nat) (ls : Int) (nm : Int64) (st : Value) (c a g nq l : Nat) (z : mj_H) (wr : Int) (tl : Value) : Prop :=
  z[13]? = some (rdC (a : Int) wr ls nm st tl) ∧ z[l]? = some (psC b) ∧ rdF h z hk ∧ (l = hk ∨ h.length ≤ l) ∧ (i ≤ a ∧ a ≤ mk) ∧ c ≤ a - i ∧ (8 * (mk - a) + 1 ≤ g ∧ g + 1 ≤ f) ∧ (2 ≤ nq ∧ h.length ≤ nq ∧ nq < z.length) ∧ pR T f 1 o i = pR T g 2 o a ∧ z.length + 4 * tqP (T i) + 1 ≤ h.length + 4 * tqP (T a) ∧ mj_sl z + 40 * tqP (T i) + 10 ≤ mj_sl h + 40 * tqP (T a) ∧ (∀ A' z' op t, kpA (fun y => (newA A h z y ∨ y = hk) ∧ y ≠ l) z A' z' → cR A' z' T g 2 o a op (some t) nq l → cR A' z' T f 1 o i op (some t) 0 0)
theorem NI_0 {j op : Nat} {wr : Int} {tl : Value} (hl : 127 ≤ h.length) (hA : okA A h) (hhk : ¬ A hk ∧ 14 ≤ hk ∧ hk < h.length) (hg : h[hk]? = some (psC b)) (e : pR T f 3 o i = .inr j) (k13 : k[13]? = some (rdC (j : Int) wr ls nm st tl)) (kF : rdF h k 13) (kO : 2 ≤ op ∧ h.length ≤ op ∧ op < k.length) (kC : cR (newA A h k) k T f 3 o i op (some hk) 0 0) (kL : k.length + 4 * tqP (T i) + 1 ≤ h.length + 4 * tqP (T j)) (kS : mj_sl k + 40 * tqP (T i) + 10 ≤ mj_sl h + 40 * tqP (T j)) (hij : i ≤ j ∧ j ≤ mk) (hf : 8 * (mk - j) + 1 ≤ f) : NI A h T mk ln (f + 1) o i b hk ls nm st 0 j f op hk k wr tl := by
  refine ⟨k13, by rw [kF.2 hk hhk.2.2 (by omega) (by omega)]; exact hg, ⟨kF.1, fun y c1 c2 _ => kF.2 y c1 c2 c2⟩, Or.inl rfl, hij, by omega, ⟨hf, Nat.le_refl _⟩, kO, pR1_n e, kL, kS, ?_⟩
  intro A' z' op' t kp cr
  refine (cR_1 e).mpr ⟨op, hk, cR_k (kpA_tr ?_ kp) _ _ _ _ _ _ _ _ kC, cr⟩
  intro y c u v
  refine ⟨⟨Or.inl u, ?_⟩, v⟩
  intro w
  rcases u with u | u
  · rw [w] at u; exact hhk.1 u
  · have := u.1; omega
/-- one index more is read -/
theorem NI_s {c a g nq l j op : Nat} {g1 : mj_H} {wr wr' : Int} {tl tl' : Value} (hl : 127 ≤ h.length) (hA : okA A h) (hhk : ¬ A hk ∧ 14 ≤ hk ∧ hk < h.length) (hN : NI A h T mk ln f o i b hk ls nm st c a (g + 1) nq l z wr tl) (hx : isIx T a) (ho : o < 12) (e : pR T g 0 (o + 1) (a + 2) = .inr j) (hj : isMk T j 41) (haj : a + 2 < j + 1 ∧ j < mk) (g1F : rdF z g1 l) (g1l : g1.length = z.length + 1) (g1s : mj_sl g1 = mj_sl z + 10) (g1c : g1[l]? = some (opC 4 (tqP (T a) : Int) 64 (Int64.ofInt 0) 0 0 0 .null (.ref z.length) .null)) (g1n : g1[z.length]? = some (psC b)) (kF : rdF g1 k 13) (k13 : k[13]? = some (rdC ((j + 1 : Nat) : Int) wr' ls nm st tl')) (kO : 2 ≤ op ∧ g1.length ≤ op ∧ op < k.length) (kC : cR (newA A g1 k) k T g 0 (o + 1) (a + 2) op (some nq) 0 0) (kL : k.length + 4 * tqP (T (a + 2)) ≤ g1.length + 4 * tqP (T j)) (kS : mj_sl k + 40 * tqP (T (a + 2)) ≤ mj_sl g1 + 40 * tqP (T j)) (hP : tqP (T a) + 2 ≤ tqP (T (a + 2))) (hP2 : tqP (T j) + 1 ≤ tqP (T (j + 1))) : NI A h T mk ln f o i b hk ls nm st (c + 1) (j + 1) g op z.length k wr' tl' := by
  obtain ⟨h1, h2, h3, h4, h5, h6, h7, h8, h9, h10, h11, h12⟩ := hN
  have zl := h3.1
  have kl := kF.1
  have ll := hl_lt h2
  have l14 : 14 ≤ l := by rcases h4 with q | q <;> omega
  have kn : k[z.length]? = some (psC b) := by rw [kF.2 z.length (by omega) (by omega) (by omega)]; exact g1n
  have kc : k[l]? = some (opC 4 (tqP (T a) : Int) 64 (Int64.ofInt 0) 0 0 0 .null (.ref z.length) .null) := by rw [kF.2 l (by omega) (by omega) (by omega)]; exact g1c
  have zk : ∀ y, y < z.length → y ≠ 13 → y ≠ l → k[y]? = z[y]? := fun y a1 a2 a3 => (kF.2 y (by omega) a2 a2).trans (g1F.2 y a1 a2 a3)
  refine ⟨k13, kn, ⟨by omega, fun y a1 a2 a3 => ?_⟩, Or.inr zl, by omega, by omega, by omega, by omega, by rw [h9, pR2_g hx ho e hj], by omega, by omega, ?_⟩
  · rw [zk y (by omega) a2 (by rcases h4 with q | q <;> omega)]; exact h3.2 y a1 a2 a3
  · intro A' z' op' t kp cr
    have n13 : ∀ y, (newA A h k y ∨ y = hk) → y ≠ 13 := fun y w => by
      rcases w with (w | w) | w
      · have := hA y w; omega
      · have := w.1; omega
      · omega
    have hll : newA A h k l ∨ l = hk := by
      rcases h4 with q | q
      · exact Or.inr q
      · exact Or.inl (Or.inr ⟨q, by omega⟩)
    refine h12 A' z' op' t ?_ ((cR_ix hx e).mpr ⟨z.length, op, ⟨by omega, (kp l _ ⟨hll, by omega⟩ kc).1, (kp l _ ⟨hll, by omega⟩ kc).2⟩, cR_k (kpA_tr ?_ kp) _ _ _ _ _ _ _ _ kC, cr⟩)
    · intro y c' u v
      have hy := hl_lt v
      have n1 : newA A h k y ∨ y = hk := by
        rcases u.1 with (w | w) | w
        · exact Or.inl (Or.inl w)
        · exact Or.inl (Or.inr ⟨w.1, by omega⟩)
        · exact Or.inr w
      exact kp y c' ⟨n1, by omega⟩ (by rw [zk y hy (n13 y n1) u.2]; exact v)
    · intro y c' u v
      refine ⟨⟨?_, ?_⟩, v⟩
      · rcases u with u | u
        · exact Or.inl (Or.inl u)
        · exact Or.inl (Or.inr ⟨by have := u.1; omega, u.2⟩)
      · rcases u with u | u
        · have := (hA y u).1; omega
        · have := u.1; omega
/-- no index follows -/
theorem NI_e {c a g nq l : Nat} {wr : Int} {tl : Value} (hl : 127 ≤ h.length) (hA : okA A h) (hhk : ¬ A hk ∧ 14 ≤ hk ∧ hk < h.length) (hN : NI A h T mk ln f o i b hk ls nm st c a (g + 1) nq l z wr tl) (hx : ¬ isIx T a) : RN A h T ln f o i b hk ls nm st (.ref nq) (z.set 13 (rdC (a : Int) wr ls nm st (.ref l))) := by
  obtain ⟨h1, h2, h3, h4, h5, h6, h7, h8, h9, h10, h11, h12⟩ := hN
  have ll := hl_lt h2
  have l14 : 14 ≤ l := by rcases h4 with q | q <;> omega
  refine ⟨_, _, _, hl_set (hl_lt h1), rdF_set (Or.inl rfl) h3, ?_⟩
  rw [h9, pR2_n hx]
  refine ⟨rfl, nq, l, rfl, rfl, h4, by rw [List.length_set]; exact h8, hl_ne (by omega) h2, ?_, by rw [List.length_set]; exact h10, by rw [sl_rd h1]; exact h11⟩
  refine h12 _ _ _ _ ?_ ((cR_ixn hx).mpr ⟨rfl, rfl⟩)
  intro y c' u v
  have y13 : y ≠ 13 := by
    rcases u.1 with (w | w) | w
    · have := hA y w; omega
    · have := w.1; omega
    · omega
  refine ⟨⟨?_, u.2⟩, hl_ne y13 v⟩
  rcases u.1 with (w | w) | w
  · exact Or.inl (Or.inl w)
  · exact Or.inl (Or.inr ⟨w.1, by rw [List.length_set]; exact w.2⟩)
  · exact Or.inr w
theorem RN_ie {p : Nat} {at_ : Int} {tl : Value} (e : pR T f 1 o i = .inl p) (h1 : h'[13]? = some (rdC at_ (p : Int) ls nm st tl)) (h2 : rdF h h' hk) (h3 : h'.length + 4 * tqP (T i) ≤ h.length + 4 * ln) (h4 : mj_sl h' + 40 * tqP (T i) ≤ mj_sl h + 40 * ln) : RN A h T ln f o i b hk ls nm st .null h' := by
  refine ⟨at_, (p : Int), tl, h1, h2, ?_⟩
  rw [e]
  exact ⟨rfl, rfl, h3, h4⟩
end RNs
section IXs
variable {A : Nat → Prop} {h h' : mj_H} {T : Nat → Tok} {ln f o i b : Nat} {ls : Int} {nm : Int64} {st x : Value}
theorem IX_o (ho : 12 ≤ o) (hx : IX A h T ln f o i b ls nm st x h') : ∃ (at_ : Int) (tl : Value), x = .null ∧ h'[13]? = some (rdC at_ (tqP (T i) : Int) ls nm st tl) ∧ rdF h h' 13 ∧ h'.length = h.length ∧ mj_sl h' = mj_sl h := by
  obtain ⟨a, w, t, h1, h2, h3⟩ := hx
  rw [if_pos ho] at h3
  exact ⟨a, t, h3.1, by rw [← h3.2.1]; exact h1, h2, h3.2.2⟩
theorem IX_e {p : Nat} (ho : ¬ 12 ≤ o) (e : pR T f 0 (o + 1) (i + 1) = .inl p) (hx : IX A h T ln f o i b ls nm st x h') : ∃ (at_ : Int) (tl : Value), x = .null ∧ h'[13]? = some (rdC at_ (p : Int) ls nm st tl) ∧ rdF h h' 13 ∧ h'.length + 4 * tqP (T (i + 1)) ≤ h.length + 4 * ln + 1 ∧ mj_sl h' + 40 * tqP (T (i + 1)) ≤ mj_sl h + 40 * ln + 10 := by
  obtain ⟨a, w, t, h1, h2, h3⟩ := hx
  rw [if_neg ho, e] at h3
  exact ⟨a, t, h3.1, by rw [← h3.2.1]; exact h1, h2, h3.2.2⟩
theorem IX_x {j : Nat} (ho : ¬ 12 ≤ o) (e : pR T f 0 (o + 1) (i + 1) = .inr j) (hj : ¬ isMk T j 41) (hx : IX A h T ln f o i b ls nm st x h') : ∃ (at_ : Int) (tl : Value), x = .null ∧ h'[13]? = some (rdC at_ (tqP (T j) : Int) ls nm st tl) ∧ rdF h h' 13 ∧ h'.length + 4 * tqP (T (i + 1)) ≤ h.length + 4 * tqP (T j) ∧ mj_sl h' + 40 * tqP (T (i + 1)) ≤ mj_sl h + 40 * tqP (T j) := by
  obtain ⟨a, w, t, h1, h2, h3⟩ := hx
  rw [if_neg ho, e] at h3
  simp only at h3
  rw [if_neg hj] at h3
  exact ⟨a, t, h3.1, by rw [← h3.2.1]; exact h1, h2, h3.2.2⟩
theorem IX_v {j : Nat} (ho : ¬ 12 ≤ o) (e : pR T f 0 (o + 1) (i + 1) = .inr j) (hj : isMk T j 41) (hx : IX A h T ln f o i b ls nm st x h') : ∃ (op : Nat) (wr : Int) (tl : Value), x = .ref op ∧ h'[13]? = some (rdC ((j + 1 : Nat) : Int) wr ls nm st tl) ∧ rdF h h' 13 ∧ (2 ≤ op ∧ h.length ≤ op ∧ op < h'.length) ∧ cR (newA A h h') h' T f 0 (o + 1) (i + 1) op (some b) 0 0 ∧ h'.length + 4 * tqP (T (i + 1)) ≤ h.length + 4 * tqP (T j) ∧ mj_sl h' + 40 * tqP (T (i + 1)) ≤ mj_sl h + 40 * tqP (T j) := by
  obtain ⟨a, w, t, h1, h2, h3⟩ := hx
  rw [if_neg ho, e] at h3
  simp only at h3
  rw [if_pos hj] at h3
  obtain ⟨h4, op, h5, h6⟩ := h3
  exact ⟨op, w, t, h5, by rw [← h4]; exact h1, h2, h6⟩
end IXs
set_option maxRecDepth 20000 in
theorem pm_X7_noun : mj_mmof pg_ms 44 = some ((⟨"ArrayCalculator$Reader", "noun", "(LArrayCalculator$Op;I)LArrayCalculator$Op;"⟩, prog_9_method_15_code, 7, (Option.some (Jvm.ClassFile.FieldType.object "ArrayCalculator$Op"))), 7, false, mj_dec prog_9_method_15_code) := rfl
theorem dm_X7_noun_0 : mj_dec prog_9_method_15_code 0 = some (.aload_n 1, 1) := by decide +kernel
theorem dm_X7_noun_1 : mj_dec prog_9_method_15_code 1 = some (.astore_n 3, 1) := by decide +kernel
theorem dm_X7_noun_2 : mj_dec prog_9_method_15_code 2 = some (.aload_n 0, 1) := by decide +kernel
theorem dm_X7_noun_3 : mj_dec prog_9_method_15_code 3 = some (.aload_n 1, 1) := by decide +kernel
theorem dm_X7_noun_4 : mj_dec prog_9_method_15_code 4 = some (.iload_n 2, 1) := by decide +kernel
theorem dm_X7_noun_5 : mj_dec prog_9_method_15_code 5 = some (.invokevirtual 121, 3) := by decide +kernel
theorem dm_X7_noun_8 : mj_dec prog_9_method_15_code 8 = some (.astore 4, 2) := by decide +kernel
theorem dm_X7_noun_10 : mj_dec prog_9_method_15_code 10 = some (.iconst 0, 1) := by decide +kernel
theorem dm_X7_noun_11 : mj_dec prog_9_method_15_code 11 = some (.istore 5, 2) := by decide +kernel
theorem dm_X7_noun_13 : mj_dec prog_9_method_15_code 13 = some (.iload 5, 2) := by decide +kernel
theorem dm_X7_noun_15 : mj_dec prog_9_method_15_code 15 = some (.sipush 200, 3) := by decide +kernel
theorem dm_X7_noun_18 : mj_dec prog_9_method_15_code 18 = some (.if_icmp .gt 90, 3) := by decide +kernel
theorem dm_X7_noun_21 : mj_dec prog_9_method_15_code 21 = some (.aload 4, 2) := by decide +kernel
theorem dm_X7_noun_23 : mj_dec prog_9_method_15_code 23 = some (.ifnull 85, 3) := by decide +kernel
theorem dm_X7_noun_26 : mj_dec prog_9_method_15_code 26 = some (.aload_n 0, 1) := by decide +kernel
theorem dm_X7_noun_27 : mj_dec prog_9_method_15_code 27 = some (.invokevirtual 124, 3) := by decide +kernel
theorem dm_X7_noun_30 : mj_dec prog_9_method_15_code 30 = some (.ifCond .eq 78, 3) := by decide +kernel
theorem dm_X7_noun_33 : mj_dec prog_9_method_15_code 33 = some (.new 15, 3) := by decide +kernel
theorem dm_X7_noun_36 : mj_dec prog_9_method_15_code 36 = some (.dup, 1) := by decide +kernel
theorem dm_X7_noun_37 : mj_dec prog_9_method_15_code 37 = some (.iconst 0, 1) := by decide +kernel
theorem dm_X7_noun_38 : mj_dec prog_9_method_15_code 38 = some (.iconst 0, 1) := by decide +kernel
theorem dm_X7_noun_39 : mj_dec prog_9_method_15_code 39 = some (.aload_n 3, 1) := by decide +kernel
theorem dm_X7_noun_40 : mj_dec prog_9_method_15_code 40 = some (.getfield 127, 3) := by decide +kernel
theorem dm_X7_noun_43 : mj_dec prog_9_method_15_code 43 = some (.invokespecial 17, 3) := by decide +kernel
theorem dm_X7_noun_46 : mj_dec prog_9_method_15_code 46 = some (.astore 6, 2) := by decide +kernel
theorem dm_X7_noun_48 : mj_dec prog_9_method_15_code 48 = some (.aload_n 3, 1) := by decide +kernel
theorem dm_X7_noun_49 : mj_dec prog_9_method_15_code 49 = some (.iconst 4, 1) := by decide +kernel
theorem dm_X7_noun_50 : mj_dec prog_9_method_15_code 50 = some (.putfield 106, 3) := by decide +kernel
theorem dm_X7_noun_53 : mj_dec prog_9_method_15_code 53 = some (.aload_n 3, 1) := by decide +kernel
theorem dm_X7_noun_54 : mj_dec prog_9_method_15_code 54 = some (.bipush 64, 2) := by decide +kernel
theorem dm_X7_noun_56 : mj_dec prog_9_method_15_code 56 = some (.putfield 112, 3) := by decide +kernel
theorem dm_X7_noun_59 : mj_dec prog_9_method_15_code 59 = some (.aload_n 3, 1) := by decide +kernel
theorem dm_X7_noun_60 : mj_dec prog_9_method_15_code 60 = some (.aload_n 0, 1) := by decide +kernel
theorem dm_X7_noun_61 : mj_dec prog_9_method_15_code 61 = some (.getfield 9, 3) := by decide +kernel
theorem dm_X7_noun_64 : mj_dec prog_9_method_15_code 64 = some (.aload_n 0, 1) := by decide +kernel
theorem dm_X7_noun_65 : mj_dec prog_9_method_15_code 65 = some (.getfield 38, 3) := by decide +kernel
theorem dm_X7_noun_68 : mj_dec prog_9_method_15_code 68 = some (.invokevirtual 81, 3) := by decide +kernel
theorem dm_X7_noun_71 : mj_dec prog_9_method_15_code 71 = some (.putfield 109, 3) := by decide +kernel
theorem dm_X7_noun_74 : mj_dec prog_9_method_15_code 74 = some (.aload_n 3, 1) := by decide +kernel
theorem dm_X7_noun_75 : mj_dec prog_9_method_15_code 75 = some (.aload 6, 2) := by decide +kernel
theorem dm_X7_noun_77 : mj_dec prog_9_method_15_code 77 = some (.putfield 127, 3) := by decide +kernel
theorem dm_X7_noun_80 : mj_dec prog_9_method_15_code 80 = some (.aload 6, 2) := by decide +kernel
theorem dm_X7_noun_82 : mj_dec prog_9_method_15_code 82 = some (.astore_n 3, 1) := by decide +kernel
theorem dm_X7_noun_83 : mj_dec prog_9_method_15_code 83 = some (.aload_n 0, 1) := by decide +kernel
theorem dm_X7_noun_84 : mj_dec prog_9_method_15_code 84 = some (.dup, 1) := by decide +kernel
theorem dm_X7_noun_85 : mj_dec prog_9_method_15_code 85 = some (.getfield 38, 3) := by decide +kernel
theorem dm_X7_noun_88 : mj_dec prog_9_method_15_code 88 = some (.iconst 1, 1) := by decide +kernel
theorem dm_X7_noun_89 : mj_dec prog_9_method_15_code 89 = some (.iadd, 1) := by decide +kernel
theorem dm_X7_noun_90 : mj_dec prog_9_method_15_code 90 = some (.putfield 38, 3) := by decide +kernel
theorem dm_X7_noun_93 : mj_dec prog_9_method_15_code 93 = some (.aload_n 0, 1) := by decide +kernel
theorem dm_X7_noun_94 : mj_dec prog_9_method_15_code 94 = some (.aload 4, 2) := by decide +kernel
theorem dm_X7_noun_96 : mj_dec prog_9_method_15_code 96 = some (.iload_n 2, 1) := by decide +kernel
theorem dm_X7_noun_97 : mj_dec prog_9_method_15_code 97 = some (.invokevirtual 130, 3) := by decide +kernel
theorem dm_X7_noun_100 : mj_dec prog_9_method_15_code 100 = some (.astore 4, 2) := by decide +kernel
theorem dm_X7_noun_102 : mj_dec prog_9_method_15_code 102 = some (.iinc 5 1, 3) := by decide +kernel
theorem dm_X7_noun_105 : mj_dec prog_9_method_15_code 105 = some (.goto (-92), 3) := by decide +kernel
theorem dm_X7_noun_108 : mj_dec prog_9_method_15_code 108 = some (.aload_n 0, 1) := by decide +kernel
theorem dm_X7_noun_109 : mj_dec prog_9_method_15_code 109 = some (.aload_n 3, 1) := by decide +kernel
theorem dm_X7_noun_110 : mj_dec prog_9_method_15_code 110 = some (.putfield 20, 3) := by decide +kernel
theorem dm_X7_noun_113 : mj_dec prog_9_method_15_code 113 = some (.aload 4, 2) := by decide +kernel
theorem dm_X7_noun_115 : mj_dec prog_9_method_15_code 115 = some (.areturn, 1) := by decide +kernel
theorem d_noun {xt : mj_X} {f1 : Nat → Value} {o f hk d mk ln i : Nat} {A : Nat → Prop} {T : Nat → Tok} {wr ls : Int} {nm : Int64} {st tl : Value} {h : mj_H} (hx1 : xt 1 = some (.long, 0, f1)) (hd : 4 * (12 - o) + 9 ≤ d) (hl : 127 ≤ h.length) (hA : okA A h) (hK : TOKS T mk ln) (hT : TT h T mk ln) (h13 : h[13]? = some (rdC (i : Int) wr ls nm st tl)) {b : Option Nat} (hE : ∀ g, g ≤ f → EX xt T mk ln g ls nm st) (hi : i ≤ mk) (ho : o ≤ 12) (hhk : ¬ A hk ∧ 14 ≤ hk ∧ hk < h.length) (hhc : h[hk]? = some (psC b)) (hf : 8 * (mk - i) + 5 ≤ f + 1) : pgV xt d 44 [.ref 13, .ref hk, ii (o : Int)] h (RN A h T ln (f + 1) o i b hk ls nm st) := by
  obtain ⟨le_, gd, sf, pf, bf, df, hk9, -, -, -, -, -, -⟩ := id hT
  have h9 := hk9.1
  have hmk200 := hK.1
  obtain ⟨f9, hf9⟩ : ∃ f9, f = f9 + 1 := ⟨f - 1, by omega⟩
  refine x_enter pm_X7_noun (L0 := [(0, .ref 13), (1, .ref hk), (2, ii (o : Int))]) rfl (Nat.le_of_ble_eq_true rfl) (by omega) ?_
  refine me1 (pc' := 1) (L' := [(0, .ref 13), (1, .ref hk), (2, ii (o : Int))]) (S' := [.ref hk]) dm_X7_noun_0 rfl rfl rfl rfl ?_
  refine me1 (pc' := 2) (L' := [(3, .ref hk), (0, .ref 13), (1, .ref hk), (2, ii (o : Int))]) (S' := []) dm_X7_noun_1 rfl rfl rfl rfl ?_
  refine me1 (pc' := 3) (L' := [(3, .ref hk), (0, .ref 13), (1, .ref hk), (2, ii (o : Int))]) (S' := [.ref 13]) dm_X7_noun_2 rfl rfl rfl rfl ?_
  refine me1 (pc' := 4) (L' := [(3, .ref hk), (0, .ref 13), (1, .ref hk), (2, ii (o : Int))]) (S' := [.ref hk, .ref 13]) dm_X7_noun_3 rfl rfl rfl rfl ?_
  refine me1 (pc' := 5) (L' := [(3, .ref hk), (0, .ref 13), (1, .ref hk), (2, ii (o : Int))]) (S' := [ii (o : Int), .ref hk, .ref 13]) dm_X7_noun_4 rfl rfl rfl rfl ?_
  rcases e0 : pR T f 3 o i with p_e0 | j_e0
  · refine x_cv (pc' := 8) (rest := []) dm_X7_noun_5 rfl (g_inv (As := [.ref hk, ii (o : Int)]) (S := []) h13 rfl rfl rfl (by decide)) rfl rfl rfl (show pgV xt (d - 1) 45 [.ref 13, .ref hk, ii (o : Int)] h (RX A h T ln f 3 o i (some hk) ls nm st) by rw [hf9]; exact d_base (f := f9) (b := some hk) hx1 (by omega) hl hA hK hT h13 (fun g hg => hE g (by omega)) hi ho (by omega)) ?_
    rintro x0 k0 hx0
    obtain ⟨k0at, k0tl, rfl, k0_13, k0F, k0L, k0S⟩ := RX_e e0 hx0
    have k0T : TT k0 T mk ln := rdF_TT k0F (by decide) (by omega) hT
    have k0l := k0F.1
    have k0_9 : k0[9]? = some (cO 8 [.ref 10, .ref 11, .ref 12, ii ((mk + 1 : Nat) : Int), ii le_, .ref 3, .ref 4, ii (ln : Int), zz gd]) := (k0F.2 9 (by omega) (by omega) (by omega)).trans h9
    refine me1 (pc' := 10) (L' := [(4, .null), (3, .ref hk), (0, .ref 13), (1, .ref hk), (2, ii (o : Int))]) (S' := []) dm_X7_noun_8 rfl rfl rfl rfl ?_
    refine me0 (pc' := 11) (S' := [ii 0]) dm_X7_noun_10 rfl rfl rfl rfl ?_
    refine me1 (pc' := 13) (L' := [(5, ii 0), (4, .null), (3, .ref hk), (0, .ref 13), (1, .ref hk), (2, ii (o : Int))]) (S' := []) dm_X7_noun_11 rfl rfl rfl rfl ?_
    refine me1 (pc' := 15) (L' := [(5, ii 0), (4, .null), (3, .ref hk), (0, .ref 13), (1, .ref hk), (2, ii (o : Int))]) (S' := [ii 0]) dm_X7_noun_13 rfl rfl rfl rfl ?_
    refine me0 (pc' := 18) (S' := [ii 200, ii 0]) dm_X7_noun_15 rfl rfl rfl rfl ?_
    refine me_2f (pc' := 21) dm_X7_noun_18 rfl (by decide) rfl ?_
    refine me1 (pc' := 23) (L' := [(5, ii 0), (4, .null), (3, .ref hk), (0, .ref 13), (1, .ref hk), (2, ii (o : Int))]) (S' := [.null]) dm_X7_noun_21 rfl rfl rfl rfl ?_
    refine me2 (pc' := 108) (S' := []) dm_X7_noun_23 rfl rfl rfl ?_
    refine me1 (pc' := 109) (L' := [(5, ii 0), (4, .null), (3, .ref hk), (0, .ref 13), (1, .ref hk), (2, ii (o : Int))]) (S' := [.ref 13]) dm_X7_noun_108 rfl rfl rfl rfl ?_
    refine me1 (pc' := 110) (L' := [(5, ii 0), (4, .null), (3, .ref hk), (0, .ref 13), (1, .ref hk), (2, ii (o : Int))]) (S' := [.ref hk, .ref 13]) dm_X7_noun_109 rfl rfl rfl rfl ?_
    refine me3 (pc' := 113) (S' := []) (h1 := (k0).set 13 (cO 7 [.ref 9, ii k0at, ii (p_e0 : Int), ii ls, .long nm, st, .ref hk])) dm_X7_noun_110 (g_put (fs' := [.ref 9, ii k0at, ii (p_e0 : Int), ii ls, .long nm, st, .ref hk]) k0_13 rfl rfl rfl (by simp) rfl (by decide) (fun z => by cases z) (by decide)) rfl rfl rfl ?_
    refine me1 (pc' := 115) (L' := [(5, ii 0), (4, .null), (3, .ref hk), (0, .ref 13), (1, .ref hk), (2, ii (o : Int))]) (S' := [.null]) dm_X7_noun_113 rfl rfl rfl rfl ?_
    refine y_ret (r := some (.null)) dm_X7_noun_115 rfl rfl rfl ?_
    have hc3 : ceM 3 = 0 := rfl
    exact ⟨_, rfl, RN_ie (pR1_e e0) (hl_set (hl_lt k0_13)) (rdF_set (Or.inl rfl) ⟨k0F.1, fun y c1 c2 _ => k0F.2 y c1 c2 c2⟩) (by simp only [List.length_set]; omega) (by rw [sl_set (e' := cO 7 [.ref 9, ii k0at, ii (p_e0 : Int), ii ls, .long nm, st, .ref hk]) k0_13 rfl]; omega)⟩
  · refine x_cv (pc' := 8) (rest := []) dm_X7_noun_5 rfl (g_inv (As := [.ref hk, ii (o : Int)]) (S := []) h13 rfl rfl rfl (by decide)) rfl rfl rfl (show pgV xt (d - 1) 45 [.ref 13, .ref hk, ii (o : Int)] h (RX A h T ln f 3 o i (some hk) ls nm st) by rw [hf9]; exact d_base (f := f9) (b := some hk) hx1 (by omega) hl hA hK hT h13 (fun g hg => hE g (by omega)) hi ho (by omega)) ?_
    rintro x0 k0 hx0
    obtain ⟨k0op, k0wr, k0tl, rfl, k0_13, k0F, k0O, k0C, k0L, k0S⟩ := RX_v e0 hx0
    have k0T : TT k0 T mk ln := rdF_TT k0F (by decide) (by omega) hT
    have k0l := k0F.1
    have k0_9 : k0[9]? = some (cO 8 [.ref 10, .ref 11, .ref 12, ii ((mk + 1 : Nat) : Int), ii le_, .ref 3, .ref 4, ii (ln : Int), zz gd]) := (k0F.2 9 (by omega) (by omega) (by omega)).trans h9
    have hj0 := pR_mk hK _ 3 _ _ _ hi e0
    have hjj0 := hj0.2.2 (by decide)
    have hc3 : ceM 3 = 0 := rfl
    refine me1 (pc' := 10) (L' := [(4, .ref k0op), (3, .ref hk), (0, .ref 13), (1, .ref hk), (2, ii (o : Int))]) (S' := []) dm_X7_noun_8 rfl rfl rfl rfl ?_
    refine me0 (pc' := 11) (S' := [ii 0]) dm_X7_noun_10 rfl rfl rfl rfl ?_
    refine me1 (pc' := 13) (L' := [(5, ii 0), (4, .ref k0op), (3, .ref hk), (0, .ref 13), (1, .ref hk), (2, ii (o : Int))]) (S' := []) dm_X7_noun_11 rfl rfl rfl rfl ?_
    have lp13 : ∀ (n13 : Nat) (c : Nat) (a : Nat) (g : Nat) (nq : Nat) (l : Nat) (z : mj_H) (wr2 : Int) (tl2 : Value), mk - a = n13 → (NI A h T mk ln (f + 1) o i b hk ls nm st c a g nq l z wr2 tl2) → pgE xt (d - 1) 7 7 false (Option.some (Jvm.ClassFile.FieldType.object "ArrayCalculator$Op")) (mj_dec prog_9_method_15_code) 13 [(0, .ref 13), (2, ii (o : Int)), (3, .ref l), (4, .ref nq), (5, ii ((c : Nat) : Int))] [] z (fun r h' => ∃ x, r = some x ∧ RN A h T ln (f + 1) o i b hk ls nm st x h') := by
      intro n13
      induction n13 using Nat.strongRecOn with
      | ind n13 ih13 =>
        intro c a g nq l z wr2 tl2 hm13 hN
        obtain ⟨z_13, z_l, zF, zh, za, zc, zg, zn, zR, zL, zS, -⟩ := id hN
        have zl := zF.1
        have zT : TT z T mk ln := rdF_TT zF (by omega) (by omega) hT
        have z_9 := (zF.2 9 (by omega) (by decide) (by omega)).trans h9
        have hg : g = (g - 1) + 1 := by omega
        have hl2 := hl_lt z_l
        have l14 : 14 ≤ l := by rcases zh with q | q <;> omega
        refine me1 (pc' := 15) (L' := [(0, .ref 13), (2, ii (o : Int)), (3, .ref l), (4, .ref nq), (5, ii ((c : Nat) : Int))]) (S' := [ii ((c : Nat) : Int)]) dm_X7_noun_13 rfl rfl rfl rfl ?_
        refine me0 (pc' := 18) (S' := [ii 200, ii ((c : Nat) : Int)]) dm_X7_noun_15 rfl rfl rfl rfl ?_
        refine y_2gt (a := ((c : Nat) : Int)) (b := 200) (t := 108) (pc' := 21) dm_X7_noun_18 rfl rfl (by omega) (fun hb1 => ?_) (fun hb1 => ?_)
        · exfalso; omega
        · refine me1 (pc' := 23) (L' := [(0, .ref 13), (2, ii (o : Int)), (3, .ref l), (4, .ref nq), (5, ii ((c : Nat) : Int))]) (S' := [.ref nq]) dm_X7_noun_21 rfl rfl rfl rfl ?_
          refine me2 (pc' := 26) (S' := []) dm_X7_noun_23 rfl rfl rfl ?_
          refine me1 (pc' := 27) (L' := [(0, .ref 13), (2, ii (o : Int)), (3, .ref l), (4, .ref nq), (5, ii ((c : Nat) : Int))]) (S' := [.ref 13]) dm_X7_noun_26 rfl rfl rfl rfl ?_
          refine x_cp (pc' := 30) (v := zz (decide (isIx T a))) (rest := []) dm_X7_noun_27 rfl (g_inv (As := []) (S := []) z_13 rfl rfl rfl (by decide)) rfl rfl rfl (d_isIndexed (i := a) (by omega) hK zT z_13 (by omega)) ?_
          refine y_zeq (c := decide (isIx T a)) (t := 108) (pc' := 33) dm_X7_noun_30 rfl rfl (fun hb2 => ?_) (fun hb2 => ?_)
          · replace hb2 := dF hb2
            have hnix := hb2
            refine me1 (pc' := 109) (L' := [(0, .ref 13), (2, ii (o : Int)), (3, .ref l), (4, .ref nq), (5, ii ((c : Nat) : Int))]) (S' := [.ref 13]) dm_X7_noun_108 rfl rfl rfl rfl ?_
            refine me1 (pc' := 110) (L' := [(0, .ref 13), (2, ii (o : Int)), (3, .ref l), (4, .ref nq), (5, ii ((c : Nat) : Int))]) (S' := [.ref l, .ref 13]) dm_X7_noun_109 rfl rfl rfl rfl ?_
            refine me3 (pc' := 113) (S' := []) (h1 := (z).set 13 (cO 7 [.ref 9, ii ((a : Nat) : Int), ii wr2, ii ls, .long nm, st, .ref l])) dm_X7_noun_110 (g_put (fs' := [.ref 9, ii ((a : Nat) : Int), ii wr2, ii ls, .long nm, st, .ref l]) z_13 rfl rfl rfl (by simp) rfl (by decide) (fun z => by cases z) (by decide)) rfl rfl rfl ?_
            refine me1 (pc' := 115) (L' := [(0, .ref 13), (2, ii (o : Int)), (3, .ref l), (4, .ref nq), (5, ii ((c : Nat) : Int))]) (S' := [.ref nq]) dm_X7_noun_113 rfl rfl rfl rfl ?_
            refine y_ret (r := some (.ref nq)) dm_X7_noun_115 rfl rfl rfl ?_
            rw [hg] at hN
            exact ⟨_, rfl, NI_e hl hA hhk hN hnix⟩
          · replace hb2 := dT hb2
            have hix := hb2
            refine me3 (pc' := 36) (S' := [.ref z.length]) (h1 := z ++ [cO 4 [ii 0, ii 0, ii 0, .long (Int64.ofInt 0), ii 0, ii 0, ii 0, .null, .null, .null]]) dm_X7_noun_33 (g_nw rfl rfl rfl) rfl rfl rfl ?_
            refine me0 (pc' := 37) (S' := [.ref z.length, .ref z.length]) dm_X7_noun_36 rfl rfl rfl rfl ?_
            refine me0 (pc' := 38) (S' := [ii 0, .ref z.length, .ref z.length]) dm_X7_noun_37 rfl rfl rfl rfl ?_
            refine me0 (pc' := 39) (S' := [ii 0, ii 0, .ref z.length, .ref z.length]) dm_X7_noun_38 rfl rfl rfl rfl ?_
            refine me1 (pc' := 40) (L' := [(0, .ref 13), (2, ii (o : Int)), (3, .ref l), (4, .ref nq), (5, ii ((c : Nat) : Int))]) (S' := [.ref l, ii 0, ii 0, .ref z.length, .ref z.length]) dm_X7_noun_39 rfl rfl rfl rfl ?_
            refine me3 (pc' := 43) (S' := [oV b, ii 0, ii 0, .ref z.length, .ref z.length]) dm_X7_noun_40 (g_get (v := oV b) (hl_app z_l) rfl rfl (by omega)) rfl rfl rfl ?_
            refine x_cn (pc' := 46) (rest := [.ref z.length]) dm_X7_noun_43 rfl (g_invp (As := [ii 0, ii 0, oV b]) (S := [.ref z.length]) rfl rfl rfl) rfl rfl rfl (o_init (b := b) (by omega) (by omega) hl_new (hl_setl)) ?_
            rintro _ rfl
            refine me1 (pc' := 48) (L' := [(6, .ref z.length), (0, .ref 13), (2, ii (o : Int)), (3, .ref l), (4, .ref nq), (5, ii ((c : Nat) : Int))]) (S' := []) dm_X7_noun_46 rfl rfl rfl rfl ?_
            refine me1 (pc' := 49) (L' := [(6, .ref z.length), (0, .ref 13), (2, ii (o : Int)), (3, .ref l), (4, .ref nq), (5, ii ((c : Nat) : Int))]) (S' := [.ref l]) dm_X7_noun_48 rfl rfl rfl rfl ?_
            refine me0 (pc' := 50) (S' := [ii 4, .ref l]) dm_X7_noun_49 rfl rfl rfl rfl ?_
            refine me3 (pc' := 53) (S' := []) (h1 := (z ++ [cO 4 [ii 0, ii 0, ii 0, .long (Int64.ofInt 0), ii 0, ii 0, ii 0, .null, oV b, .null]]).set l (cO 4 [ii 4, ii 0, ii 0, .long (Int64.ofInt 0), ii 0, ii 0, ii 0, .null, oV b, .null])) dm_X7_noun_50 (g_put (fs' := [ii 4, ii 0, ii 0, .long (Int64.ofInt 0), ii 0, ii 0, ii 0, .null, oV b, .null]) (hl_app z_l) rfl rfl rfl (by simp) rfl (by decide) (fun z => by cases z) (by omega)) rfl rfl rfl ?_
            refine me1 (pc' := 54) (L' := [(6, .ref z.length), (0, .ref 13), (2, ii (o : Int)), (3, .ref l), (4, .ref nq), (5, ii ((c : Nat) : Int))]) (S' := [.ref l]) dm_X7_noun_53 rfl rfl rfl rfl ?_
            refine me0 (pc' := 56) (S' := [ii 64, .ref l]) dm_X7_noun_54 rfl rfl rfl rfl ?_
            refine me3 (pc' := 59) (S' := []) (h1 := (z ++ [cO 4 [ii 0, ii 0, ii 0, .long (Int64.ofInt 0), ii 0, ii 0, ii 0, .null, oV b, .null]]).set l (cO 4 [ii 4, ii 0, ii 64, .long (Int64.ofInt 0), ii 0, ii 0, ii 0, .null, oV b, .null])) dm_X7_noun_56 (g_put (fs' := [ii 4, ii 0, ii 64, .long (Int64.ofInt 0), ii 0, ii 0, ii 0, .null, oV b, .null]) (hl_set (hl_lt (hl_app z_l))) rfl (by rw [List.set_set]) rfl (by simp) rfl (by decide) (fun z => by cases z) (by omega)) rfl rfl rfl ?_
            refine me1 (pc' := 60) (L' := [(6, .ref z.length), (0, .ref 13), (2, ii (o : Int)), (3, .ref l), (4, .ref nq), (5, ii ((c : Nat) : Int))]) (S' := [.ref l]) dm_X7_noun_59 rfl rfl rfl rfl ?_
            refine me1 (pc' := 61) (L' := [(6, .ref z.length), (0, .ref 13), (2, ii (o : Int)), (3, .ref l), (4, .ref nq), (5, ii ((c : Nat) : Int))]) (S' := [.ref 13, .ref l]) dm_X7_noun_60 rfl rfl rfl rfl ?_
            refine me3 (pc' := 64) (S' := [.ref 9, .ref l]) dm_X7_noun_61 (g_get (v := .ref 9) (hl_ne (by omega) (hl_app z_13)) rfl rfl (by decide)) rfl rfl rfl ?_
            refine me1 (pc' := 65) (L' := [(6, .ref z.length), (0, .ref 13), (2, ii (o : Int)), (3, .ref l), (4, .ref nq), (5, ii ((c : Nat) : Int))]) (S' := [.ref 13, .ref 9, .ref l]) dm_X7_noun_64 rfl rfl rfl rfl ?_
            refine me3 (pc' := 68) (S' := [ii ((a : Nat) : Int), .ref 9, .ref l]) dm_X7_noun_65 (g_get (v := ii ((a : Nat) : Int)) (hl_ne (by omega) (hl_app z_13)) rfl rfl (by decide)) rfl rfl rfl ?_
            refine x_cp (pc' := 71) (v := ii (tqP (T a) : Int)) (rest := [.ref l]) dm_X7_noun_68 rfl (g_inv (As := [ii ((a : Nat) : Int)]) (S := [.ref l]) (hl_ne (by omega) (hl_app z_9)) rfl rfl rfl (by decide)) rfl rfl rfl (tt_place (i := a) (by omega) hK (TT_set (by omega) (TT_app (by omega) zT)) (by omega)) ?_
            refine me3 (pc' := 74) (S' := []) (h1 := (z ++ [cO 4 [ii 0, ii 0, ii 0, .long (Int64.ofInt 0), ii 0, ii 0, ii 0, .null, oV b, .null]]).set l (cO 4 [ii 4, ii (tqP (T a) : Int), ii 64, .long (Int64.ofInt 0), ii 0, ii 0, ii 0, .null, oV b, .null])) dm_X7_noun_71 (g_put (fs' := [ii 4, ii (tqP (T a) : Int), ii 64, .long (Int64.ofInt 0), ii 0, ii 0, ii 0, .null, oV b, .null]) (hl_set (hl_lt (hl_app z_l))) rfl (by rw [List.set_set]) rfl (by simp) rfl (by decide) (fun z => by cases z) (by omega)) rfl rfl rfl ?_
            refine me1 (pc' := 75) (L' := [(6, .ref z.length), (0, .ref 13), (2, ii (o : Int)), (3, .ref l), (4, .ref nq), (5, ii ((c : Nat) : Int))]) (S' := [.ref l]) dm_X7_noun_74 rfl rfl rfl rfl ?_
            refine me1 (pc' := 77) (L' := [(6, .ref z.length), (0, .ref 13), (2, ii (o : Int)), (3, .ref l), (4, .ref nq), (5, ii ((c : Nat) : Int))]) (S' := [.ref z.length, .ref l]) dm_X7_noun_75 rfl rfl rfl rfl ?_
            refine me3 (pc' := 80) (S' := []) (h1 := (z ++ [cO 4 [ii 0, ii 0, ii 0, .long (Int64.ofInt 0), ii 0, ii 0, ii 0, .null, oV b, .null]]).set l (cO 4 [ii 4, ii (tqP (T a) : Int), ii 64, .long (Int64.ofInt 0), ii 0, ii 0, ii 0, .null, .ref z.length, .null])) dm_X7_noun_77 (g_put (fs' := [ii 4, ii (tqP (T a) : Int), ii 64, .long (Int64.ofInt 0), ii 0, ii 0, ii 0, .null, .ref z.length, .null]) (hl_set (hl_lt (hl_app z_l))) rfl (by rw [List.set_set]) rfl (by simp) rfl (by decide) (fun z => by cases z) (by omega)) rfl rfl rfl ?_
            refine me1 (pc' := 82) (L' := [(6, .ref z.length), (0, .ref 13), (2, ii (o : Int)), (3, .ref l), (4, .ref nq), (5, ii ((c : Nat) : Int))]) (S' := [.ref z.length]) dm_X7_noun_80 rfl rfl rfl rfl ?_
            refine me1 (pc' := 83) (L' := [(3, .ref z.length), (6, .ref z.length), (0, .ref 13), (2, ii (o : Int)), (4, .ref nq), (5, ii ((c : Nat) : Int))]) (S' := []) dm_X7_noun_82 rfl rfl rfl rfl ?_
            refine me1 (pc' := 84) (L' := [(3, .ref z.length), (6, .ref z.length), (0, .ref 13), (2, ii (o : Int)), (4, .ref nq), (5, ii ((c : Nat) : Int))]) (S' := [.ref 13]) dm_X7_noun_83 rfl rfl rfl rfl ?_
            refine me0 (pc' := 85) (S' := [.ref 13, .ref 13]) dm_X7_noun_84 rfl rfl rfl rfl ?_
            refine me3 (pc' := 88) (S' := [ii ((a : Nat) : Int), .ref 13]) dm_X7_noun_85 (g_get (v := ii ((a : Nat) : Int)) (hl_ne (by omega) (hl_app z_13)) rfl rfl (by decide)) rfl rfl rfl ?_
            refine me0 (pc' := 89) (S' := [ii 1, ii ((a : Nat) : Int), .ref 13]) dm_X7_noun_88 rfl rfl rfl rfl ?_
            refine y_iadd (a := ((a : Nat) : Int)) (b := 1) dm_X7_noun_89 (pc' := 90) rfl ?_
            refine pg_st (S' := [ii ((a + 1 : Nat) : Int), .ref 13]) (congrArg (fun z => ii z :: [.ref 13]) (by omega)) ?_
            refine me3 (pc' := 93) (S' := []) (h1 := ((z ++ [cO 4 [ii 0, ii 0, ii 0, .long (Int64.ofInt 0), ii 0, ii 0, ii 0, .null, oV b, .null]]).set l (cO 4 [ii 4, ii (tqP (T a) : Int), ii 64, .long (Int64.ofInt 0), ii 0, ii 0, ii 0, .null, .ref z.length, .null])).set 13 (cO 7 [.ref 9, ii ((a + 1 : Nat) : Int), ii wr2, ii ls, .long nm, st, tl2])) dm_X7_noun_90 (g_put (fs' := [.ref 9, ii ((a + 1 : Nat) : Int), ii wr2, ii ls, .long nm, st, tl2]) (hl_ne (by omega) (hl_app z_13)) rfl rfl rfl (by simp) rfl (by decide) (fun z => by cases z) (by decide)) rfl rfl rfl ?_
            refine me1 (pc' := 94) (L' := [(3, .ref z.length), (6, .ref z.length), (0, .ref 13), (2, ii (o : Int)), (4, .ref nq), (5, ii ((c : Nat) : Int))]) (S' := [.ref 13]) dm_X7_noun_93 rfl rfl rfl rfl ?_
            refine me1 (pc' := 96) (L' := [(3, .ref z.length), (6, .ref z.length), (0, .ref 13), (2, ii (o : Int)), (4, .ref nq), (5, ii ((c : Nat) : Int))]) (S' := [.ref nq, .ref 13]) dm_X7_noun_94 rfl rfl rfl rfl ?_
            refine me1 (pc' := 97) (L' := [(3, .ref z.length), (6, .ref z.length), (0, .ref 13), (2, ii (o : Int)), (4, .ref nq), (5, ii ((c : Nat) : Int))]) (S' := [ii (o : Int), .ref nq, .ref 13]) dm_X7_noun_96 rfl rfl rfl rfl ?_
            obtain ⟨g1, g1e⟩ : ∃ g1, g1 = (((z ++ [cO 4 [ii 0, ii 0, ii 0, .long (Int64.ofInt 0), ii 0, ii 0, ii 0, .null, oV b, .null]]).set l (cO 4 [ii 4, ii (tqP (T a) : Int), ii 64, .long (Int64.ofInt 0), ii 0, ii 0, ii 0, .null, .ref z.length, .null])).set 13 (cO 7 [.ref 9, ii ((a + 1 : Nat) : Int), ii wr2, ii ls, .long nm, st, tl2])) := ⟨_, rfl⟩
            have g1_13 : g1[13]? = some (cO 7 [.ref 9, ii ((a + 1 : Nat) : Int), ii wr2, ii ls, .long nm, st, tl2]) := by rw [g1e]; exact (hl_set (hl_lt (hl_ne (by omega) (hl_app z_13))))
            have g1_9 : g1[9]? = some (cO 8 [.ref 10, .ref 11, .ref 12, ii ((mk + 1 : Nat) : Int), ii le_, .ref 3, .ref 4, ii (ln : Int), zz gd]) := by rw [g1e]; exact (hl_ne (by decide) (hl_ne (by omega) (hl_app z_9)))
            have g1_k0 : g1[l]? = some (cO 4 [ii 4, ii (tqP (T a) : Int), ii 64, .long (Int64.ofInt 0), ii 0, ii 0, ii 0, .null, .ref z.length, .null]) := by rw [g1e]; exact (hl_ne (by omega) (hl_set (hl_lt (hl_app z_l))))
            have g1_k1 : g1[z.length]? = some (cO 4 [ii 0, ii 0, ii 0, .long (Int64.ofInt 0), ii 0, ii 0, ii 0, .null, oV b, .null]) := by rw [g1e]; exact (hl_ne (by omega) (hl_ne (by omega) hl_new))
            have g1T : TT g1 T mk ln := by rw [g1e]; exact (TT_set (by omega) (TT_set (by omega) (TT_app (by omega) zT)))
            refine pg_cast (h2 := g1) g1e.symm ?_
            have g1l : g1.length = z.length + 1 := by rw [g1e]; simp
            have g1F : rdF z g1 l := by rw [g1e]; exact (rdF_set (Or.inl rfl) (rdF_set (Or.inr (Or.inl rfl)) (rdF_app (rdF_rf _ _))))
            have g1s : mj_sl g1 = mj_sl z + 10 := by rw [g1e]; rw [sl_set (e' := cO 7 [.ref 9, ii ((a + 1 : Nat) : Int), ii wr2, ii ls, .long nm, st, tl2]) (hl_ne (by omega) (hl_app z_13)) rfl, sl_set (e' := cO 4 [ii 4, ii (tqP (T a) : Int), ii 64, .long (Int64.ofInt 0), ii 0, ii 0, ii 0, .null, .ref z.length, .null]) (hl_app z_l) rfl, sl_app, sl_op]
            have hm40 : isMk T (a + 1) 40 := hix.2.2
            have hla := TOKS_lt hK (i := a) (by omega)
            have hla1 := TOKS_lt hK (i := a + 1) (by have := hm40.1; omega)
            have hPa := hK.2.2.2.2.2.2.1 a hla
            have hPa1 : tqP (T (a + 1)) + 1 ≤ tqP (T (a + 2)) := hK.2.2.2.2.2.2.1 (a + 1) hla1
            have ea2 : tqP (T (a + 1 + 1)) = tqP (T (a + 2)) := rfl
            have hPl : ∀ j, tqP (T j) ≤ ln := P_ln hK
            by_cases ho12 : 12 ≤ o
            · refine x_cv (pc' := 100) (rest := []) dm_X7_noun_97 rfl (g_inv (As := [.ref nq, ii (o : Int)]) (S := []) g1_13 rfl rfl rfl (by decide)) rfl rfl rfl (d_indexed (f := g - 1) (i := a + 1) (b := nq) hx1 (by omega) (by omega) (okA_len hA (by omega)) hK g1T g1_13 (hE (g - 1) (by omega)) hm40 ho (by omega)) ?_
              rintro x1 k hx
              obtain ⟨kat, ktl, rfl, k_13, kF, kL, kS⟩ := IX_o ho12 hx
              have kl := kF.1
              have kFh : rdF h k hk := rdF_nw (rdF_nw zF g1F (by omega)) kF (by omega)
              refine me1 (pc' := 102) (L' := [(4, .null), (3, .ref z.length), (6, .ref z.length), (0, .ref 13), (2, ii (o : Int)), (5, ii ((c : Nat) : Int))]) (S' := []) dm_X7_noun_100 rfl rfl rfl rfl ?_
              refine y_iinc (pc' := 105) (L' := [(5, ii (((c : Nat) : Int) + 1)), (4, .null), (3, .ref z.length), (6, .ref z.length), (0, .ref 13), (2, ii (o : Int))]) dm_X7_noun_102 (y_incp (a := ((c : Nat) : Int)) (c := 1) rfl rfl (by decide)) rfl ?_
              refine me2 (pc' := 13) (S' := []) dm_X7_noun_105 rfl rfl rfl ?_
              refine me1 (pc' := 15) (L' := [(5, ii (((c : Nat) : Int) + 1)), (4, .null), (3, .ref z.length), (6, .ref z.length), (0, .ref 13), (2, ii (o : Int))]) (S' := [ii (((c : Nat) : Int) + 1)]) dm_X7_noun_13 rfl rfl rfl rfl ?_
              refine me0 (pc' := 18) (S' := [ii 200, ii (((c : Nat) : Int) + 1)]) dm_X7_noun_15 rfl rfl rfl rfl ?_
              refine y_2gt (a := ((c : Nat) : Int) + 1) (b := 200) (t := 108) (pc' := 21) dm_X7_noun_18 rfl rfl (by omega) (fun hb3 => ?_) (fun hb3 => ?_)
              · exfalso; omega
              · refine me1 (pc' := 23) (L' := [(5, ii (((c : Nat) : Int) + 1)), (4, .null), (3, .ref z.length), (6, .ref z.length), (0, .ref 13), (2, ii (o : Int))]) (S' := [.null]) dm_X7_noun_21 rfl rfl rfl rfl ?_
                refine me2 (pc' := 108) (S' := []) dm_X7_noun_23 rfl rfl rfl ?_
                refine me1 (pc' := 109) (L' := [(5, ii (((c : Nat) : Int) + 1)), (4, .null), (3, .ref z.length), (6, .ref z.length), (0, .ref 13), (2, ii (o : Int))]) (S' := [.ref 13]) dm_X7_noun_108 rfl rfl rfl rfl ?_
                refine me1 (pc' := 110) (L' := [(5, ii (((c : Nat) : Int) + 1)), (4, .null), (3, .ref z.length), (6, .ref z.length), (0, .ref 13), (2, ii (o : Int))]) (S' := [.ref z.length, .ref 13]) dm_X7_noun_109 rfl rfl rfl rfl ?_
                refine me3 (pc' := 113) (S' := []) (h1 := (k).set 13 (cO 7 [.ref 9, ii kat, ii (tqP (T (a + 1)) : Int), ii ls, .long nm, st, .ref z.length])) dm_X7_noun_110 (g_put (fs' := [.ref 9, ii kat, ii (tqP (T (a + 1)) : Int), ii ls, .long nm, st, .ref z.length]) k_13 rfl rfl rfl (by simp) rfl (by decide) (fun z => by cases z) (by decide)) rfl rfl rfl ?_
                refine me1 (pc' := 115) (L' := [(5, ii (((c : Nat) : Int) + 1)), (4, .null), (3, .ref z.length), (6, .ref z.length), (0, .ref 13), (2, ii (o : Int))]) (S' := [.null]) dm_X7_noun_113 rfl rfl rfl rfl ?_
                refine y_ret (r := some (.null)) dm_X7_noun_115 rfl rfl rfl ?_
                exact ⟨_, rfl, RN_ie (zR.trans (by rw [hg]; exact pR2_o hix ho12)) (hl_set (hl_lt k_13)) (rdF_set (Or.inl rfl) kFh) (by simp only [List.length_set]; have := hPl (a + 1); have := hPl (a + 2); omega) (by rw [sl_set (e' := cO 7 [.ref 9, ii kat, ii (tqP (T (a + 1)) : Int), ii ls, .long nm, st, .ref z.length]) k_13 rfl]; have := hPl (a + 1); have := hPl (a + 2); omega)⟩
            · rcases e : pR T (g - 1) 0 (o + 1) (a + 2) with p_e | j_e
              · refine x_cv (pc' := 100) (rest := []) dm_X7_noun_97 rfl (g_inv (As := [.ref nq, ii (o : Int)]) (S := []) g1_13 rfl rfl rfl (by decide)) rfl rfl rfl (d_indexed (f := g - 1) (i := a + 1) (b := nq) hx1 (by omega) (by omega) (okA_len hA (by omega)) hK g1T g1_13 (hE (g - 1) (by omega)) hm40 ho (by omega)) ?_
                rintro x1 k hx
                obtain ⟨kat, ktl, rfl, k_13, kF, kL, kS⟩ := IX_e ho12 e hx
                have kl := kF.1
                have kFh : rdF h k hk := rdF_nw (rdF_nw zF g1F (by omega)) kF (by omega)
                refine me1 (pc' := 102) (L' := [(4, .null), (3, .ref z.length), (6, .ref z.length), (0, .ref 13), (2, ii (o : Int)), (5, ii ((c : Nat) : Int))]) (S' := []) dm_X7_noun_100 rfl rfl rfl rfl ?_
                refine y_iinc (pc' := 105) (L' := [(5, ii (((c : Nat) : Int) + 1)), (4, .null), (3, .ref z.length), (6, .ref z.length), (0, .ref 13), (2, ii (o : Int))]) dm_X7_noun_102 (y_incp (a := ((c : Nat) : Int)) (c := 1) rfl rfl (by decide)) rfl ?_
                refine me2 (pc' := 13) (S' := []) dm_X7_noun_105 rfl rfl rfl ?_
                refine me1 (pc' := 15) (L' := [(5, ii (((c : Nat) : Int) + 1)), (4, .null), (3, .ref z.length), (6, .ref z.length), (0, .ref 13), (2, ii (o : Int))]) (S' := [ii (((c : Nat) : Int) + 1)]) dm_X7_noun_13 rfl rfl rfl rfl ?_
                refine me0 (pc' := 18) (S' := [ii 200, ii (((c : Nat) : Int) + 1)]) dm_X7_noun_15 rfl rfl rfl rfl ?_
                refine y_2gt (a := ((c : Nat) : Int) + 1) (b := 200) (t := 108) (pc' := 21) dm_X7_noun_18 rfl rfl (by omega) (fun hb4 => ?_) (fun hb4 => ?_)
                · exfalso; omega
                · refine me1 (pc' := 23) (L' := [(5, ii (((c : Nat) : Int) + 1)), (4, .null), (3, .ref z.length), (6, .ref z.length), (0, .ref 13), (2, ii (o : Int))]) (S' := [.null]) dm_X7_noun_21 rfl rfl rfl rfl ?_
                  refine me2 (pc' := 108) (S' := []) dm_X7_noun_23 rfl rfl rfl ?_
                  refine me1 (pc' := 109) (L' := [(5, ii (((c : Nat) : Int) + 1)), (4, .null), (3, .ref z.length), (6, .ref z.length), (0, .ref 13), (2, ii (o : Int))]) (S' := [.ref 13]) dm_X7_noun_108 rfl rfl rfl rfl ?_
                  refine me1 (pc' := 110) (L' := [(5, ii (((c : Nat) : Int) + 1)), (4, .null), (3, .ref z.length), (6, .ref z.length), (0, .ref 13), (2, ii (o : Int))]) (S' := [.ref z.length, .ref 13]) dm_X7_noun_109 rfl rfl rfl rfl ?_
                  refine me3 (pc' := 113) (S' := []) (h1 := (k).set 13 (cO 7 [.ref 9, ii kat, ii (p_e : Int), ii ls, .long nm, st, .ref z.length])) dm_X7_noun_110 (g_put (fs' := [.ref 9, ii kat, ii (p_e : Int), ii ls, .long nm, st, .ref z.length]) k_13 rfl rfl rfl (by simp) rfl (by decide) (fun z => by cases z) (by decide)) rfl rfl rfl ?_
                  refine me1 (pc' := 115) (L' := [(5, ii (((c : Nat) : Int) + 1)), (4, .null), (3, .ref z.length), (6, .ref z.length), (0, .ref 13), (2, ii (o : Int))]) (S' := [.null]) dm_X7_noun_113 rfl rfl rfl rfl ?_
                  refine y_ret (r := some (.null)) dm_X7_noun_115 rfl rfl rfl ?_
                  exact ⟨_, rfl, RN_ie (zR.trans (by rw [hg]; exact pR2_e hix (by omega) e)) (hl_set (hl_lt k_13)) (rdF_set (Or.inl rfl) kFh) (by simp only [List.length_set]; have := hPl (a + 1); have := hPl (a + 2); omega) (by rw [sl_set (e' := cO 7 [.ref 9, ii kat, ii (p_e : Int), ii ls, .long nm, st, .ref z.length]) k_13 rfl]; have := hPl (a + 1); have := hPl (a + 2); omega)⟩
              · have hj := pR_mk hK _ 0 _ _ _ (by omega) e
                have hjj := hj.2.2 (by decide)
                by_cases hmk : isMk T j_e 41
                · have hlj := TOKS_lt hK (i := j_e) (by have := hmk.1; omega)
                  have hPj := hK.2.2.2.2.2.2.1 j_e hlj
                  refine x_cv (pc' := 100) (rest := []) dm_X7_noun_97 rfl (g_inv (As := [.ref nq, ii (o : Int)]) (S := []) g1_13 rfl rfl rfl (by decide)) rfl rfl rfl (d_indexed (f := g - 1) (i := a + 1) (b := nq) hx1 (by omega) (by omega) (okA_len hA (by omega)) hK g1T g1_13 (hE (g - 1) (by omega)) hm40 ho (by omega)) ?_
                  rintro x1 k hx
                  obtain ⟨kop, kwr, ktl, rfl, k_13, kF, kO, kC, kL, kS⟩ := IX_v ho12 e hmk hx
                  have kl := kF.1
                  have kFh : rdF h k hk := rdF_nw (rdF_nw zF g1F (by omega)) kF (by omega)
                  refine me1 (pc' := 102) (L' := [(4, .ref kop), (3, .ref z.length), (6, .ref z.length), (0, .ref 13), (2, ii (o : Int)), (5, ii ((c : Nat) : Int))]) (S' := []) dm_X7_noun_100 rfl rfl rfl rfl ?_
                  refine y_iinc (pc' := 105) (L' := [(5, ii (((c : Nat) : Int) + 1)), (4, .ref kop), (3, .ref z.length), (6, .ref z.length), (0, .ref 13), (2, ii (o : Int))]) dm_X7_noun_102 (y_incp (a := ((c : Nat) : Int)) (c := 1) rfl rfl (by decide)) rfl ?_
                  refine me2 (pc' := 13) (S' := []) dm_X7_noun_105 rfl rfl rfl ?_
                  exact pg_sub (L := [(0, .ref 13), (2, ii (o : Int)), (3, .ref z.length), (4, .ref kop), (5, ii (((c + 1) : Nat) : Int))]) rfl rfl rfl (ih13 (mk - (j_e + 1)) (by omega) (c + 1) (j_e + 1) (g - 1) kop z.length k kwr ktl rfl (NI_s (g := g - 1) (g1 := g1) hl hA hhk (by rw [← hg]; exact hN) hix (by omega) e hmk (by omega) g1F g1l g1s g1_k0 g1_k1 kF k_13 kO kC kL kS (by omega) (by omega)))
                · refine x_cv (pc' := 100) (rest := []) dm_X7_noun_97 rfl (g_inv (As := [.ref nq, ii (o : Int)]) (S := []) g1_13 rfl rfl rfl (by decide)) rfl rfl rfl (d_indexed (f := g - 1) (i := a + 1) (b := nq) hx1 (by omega) (by omega) (okA_len hA (by omega)) hK g1T g1_13 (hE (g - 1) (by omega)) hm40 ho (by omega)) ?_
                  rintro x1 k hx
                  obtain ⟨kat, ktl, rfl, k_13, kF, kL, kS⟩ := IX_x ho12 e hmk hx
                  have kl := kF.1
                  have kFh : rdF h k hk := rdF_nw (rdF_nw zF g1F (by omega)) kF (by omega)
                  refine me1 (pc' := 102) (L' := [(4, .null), (3, .ref z.length), (6, .ref z.length), (0, .ref 13), (2, ii (o : Int)), (5, ii ((c : Nat) : Int))]) (S' := []) dm_X7_noun_100 rfl rfl rfl rfl ?_
                  refine y_iinc (pc' := 105) (L' := [(5, ii (((c : Nat) : Int) + 1)), (4, .null), (3, .ref z.length), (6, .ref z.length), (0, .ref 13), (2, ii (o : Int))]) dm_X7_noun_102 (y_incp (a := ((c : Nat) : Int)) (c := 1) rfl rfl (by decide)) rfl ?_
                  refine me2 (pc' := 13) (S' := []) dm_X7_noun_105 rfl rfl rfl ?_
                  refine me1 (pc' := 15) (L' := [(5, ii (((c : Nat) : Int) + 1)), (4, .null), (3, .ref z.length), (6, .ref z.length), (0, .ref 13), (2, ii (o : Int))]) (S' := [ii (((c : Nat) : Int) + 1)]) dm_X7_noun_13 rfl rfl rfl rfl ?_
                  refine me0 (pc' := 18) (S' := [ii 200, ii (((c : Nat) : Int) + 1)]) dm_X7_noun_15 rfl rfl rfl rfl ?_
                  refine y_2gt (a := ((c : Nat) : Int) + 1) (b := 200) (t := 108) (pc' := 21) dm_X7_noun_18 rfl rfl (by omega) (fun hb5 => ?_) (fun hb5 => ?_)
                  · exfalso; omega
                  · refine me1 (pc' := 23) (L' := [(5, ii (((c : Nat) : Int) + 1)), (4, .null), (3, .ref z.length), (6, .ref z.length), (0, .ref 13), (2, ii (o : Int))]) (S' := [.null]) dm_X7_noun_21 rfl rfl rfl rfl ?_
                    refine me2 (pc' := 108) (S' := []) dm_X7_noun_23 rfl rfl rfl ?_
                    refine me1 (pc' := 109) (L' := [(5, ii (((c : Nat) : Int) + 1)), (4, .null), (3, .ref z.length), (6, .ref z.length), (0, .ref 13), (2, ii (o : Int))]) (S' := [.ref 13]) dm_X7_noun_108 rfl rfl rfl rfl ?_
                    refine me1 (pc' := 110) (L' := [(5, ii (((c : Nat) : Int) + 1)), (4, .null), (3, .ref z.length), (6, .ref z.length), (0, .ref 13), (2, ii (o : Int))]) (S' := [.ref z.length, .ref 13]) dm_X7_noun_109 rfl rfl rfl rfl ?_
                    refine me3 (pc' := 113) (S' := []) (h1 := (k).set 13 (cO 7 [.ref 9, ii kat, ii (tqP (T j_e) : Int), ii ls, .long nm, st, .ref z.length])) dm_X7_noun_110 (g_put (fs' := [.ref 9, ii kat, ii (tqP (T j_e) : Int), ii ls, .long nm, st, .ref z.length]) k_13 rfl rfl rfl (by simp) rfl (by decide) (fun z => by cases z) (by decide)) rfl rfl rfl ?_
                    refine me1 (pc' := 115) (L' := [(5, ii (((c : Nat) : Int) + 1)), (4, .null), (3, .ref z.length), (6, .ref z.length), (0, .ref 13), (2, ii (o : Int))]) (S' := [.null]) dm_X7_noun_113 rfl rfl rfl rfl ?_
                    refine y_ret (r := some (.null)) dm_X7_noun_115 rfl rfl rfl ?_
                    exact ⟨_, rfl, RN_ie (zR.trans (by rw [hg]; exact pR2_x hix (by omega) e hmk)) (hl_set (hl_lt k_13)) (rdF_set (Or.inl rfl) kFh) (by simp only [List.length_set]; have := hPl (a + 1); have := hPl (a + 2); have := hPl j_e; omega) (by rw [sl_set (e' := cO 7 [.ref 9, ii kat, ii (tqP (T j_e) : Int), ii ls, .long nm, st, .ref z.length]) k_13 rfl]; have := hPl (a + 1); have := hPl (a + 2); have := hPl j_e; omega)⟩
    exact pg_sub (L := [(0, .ref 13), (2, ii (o : Int)), (3, .ref hk), (4, .ref k0op), (5, ii ((0 : Nat) : Int))]) rfl rfl rfl (lp13 _ 0 j_e0 f k0op hk k0 k0wr k0tl rfl (NI_0 hl hA hhk hhc e0 k0_13 k0F k0O k0C (by have hc : ceM 3 = 0 := rfl; omega) (by have hc : ceM 3 = 0 := rfl; omega) (by omega) (by omega)))
